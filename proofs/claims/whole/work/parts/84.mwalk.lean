/-! the walk of the reference over the moments -/
def herF (P : Nat → OS) : Nat → Nat → Int
  | 0, _ => -1
  | m + 1, k => evM P m k
def tkF (P : Nat → OS) : Nat → Int
  | 0 => -1
  | m + 1 => momT P m
/-- m moments have been gone to -/
def WS (P : Nat → OS) (m : Nat) (p : OS) : Prop := p.1 15 = tkF P m ∧ ∀ k : Nat, k < 4 → p.2 16 k = herF P m k ∧ p.2 17 k = nxM P m k
/-- nothing but the walk's own has changed -/
def WU (p p' : OS) : Prop := (∀ j : Nat, j ≠ 15 → p'.1 j = p.1 j) ∧ ∀ i : Nat, i ≠ 16 → i ≠ 17 → p'.2 i = p.2 i
theorem WU.rf {p : OS} : WU p p := ⟨fun _ _ => rfl, fun _ _ _ => rfl⟩
theorem WU.tr {p p' p'' : OS} (a : WU p p') (b : WU p' p'') : WU p p'' := ⟨fun j hj => (b.1 j hj).trans (a.1 j hj), fun i h1 h2 => (b.2 i h1 h2).trans (a.2 i h1 h2)⟩
theorem WU.mi {d : MD} {P mp : Nat → OS} {p0 p p' : OS} (h : WU p p') (hI : MI d P p0 mp p.2) : MI d P p0 mp p'.2 := hI.arr (h.2 2 (by decide) (by decide)) (h.2 3 (by decide) (by decide)) (h.2 4 (by decide) (by decide))
theorem evM_eq (P : Nat → OS) (m k : Nat) : evM P m k = egE (P k) (nxM P (m + 1) k) (momT P m) := rfl
theorem herF_in {P : Nat → OS} (hs : scoOK P) {m k : Nat} (hk : k < 4) : -1 ≤ herF P m k ∧ herF P m k < (P k).1 7 := by
  cases m with
  | zero => have := (hs k hk).1; unfold pN at this; show -1 ≤ (-1 : Int) ∧ (-1 : Int) < _; omega
  | succ m => exact evM_rg hs hk
theorem her_hit {P : Nat → OS} (hs : scoOK P) {m k : Nat} (hk : k < 4) (c : nxM P m k < (P k).1 7) (ct : (P k).2 3 (nxM P m k) = momT P m) : evM P m k = nxM P m k ∧ nxM P (m + 1) k = nxM P m k + 1 := by
  have r := nxM_rg hs hk m
  have e : nxM P (m + 1) k = nxM P m k + 1 := by
    rw [nxM_s]; unfold egN; rw [if_pos ⟨⟨r.1, c⟩, ct⟩]
  refine ⟨?_, e⟩
  rw [evM_eq, e]
  unfold egE
  have l := (hs k hk).len r.1 c
  rw [show nxM P m k + 1 - 1 = nxM P m k by omega, if_pos ⟨⟨r.1, c⟩, by omega⟩]
theorem her_miss {P : Nat → OS} (hs : scoOK P) {m k : Nat} (hk : k < 4) (hm : momT P m ≠ -1) (c : ¬ (nxM P m k < (P k).1 7 ∧ (P k).2 3 (nxM P m k) = momT P m)) : nxM P (m + 1) k = nxM P m k ∧ evM P m k = (if herF P m k ≠ -1 ∧ endF (P k) (herF P m k) ≤ momT P m then -1 else herF P m k) := by
  have r := nxM_rg hs hk m
  have e : nxM P (m + 1) k = nxM P m k := by
    rw [nxM_s]; unfold egN; rw [if_neg (fun z => c ⟨z.1.2, z.2⟩)]
  refine ⟨e, ?_⟩
  rw [evM_eq, e]
  cases m with
  | zero =>
    have h0 : herF P 0 k = -1 := rfl
    have h1 : nxM P 0 k = 0 := rfl
    rw [h0, if_neg (fun z => z.1 rfl), h1]
    unfold egE
    rw [if_neg (fun z => by have := z.1.1; omega)]
  | succ m =>
    have h0 : herF P (m + 1) k = evM P m k := rfl
    rw [h0]
    have hlt := momT_lt hs hm
    rw [evM_eq]
    unfold egE endF
    by_cases c1 : inP (P k) (nxM P (m + 1) k - 1) ∧ momT P m < (P k).2 3 (nxM P (m + 1) k - 1) + (P k).2 4 (nxM P (m + 1) k - 1)
    · rw [if_pos c1]
      have h0 := c1.1.1
      by_cases c2 : (P k).2 3 (nxM P (m + 1) k - 1) + (P k).2 4 (nxM P (m + 1) k - 1) ≤ momT P (m + 1)
      · rw [if_neg (fun z => by have := z.2; omega), if_pos ⟨by omega, c2⟩]
      · rw [if_pos ⟨c1.1, by omega⟩, if_neg (fun z => c2 z.2)]
    · rw [if_neg c1, if_neg (fun z => c1 ⟨z.1, by have := z.2; omega⟩), if_neg (fun z => z.1 rfl)]
theorem I32_max : (2147483647 : Int32) = Int32.ofInt 2147483647 := by decide
def toF (P : Nat → OS) (m : Nat) (k : Nat) : Int := if nbF P (fun j => nxM P m j.toNat) k = -1 then 2147483647 else nbF P (fun j => nxM P m j.toNat) k
theorem toF_s {P : Nat → OS} (hs : scoOK P) (m : Nat) {k : Nat} (hk : k < 4) : toF P m (k + 1) = if nxM P m k < (P k).1 7 then min (toF P m k) ((P k).2 3 (nxM P m k)) else toF P m k := by
  have r := nxM_rg hs hk m
  have g := nbF_rg hs.Z (bg := fun j => nxM P m j.toNat) k (by omega)
  by_cases c : nxM P m k < (P k).1 7
  · have z := ((hs k hk).2.1 _ r.1 c).2.2.2.1
    have e : nbF P (fun j => nxM P m j.toNat) (k + 1) = if nbF P (fun j => nxM P m j.toNat) k = -1 then (P k).2 3 (nxM P m k) else min (nbF P (fun j => nxM P m j.toNat) k) ((P k).2 3 (nxM P m k)) := by
      rw [nbF_s]
      simp only [Int.toNat_natCast]
      exact if_pos ⟨r.1, c⟩
    unfold toF
    rw [e, if_pos c]
    (repeat' split) <;> omega
  · have e : nbF P (fun j => nxM P m j.toNat) (k + 1) = nbF P (fun j => nxM P m j.toNat) k := by
      rw [nbF_s]
      simp only [Int.toNat_natCast]
      exact if_neg (fun q => c q.2)
    unfold toF
    rw [e, if_neg c]
theorem toF_rg {P : Nat → OS} (hs : scoOK P) (m : Nat) (k : Nat) (hk : k ≤ 4) : -1 ≤ toF P m k ∧ toF P m k ≤ 2147483647 := by
  have g := nbF_rg hs.Z (bg := fun j => nxM P m j.toNat) k hk
  unfold toF
  split <;> omega
theorem toF_4 {P : Nat → OS} (hs : scoOK P) (m : Nat) : (momT P m = -1 → toF P m 4 = 2147483647) ∧ (momT P m ≠ -1 → toF P m 4 = momT P m ∧ momT P m < 2147483647) := by
  have g := momT_rg hs m
  refine ⟨fun e => if_pos e, fun e => ⟨if_neg e, by omega⟩⟩
set_option maxRecDepth 100000 in
theorem c_X11_beginWalk {l : Launch} {G : jG} {h : jH} {a : Nat} {d : MD} {mp P : Nat → OS} {p p0 : OS} {Z : Nat → Nat} (hM : Mod G h a d mp p) (hZ : Mz a d Z) (hI : MI d P p0 mp p.2) : jC l G yX11_beginWalk mX11_beginWalk [.ref a] h (jW oN (fun h' => ∃ p', Mod G h' a d mp p' ∧ WS P 0 p' ∧ WU p p' ∧ Fr (FtM a d) h h')) := by
  have hF : Fr (FtM a d) h h := Fr.rf
  have loop : ∀ (n k : Nat) (p' : OS) (h2 : jH), k + n = 4 → Mod G h2 a d mp p' → p'.1 15 = -1 → WU p p' → (∀ j : Nat, j < k → p'.2 16 j = -1 ∧ p'.2 17 j = 0) → Fr (FtM a d) h h2 → J l G mX11_beginWalk (jQ G mX11_beginWalk (jW oN (fun h' => ∃ p', Mod G h' a d mp p' ∧ WS P 0 p' ∧ WU p p' ∧ Fr (FtM a d) h h'))) 0 0 7 [(1, vI (k : Int)), (0, .ref a)] [] h2 := by
    intro n
    induction n with
    | zero =>
      intro k p' h2 hk hM h15 hU hj hF
      obtain rfl : k = 4 := by omega
      have hP := hM.1
      refine j_iload_n 1 dX11_beginWalk_7 rfl rfl ?_
      refine J_iconst dX11_beginWalk_8 ?_
      refine J_icmp_ge 32 dX11_beginWalk_9 (by decide) (fun c9 => ?_) (fun c9 => absurd c9 (by omega)) 
      refine j_vret rfl dX11_beginWalk_32 ?_
      exact ⟨rfl, p', hM, ⟨h15, fun j hj2 => hj j hj2⟩, hU, hF⟩
    | succ n ih =>
      intro k p' h2 hk hM h15 hU hj hF
      have hP := hM.1
      refine j_iload_n 1 dX11_beginWalk_7 rfl rfl ?_
      refine J_iconst dX11_beginWalk_8 ?_
      refine J_icmp_ge 32 dX11_beginWalk_9 (by decide) (fun c9 => absurd c9 (by omega)) (fun c9 => ?_) 
      refine j_aload_n 0 dX11_beginWalk_12 rfl rfl ?_
      refine j_get fX11_62 dX11_beginWalk_13 hP.1 rfl ?_
      refine j_iload_n 1 dX11_beginWalk_16 rfl rfl ?_
      refine J_iconst dX11_beginWalk_17 ?_
      refine J_iastA 16 hP rfl (fun _ => rfl) (fun _ => rfl) dX11_beginWalk_18 (fun h hP hF18 => ?_) 
      have hM := hM.w hZ hP hF18
      have hF := hF.tr (hF18.mono (fun _ q => Or.inl q))
      obtain ⟨Fa, hpa, hFa⟩ := hM.2.1
      refine j_aload_n 0 dX11_beginWalk_19 rfl rfl ?_
      refine j_get fX11_65 dX11_beginWalk_20 hP.1 rfl ?_
      refine j_iload_n 1 dX11_beginWalk_23 rfl rfl ?_
      refine J_iconst dX11_beginWalk_24 ?_
      refine J_iastA 17 hP rfl (fun _ => rfl) (fun _ => rfl) dX11_beginWalk_25 (fun h hP hF25 => ?_) 
      have hM := hM.w hZ hP hF25
      have hF := hF.tr (hF25.mono (fun _ q => Or.inl q))
      obtain ⟨Fa, hpa, hFa⟩ := hM.2.1
      refine J_iinc (L' := [(1, _), (0, _)]) dX11_beginWalk_26 rfl rfl rfl ?_
      refine j_goto 7 dX11_beginWalk_29 (by decide) ?_
      exact ih (k + 1) _ _ (by omega) hM h15 ⟨hU.1, fun i h1 h2 => by show (if i = 17 then _ else if i = 16 then _ else _) = _; rw [if_neg h2, if_neg h1]; exact hU.2 i h1 h2⟩ (fun j hj2 => by
        show upI (p'.2 16) k (-1) j = -1 ∧ upI (p'.2 17) k 0 j = 0
        by_cases e : j = k
        · subst e; rw [upI_s, upI_s]; exact ⟨rfl, rfl⟩
        · rw [upI_n (by omega), upI_n (by omega)]; exact hj j (by omega)) hF
  refine j_body (by decide +kernel) ⟨rfl, rfl⟩ rfl ?_
  have hP := hM.1
  refine j_aload_n 0 dX11_beginWalk_0 rfl rfl ?_
  refine J_iconst dX11_beginWalk_1 ?_
  refine J_putA hP fX11_239 tyX11_tick dX11_beginWalk_2 rfl rfl (fun h hP hF2 => ?_)
  have hM := hM.w hZ hP hF2
  have hF := hF.tr (hF2.mono (fun _ q => Or.inl q))
  obtain ⟨Fa, hpa, hFa⟩ := hM.2.1
  refine J_iconst dX11_beginWalk_5 ?_
  refine j_istore_n 1 (L' := [(1, _), (0, _)]) dX11_beginWalk_6 rfl rfl rfl ?_
  exact j_locR (loop 4 0 _ _ (by omega) hM rfl ⟨fun j hj => by show (if j = 15 then _ else _) = _; rw [if_neg hj], fun _ _ _ => rfl⟩ (fun j hj => absurd hj (by omega)) hF) (by repeat' (first | exact True.intro | refine And.intro rfl ?_))
theorem WUw {p p' : OS} (hU : WU p p') {x y : Int → Int} : WU p (oA (oA p' 16 x) 17 y) := ⟨hU.1, fun i h1 h2 => by rw [oA_n h2, oA_n h1]; exact hU.2 i h1 h2⟩
theorem WUw1 {p p' : OS} (hU : WU p p') {x : Int → Int} : WU p (oA p' 16 x) := ⟨hU.1, fun i h1 h2 => by rw [oA_n h1]; exact hU.2 i h1 h2⟩
section WLK
variable {P : Nat → OS} {m k : Nat} {p' : OS}
abbrev WLK (P : Nat → OS) (m k : Nat) (p' : OS) : Prop := ∀ j : Nat, j < 4 → p'.2 16 j = (if j < k then evM P m j else herF P m j) ∧ p'.2 17 j = (if j < k then nxM P (m + 1) j else nxM P m j)
theorem wlk_gen (hj : WLK P m k p') (hk : k < 4) {F16 F17 : Int → Int} (h16 : F16 k = evM P m k) (h17 : F17 k = nxM P (m + 1) k) (o16 : ∀ j : Int, j ≠ k → F16 j = p'.2 16 j) (o17 : ∀ j : Int, j ≠ k → F17 j = p'.2 17 j) : ∀ j : Nat, j < 4 → F16 j = (if j < k + 1 then evM P m j else herF P m j) ∧ F17 j = (if j < k + 1 then nxM P (m + 1) j else nxM P m j) := fun j h4 => by
  by_cases e : j = k
  · subst e
    rw [if_pos (by omega), if_pos (by omega)]
    exact ⟨h16, h17⟩
  · rw [o16 j (by omega), o17 j (by omega), (hj j h4).1, (hj j h4).2]
    by_cases d : j < k
    · rw [if_pos d, if_pos d, if_pos (by omega), if_pos (by omega)]; exact ⟨rfl, rfl⟩
    · rw [if_neg d, if_neg d, if_neg (by omega), if_neg (by omega)]; exact ⟨rfl, rfl⟩
theorem wlk_hit (hj : WLK P m k p') (hk : k < 4) (e : evM P m k = nxM P m k ∧ nxM P (m + 1) k = nxM P m k + 1) : WLK P m (k + 1) (oA (oA p' 16 (upI (p'.2 16) k (nxM P m k))) 17 (upI (p'.2 17) k (nxM P m k + 1))) :=
  wlk_gen hj hk (F16 := upI (p'.2 16) k (nxM P m k)) (F17 := upI (p'.2 17) k (nxM P m k + 1)) ((upI_s _ _ _).trans e.1.symm) ((upI_s _ _ _).trans e.2.symm) (fun _ hne => upI_n hne) (fun _ hne => upI_n hne)
theorem wlk_end (hj : WLK P m k p') (hk : k < 4) {x : Int} (e : nxM P (m + 1) k = nxM P m k ∧ evM P m k = x) (ex : x = -1) : WLK P m (k + 1) (oA p' 16 (upI (p'.2 16) k (-1))) :=
  wlk_gen hj hk (F16 := upI (p'.2 16) k (-1)) (F17 := p'.2 17) ((upI_s _ _ _).trans (e.2.trans ex).symm) (by have := (hj k hk).2; rw [if_neg (by omega)] at this; rw [this, e.1]) (fun _ hne => upI_n hne) (fun _ _ => rfl)
theorem wlk_stay (hj : WLK P m k p') (hk : k < 4) {x : Int} (e : nxM P (m + 1) k = nxM P m k ∧ evM P m k = x) (ex : x = herF P m k) : WLK P m (k + 1) p' :=
  wlk_gen hj hk (F16 := p'.2 16) (F17 := p'.2 17) (by have := (hj k hk).1; rw [if_neg (by omega)] at this; rw [this, e.2, ex]) (by have := (hj k hk).2; rw [if_neg (by omega)] at this; rw [this, e.1]) (fun _ _ => rfl) (fun _ _ => rfl)
end WLK
set_option maxRecDepth 100000 in
theorem c0_X11_walk {l : Launch} {G : jG} {h : jH} {a : Nat} {d : MD} {mp P : Nat → OS} {p p0 : OS} {Z : Nat → Nat} {m : Nat} (hM : Mod G h a d mp p) (hZ : Mz a d Z) (hI : MI d P p0 mp p.2) (hW : WS P m p) (hm : momT P m = -1) : jC l G yX11_walk mX11_walk [.ref a] h (jE (oI 0) h) := by
  have hP := hM.1
  have hs := hI.1.1
  obtain ⟨Fa, hpa, hFa⟩ := hM.2.1
  have hF : Fr (FtM a d) h h := Fr.rf
  have hT := toF_4 hs m
  have loop : ∀ (n k : Nat), k + n = 4 → J l G mX11_walk (jQ G mX11_walk (jE (oI 0) h)) 0 0 5 [(2, vI (k : Int)), (1, vI (toF P m k)), (0, .ref a)] [] h := by
    intro n
    induction n with
    | zero =>
      intro k hk
      obtain rfl : k = 4 := by omega
      have rT := toF_rg hs m 4 (by omega)
      refine j_iload_n 2 dX11_walk_5 rfl rfl ?_
      refine J_iconst dX11_walk_6 ?_
      refine J_icmp_ge 55 dX11_walk_7 (by decide) (fun c7 => ?_) (fun c7 => absurd c7 (by omega)) 
      refine j_iload_n 1 dX11_walk_55 rfl rfl ?_
      refine j_ldc _ dX11_walk_56 vX11_244 ?_
      rw [I32_max]
      refine J_icmp_ne 63 dX11_walk_58 (by decide) (fun c58 => absurd c58 (by have := hT.1 hm; omega)) (fun c58 => ?_) 
      refine J_iconst dX11_walk_61 ?_
      refine j_zret rfl rfl dX11_walk_62 ⟨oIe ?_, rfl⟩
      rfl
    | succ n ih =>
      intro k hk
      have hk4 : k < 4 := by omega
      have g := ih (k + 1) (by omega)
      rw [toF_s hs m hk4] at g
      have rT := toF_rg hs m k (by omega)
      have hPk := hM.2.2 k hk4
      have hmk := hI.2.1 k hk4
      have hpk := hs k hk4
      have hn7 : 0 ≤ (P k).1 7 ∧ (P k).1 7 ≤ 512 := hpk.1
      have r := nxM_rg hs hk4 m
      have hen := hmk.2.2.1
      have hez := hmk.2.2.2
      have g17 := (hW.2 k hk4).2
      have bz : nxM P m k < (P k).1 7 → 0 ≤ (P k).2 3 (nxM P m k) ∧ (P k).2 3 (nxM P m k) ≤ 20000 := fun q => (hpk.2.1 _ r.1 q).2.2.2.1
      refine j_iload_n 2 dX11_walk_5 rfl rfl ?_
      refine J_iconst dX11_walk_6 ?_
      refine J_icmp_ge 55 dX11_walk_7 (by decide) (fun c7 => absurd c7 (by omega)) (fun c7 => ?_) 
      refine j_aload_n 0 dX11_walk_10 rfl rfl ?_
      refine j_get fX11_65 dX11_walk_11 hP.1 rfl ?_
      refine j_iload_n 2 dX11_walk_14 rfl rfl ?_
      refine J_iald dX11_walk_15 (hP.2.1 17 rfl) ?_ 
      refine J_top (nxM P m k) ?_ (by exact g17)
      refine j_aload_n 0 dX11_walk_16 rfl rfl ?_
      refine j_get fX11_24 dX11_walk_17 hP.1 rfl ?_
      refine j_iload_n 2 dX11_walk_20 rfl rfl ?_
      refine J_qaldM dX11_walk_21 hpa (by rw [Int.toNat_natCast]; exact hFa k hk4) ?_ 
      refine j_getN fX11_99 dX11_walk_22 hPk.1 rfl ?_
      refine J_top ((P k).1 7) ?_ (by exact hmk.1.1)
      refine J_icmp_ge 49 dX11_walk_25 (by decide) (fun c25 => ?_) (fun c25 => ?_) 
      · refine J_iinc (L' := [(2, _), (1, _), (0, _)]) dX11_walk_49 rfl rfl rfl ?_
        refine j_goto 5 dX11_walk_52 (by decide) ?_
        first
        | (rw [if_pos c25] at g; exact j_locR g (by repeat' (first | exact True.intro | refine And.intro rfl ?_)))
        | (rw [if_neg (Int.not_lt.mpr c25)] at g; exact j_locR g (by repeat' (first | exact True.intro | refine And.intro rfl ?_)))
      · refine j_iload_n 1 dX11_walk_28 rfl rfl ?_
        refine j_aload_n 0 dX11_walk_29 rfl rfl ?_
        refine j_get fX11_24 dX11_walk_30 hP.1 rfl ?_
        refine j_iload_n 2 dX11_walk_33 rfl rfl ?_
        refine J_qaldM dX11_walk_34 hpa (by rw [Int.toNat_natCast]; exact hFa k hk4) ?_ 
        refine j_getN fX11_170 dX11_walk_35 hPk.1 rfl ?_
        refine j_aload_n 0 dX11_walk_38 rfl rfl ?_
        refine j_get fX11_65 dX11_walk_39 hP.1 rfl ?_
        refine j_iload_n 2 dX11_walk_42 rfl rfl ?_
        refine J_iald dX11_walk_43 (hP.2.1 17 rfl) ?_ 
        refine J_top (nxM P m k) ?_ (by exact g17)
        refine J_iald dX11_walk_44 (hPk.2.1 1 rfl) ?_ 
        refine J_top ((P k).2 3 (nxM P m k)) ?_ (by exact (hmk.2.1 _ r.1 c25).1)
        have bz2 := bz c25
        refine J_mmin kX11_211 rfl rfl dX11_walk_45 ?_ 
        refine j_istore_n 1 (L' := [(1, _), (2, _), (0, _)]) dX11_walk_48 rfl rfl rfl ?_
        refine J_iinc (L' := [(2, _), (1, _), (0, _)]) dX11_walk_49 rfl rfl rfl ?_
        refine j_goto 5 dX11_walk_52 (by decide) ?_
        first
        | (rw [if_pos c25] at g; exact j_locR g (by repeat' (first | exact True.intro | refine And.intro rfl ?_)))
        | (rw [if_neg (Int.not_lt.mpr c25)] at g; exact j_locR g (by repeat' (first | exact True.intro | refine And.intro rfl ?_)))
  refine j_body (by decide +kernel) ⟨rfl, rfl⟩ rfl ?_
  refine j_ldc _ dX11_walk_0 vX11_244 ?_
  rw [I32_max]
  refine j_istore_n 1 (L' := [(1, _), (0, _)]) dX11_walk_2 rfl rfl rfl ?_
  refine J_iconst dX11_walk_3 ?_
  refine j_istore_n 2 (L' := [(2, _), (1, _), (0, _)]) dX11_walk_4 rfl rfl rfl ?_
  exact j_locR (loop 4 0 (by omega)) (by repeat' (first | exact True.intro | refine And.intro rfl ?_))
set_option maxRecDepth 100000 in
theorem c1_X11_walk {l : Launch} {G : jG} {h : jH} {a : Nat} {d : MD} {mp P : Nat → OS} {p p0 : OS} {Z : Nat → Nat} {m : Nat} (hM : Mod G h a d mp p) (hZ : Mz a d Z) (hI : MI d P p0 mp p.2) (hW : WS P m p) (hm : momT P m ≠ -1) : jC l G yX11_walk mX11_walk [.ref a] h (jW (oI 1) (fun h' => ∃ p', Mod G h' a d mp p' ∧ WS P (m + 1) p' ∧ WU p p' ∧ Fr (FtM a d) h h')) := by
  have hP := hM.1
  have hs := hI.1.1
  obtain ⟨Fa, hpa, hFa⟩ := hM.2.1
  have hF : Fr (FtM a d) h h := Fr.rf
  have hT := toF_4 hs m
  have loop2 : ∀ (n k : Nat) (p' : OS) (h2 : jH), k + n = 4 → Mod G h2 a d mp p' → p'.1 15 = momT P m → WU p p' → (∀ j : Nat, j < 4 → p'.2 16 j = (if j < k then evM P m j else herF P m j) ∧ p'.2 17 j = (if j < k then nxM P (m + 1) j else nxM P m j)) → Fr (FtM a d) h h2 → J l G mX11_walk (jQ G mX11_walk (jW (oI 1) (fun h' => ∃ p', Mod G h' a d mp p' ∧ WS P (m + 1) p' ∧ WU p p' ∧ Fr (FtM a d) h h'))) 0 0 70 [(2, vI (k : Int)), (1, vI (momT P m)), (0, .ref a)] [] h2 := by
    intro n
    induction n with
    | zero =>
      intro k p' h2 hk hM h15 hU hj hF
      obtain rfl : k = 4 := by omega
      have hP := hM.1
      refine j_iload_n 2 dX11_walk_70 rfl rfl ?_
      refine J_iconst dX11_walk_71 ?_
      refine J_icmp_ge 180 dX11_walk_72 (by decide) (fun c72 => ?_) (fun c72 => absurd c72 (by omega)) 
      refine J_iconst dX11_walk_180 ?_
      refine j_zret rfl rfl dX11_walk_181 ?_
      exact ⟨rfl, p', hM, ⟨h15, fun j hj2 => by have g := hj j hj2; rw [if_pos hj2, if_pos hj2] at g; exact g⟩, hU, hF⟩
    | succ n ih =>
      intro k p' h2 hk hM h15 hU hj hF
      have hP := hM.1
      have hk4 : k < 4 := by omega
      obtain ⟨Fa, hpa, hFa⟩ := hM.2.1
      have hPk := hM.2.2 k hk4
      have hmk := hI.2.1 k hk4
      have hpk := hs k hk4
      have hn7 : 0 ≤ (P k).1 7 ∧ (P k).1 7 ≤ 512 := hpk.1
      have r := nxM_rg hs hk4 m
      have rh := herF_in hs (m := m) hk4
      have rt := momT_rg hs m
      have hen := hmk.2.2.1
      have hez := hmk.2.2.2
      obtain ⟨g16, g17⟩ := hj k hk4
      rw [if_neg (by omega)] at g16 g17
      have bz : nxM P m k < (P k).1 7 → 0 ≤ (P k).2 3 (nxM P m k) ∧ (P k).2 3 (nxM P m k) ≤ 20000 := fun q => (hpk.2.1 _ r.1 q).2.2.2.1
      refine j_iload_n 2 dX11_walk_70 rfl rfl ?_
      refine J_iconst dX11_walk_71 ?_
      refine J_icmp_ge 180 dX11_walk_72 (by decide) (fun c72 => absurd c72 (by omega)) (fun c72 => ?_) 
      refine j_aload_n 0 dX11_walk_75 rfl rfl ?_
      refine j_get fX11_65 dX11_walk_76 hP.1 rfl ?_
      refine j_iload_n 2 dX11_walk_79 rfl rfl ?_
      refine J_iald dX11_walk_80 (hP.2.1 17 rfl) ?_ 
      refine J_top (nxM P m k) ?_ (by exact g17)
      refine j_aload_n 0 dX11_walk_81 rfl rfl ?_
      refine j_get fX11_24 dX11_walk_82 hP.1 rfl ?_
      refine j_iload_n 2 dX11_walk_85 rfl rfl ?_
      refine J_qaldM dX11_walk_86 hpa (by rw [Int.toNat_natCast]; exact hFa k hk4) ?_ 
      refine j_getN fX11_99 dX11_walk_87 hPk.1 rfl ?_
      refine J_top ((P k).1 7) ?_ (by exact hmk.1.1)
      refine J_icmp_ge 138 dX11_walk_90 (by decide) (fun c90 => ?_) (fun c90 => ?_) 
      · refine j_aload_n 0 dX11_walk_138 rfl rfl ?_
        refine j_get fX11_62 dX11_walk_139 hP.1 rfl ?_
        refine j_iload_n 2 dX11_walk_142 rfl rfl ?_
        refine J_iald dX11_walk_143 (hP.2.1 16 rfl) ?_ 
        refine J_top (herF P m k) ?_ (by exact g16)
        refine J_iconst dX11_walk_144 ?_
        refine J_icmp_eq 174 dX11_walk_145 (by decide) (fun c145 => ?_) (fun c145 => ?_) 
        · refine J_iinc (L' := [(2, _), (1, _), (0, _)]) dX11_walk_174 rfl rfl rfl ?_
          refine j_goto 70 dX11_walk_177 (by decide) ?_
          first
          | exact j_locR (ih (k + 1) _ _ (by omega) hM h15 (WUw hU) (wlk_hit hj hk4 (her_hit hs hk4 c90 c110)) hF) (by repeat' (first | exact True.intro | refine And.intro rfl ?_))
          | exact j_locR (ih (k + 1) _ _ (by omega) hM h15 (WUw1 hU) (wlk_end hj hk4 (her_miss hs hk4 hm (fun z => by omega)) (if_pos ⟨c145, by omega⟩)) hF) (by repeat' (first | exact True.intro | refine And.intro rfl ?_))
          | exact j_locR (ih (k + 1) _ _ (by omega) hM h15 hU (wlk_stay hj hk4 (her_miss hs hk4 hm (fun z => by omega)) (if_neg (fun z => by omega))) hF) (by repeat' (first | exact True.intro | refine And.intro rfl ?_))
        · have hih : 0 ≤ herF P m k ∧ herF P m k < (P k).1 7 := ⟨by omega, rh.2⟩
          have zz := hpk.2.1 _ hih.1 hih.2
          have zb := zz.2.2.2.1
          have zl := zz.2.2.2.2.1
          have hef : endF (P k) (herF P m k) = (P k).2 3 (herF P m k) + (P k).2 4 (herF P m k) := rfl
          refine j_aload_n 0 dX11_walk_148 rfl rfl ?_
          refine j_get fX11_24 dX11_walk_149 hP.1 rfl ?_
          refine j_iload_n 2 dX11_walk_152 rfl rfl ?_
          refine J_qaldM dX11_walk_153 hpa (by rw [Int.toNat_natCast]; exact hFa k hk4) ?_ 
          refine j_aload_n 0 dX11_walk_154 rfl rfl ?_
          refine j_get fX11_62 dX11_walk_155 hP.1 rfl ?_
          refine j_iload_n 2 dX11_walk_158 rfl rfl ?_
          refine J_iald dX11_walk_159 (hP.2.1 16 rfl) ?_ 
          refine J_top (herF P m k) ?_ (by exact g16)
          refine J_callV1 kX11_208 cvX10_endOf hPk.1 (c_X10_endOf hPk hmk hpk (e := herF P m k) hih) rfl rfl rfl rfl rfl dX11_walk_160 rfl rfl ?_
          refine j_iload_n 1 dX11_walk_163 rfl rfl ?_
          refine J_icmp_gt 174 dX11_walk_164 (by decide) (fun c164 => ?_) (fun c164 => ?_) 
          · refine J_iinc (L' := [(2, _), (1, _), (0, _)]) dX11_walk_174 rfl rfl rfl ?_
            refine j_goto 70 dX11_walk_177 (by decide) ?_
            first
            | exact j_locR (ih (k + 1) _ _ (by omega) hM h15 (WUw hU) (wlk_hit hj hk4 (her_hit hs hk4 c90 c110)) hF) (by repeat' (first | exact True.intro | refine And.intro rfl ?_))
            | exact j_locR (ih (k + 1) _ _ (by omega) hM h15 (WUw1 hU) (wlk_end hj hk4 (her_miss hs hk4 hm (fun z => by omega)) (if_pos ⟨c145, by omega⟩)) hF) (by repeat' (first | exact True.intro | refine And.intro rfl ?_))
            | exact j_locR (ih (k + 1) _ _ (by omega) hM h15 hU (wlk_stay hj hk4 (her_miss hs hk4 hm (fun z => by omega)) (if_neg (fun z => by omega))) hF) (by repeat' (first | exact True.intro | refine And.intro rfl ?_))
          · refine j_aload_n 0 dX11_walk_167 rfl rfl ?_
            refine j_get fX11_62 dX11_walk_168 hP.1 rfl ?_
            refine j_iload_n 2 dX11_walk_171 rfl rfl ?_
            refine J_iconst dX11_walk_172 ?_
            refine J_iastA 16 hP rfl (fun _ => rfl) (fun _ => rfl) dX11_walk_173 (fun h hP hF173 => ?_) 
            have hM := hM.w hZ hP hF173
            have hF := hF.tr (hF173.mono (fun _ q => Or.inl q))
            obtain ⟨Fa, hpa, hFa⟩ := hM.2.1
            have hPk := hM.2.2 k hk4
            refine J_iinc (L' := [(2, _), (1, _), (0, _)]) dX11_walk_174 rfl rfl rfl ?_
            refine j_goto 70 dX11_walk_177 (by decide) ?_
            first
            | exact j_locR (ih (k + 1) _ _ (by omega) hM h15 (WUw hU) (wlk_hit hj hk4 (her_hit hs hk4 c90 c110)) hF) (by repeat' (first | exact True.intro | refine And.intro rfl ?_))
            | exact j_locR (ih (k + 1) _ _ (by omega) hM h15 (WUw1 hU) (wlk_end hj hk4 (her_miss hs hk4 hm (fun z => by omega)) (if_pos ⟨c145, by omega⟩)) hF) (by repeat' (first | exact True.intro | refine And.intro rfl ?_))
            | exact j_locR (ih (k + 1) _ _ (by omega) hM h15 hU (wlk_stay hj hk4 (her_miss hs hk4 hm (fun z => by omega)) (if_neg (fun z => by omega))) hF) (by repeat' (first | exact True.intro | refine And.intro rfl ?_))
      · refine j_aload_n 0 dX11_walk_93 rfl rfl ?_
        refine j_get fX11_24 dX11_walk_94 hP.1 rfl ?_
        refine j_iload_n 2 dX11_walk_97 rfl rfl ?_
        refine J_qaldM dX11_walk_98 hpa (by rw [Int.toNat_natCast]; exact hFa k hk4) ?_ 
        refine j_getN fX11_170 dX11_walk_99 hPk.1 rfl ?_
        refine j_aload_n 0 dX11_walk_102 rfl rfl ?_
        refine j_get fX11_65 dX11_walk_103 hP.1 rfl ?_
        refine j_iload_n 2 dX11_walk_106 rfl rfl ?_
        refine J_iald dX11_walk_107 (hP.2.1 17 rfl) ?_ 
        refine J_top (nxM P m k) ?_ (by exact g17)
        refine J_iald dX11_walk_108 (hPk.2.1 1 rfl) ?_ 
        refine J_top ((P k).2 3 (nxM P m k)) ?_ (by exact (hmk.2.1 _ r.1 c90).1)
        refine j_iload_n 1 dX11_walk_109 rfl rfl ?_
        refine J_icmp_ne 138 dX11_walk_110 (by decide) (fun c110 => ?_) (fun c110 => ?_) 
        · refine j_aload_n 0 dX11_walk_138 rfl rfl ?_
          refine j_get fX11_62 dX11_walk_139 hP.1 rfl ?_
          refine j_iload_n 2 dX11_walk_142 rfl rfl ?_
          refine J_iald dX11_walk_143 (hP.2.1 16 rfl) ?_ 
          refine J_top (herF P m k) ?_ (by exact g16)
          refine J_iconst dX11_walk_144 ?_
          refine J_icmp_eq 174 dX11_walk_145 (by decide) (fun c145 => ?_) (fun c145 => ?_) 
          · refine J_iinc (L' := [(2, _), (1, _), (0, _)]) dX11_walk_174 rfl rfl rfl ?_
            refine j_goto 70 dX11_walk_177 (by decide) ?_
            first
            | exact j_locR (ih (k + 1) _ _ (by omega) hM h15 (WUw hU) (wlk_hit hj hk4 (her_hit hs hk4 c90 c110)) hF) (by repeat' (first | exact True.intro | refine And.intro rfl ?_))
            | exact j_locR (ih (k + 1) _ _ (by omega) hM h15 (WUw1 hU) (wlk_end hj hk4 (her_miss hs hk4 hm (fun z => by omega)) (if_pos ⟨c145, by omega⟩)) hF) (by repeat' (first | exact True.intro | refine And.intro rfl ?_))
            | exact j_locR (ih (k + 1) _ _ (by omega) hM h15 hU (wlk_stay hj hk4 (her_miss hs hk4 hm (fun z => by omega)) (if_neg (fun z => by omega))) hF) (by repeat' (first | exact True.intro | refine And.intro rfl ?_))
          · have hih : 0 ≤ herF P m k ∧ herF P m k < (P k).1 7 := ⟨by omega, rh.2⟩
            have zz := hpk.2.1 _ hih.1 hih.2
            have zb := zz.2.2.2.1
            have zl := zz.2.2.2.2.1
            have hef : endF (P k) (herF P m k) = (P k).2 3 (herF P m k) + (P k).2 4 (herF P m k) := rfl
            refine j_aload_n 0 dX11_walk_148 rfl rfl ?_
            refine j_get fX11_24 dX11_walk_149 hP.1 rfl ?_
            refine j_iload_n 2 dX11_walk_152 rfl rfl ?_
            refine J_qaldM dX11_walk_153 hpa (by rw [Int.toNat_natCast]; exact hFa k hk4) ?_ 
            refine j_aload_n 0 dX11_walk_154 rfl rfl ?_
            refine j_get fX11_62 dX11_walk_155 hP.1 rfl ?_
            refine j_iload_n 2 dX11_walk_158 rfl rfl ?_
            refine J_iald dX11_walk_159 (hP.2.1 16 rfl) ?_ 
            refine J_top (herF P m k) ?_ (by exact g16)
            refine J_callV1 kX11_208 cvX10_endOf hPk.1 (c_X10_endOf hPk hmk hpk (e := herF P m k) hih) rfl rfl rfl rfl rfl dX11_walk_160 rfl rfl ?_
            refine j_iload_n 1 dX11_walk_163 rfl rfl ?_
            refine J_icmp_gt 174 dX11_walk_164 (by decide) (fun c164 => ?_) (fun c164 => ?_) 
            · refine J_iinc (L' := [(2, _), (1, _), (0, _)]) dX11_walk_174 rfl rfl rfl ?_
              refine j_goto 70 dX11_walk_177 (by decide) ?_
              first
              | exact j_locR (ih (k + 1) _ _ (by omega) hM h15 (WUw hU) (wlk_hit hj hk4 (her_hit hs hk4 c90 c110)) hF) (by repeat' (first | exact True.intro | refine And.intro rfl ?_))
              | exact j_locR (ih (k + 1) _ _ (by omega) hM h15 (WUw1 hU) (wlk_end hj hk4 (her_miss hs hk4 hm (fun z => by omega)) (if_pos ⟨c145, by omega⟩)) hF) (by repeat' (first | exact True.intro | refine And.intro rfl ?_))
              | exact j_locR (ih (k + 1) _ _ (by omega) hM h15 hU (wlk_stay hj hk4 (her_miss hs hk4 hm (fun z => by omega)) (if_neg (fun z => by omega))) hF) (by repeat' (first | exact True.intro | refine And.intro rfl ?_))
            · refine j_aload_n 0 dX11_walk_167 rfl rfl ?_
              refine j_get fX11_62 dX11_walk_168 hP.1 rfl ?_
              refine j_iload_n 2 dX11_walk_171 rfl rfl ?_
              refine J_iconst dX11_walk_172 ?_
              refine J_iastA 16 hP rfl (fun _ => rfl) (fun _ => rfl) dX11_walk_173 (fun h hP hF173 => ?_) 
              have hM := hM.w hZ hP hF173
              have hF := hF.tr (hF173.mono (fun _ q => Or.inl q))
              obtain ⟨Fa, hpa, hFa⟩ := hM.2.1
              have hPk := hM.2.2 k hk4
              refine J_iinc (L' := [(2, _), (1, _), (0, _)]) dX11_walk_174 rfl rfl rfl ?_
              refine j_goto 70 dX11_walk_177 (by decide) ?_
              first
              | exact j_locR (ih (k + 1) _ _ (by omega) hM h15 (WUw hU) (wlk_hit hj hk4 (her_hit hs hk4 c90 c110)) hF) (by repeat' (first | exact True.intro | refine And.intro rfl ?_))
              | exact j_locR (ih (k + 1) _ _ (by omega) hM h15 (WUw1 hU) (wlk_end hj hk4 (her_miss hs hk4 hm (fun z => by omega)) (if_pos ⟨c145, by omega⟩)) hF) (by repeat' (first | exact True.intro | refine And.intro rfl ?_))
              | exact j_locR (ih (k + 1) _ _ (by omega) hM h15 hU (wlk_stay hj hk4 (her_miss hs hk4 hm (fun z => by omega)) (if_neg (fun z => by omega))) hF) (by repeat' (first | exact True.intro | refine And.intro rfl ?_))
        · refine j_aload_n 0 dX11_walk_113 rfl rfl ?_
          refine j_get fX11_62 dX11_walk_114 hP.1 rfl ?_
          refine j_iload_n 2 dX11_walk_117 rfl rfl ?_
          refine j_aload_n 0 dX11_walk_118 rfl rfl ?_
          refine j_get fX11_65 dX11_walk_119 hP.1 rfl ?_
          refine j_iload_n 2 dX11_walk_122 rfl rfl ?_
          refine J_iald dX11_walk_123 (hP.2.1 17 rfl) ?_ 
          refine J_top (nxM P m k) ?_ (by exact g17)
          refine J_iastA 16 hP rfl (fun _ => rfl) (fun _ => rfl) dX11_walk_124 (fun h hP hF124 => ?_) 
          have hM := hM.w hZ hP hF124
          have hF := hF.tr (hF124.mono (fun _ q => Or.inl q))
          obtain ⟨Fa, hpa, hFa⟩ := hM.2.1
          have hPk := hM.2.2 k hk4
          refine j_aload_n 0 dX11_walk_125 rfl rfl ?_
          refine j_get fX11_65 dX11_walk_126 hP.1 rfl ?_
          refine j_iload_n 2 dX11_walk_129 rfl rfl ?_
          refine j_dup2 dX11_walk_130 rfl rfl ?_
          have k17 : (oA p' 16 (upI (p'.2 16) k (nxM P m k))).2 17 k = nxM P m k := g17
          refine J_iald dX11_walk_131 (hP.2.1 17 rfl) ?_ 
          refine J_top (nxM P m k) ?_ (by exact k17)
          refine J_iconst dX11_walk_132 ?_
          refine J_iadd dX11_walk_133 ?_
          refine J_iastA 17 hP rfl (fun _ => rfl) (fun _ => rfl) dX11_walk_134 (fun h hP hF134 => ?_) 
          have hM := hM.w hZ hP hF134
          have hF := hF.tr (hF134.mono (fun _ q => Or.inl q))
          obtain ⟨Fa, hpa, hFa⟩ := hM.2.1
          have hPk := hM.2.2 k hk4
          refine j_goto 174 dX11_walk_135 (by decide) ?_
          refine J_iinc (L' := [(2, _), (1, _), (0, _)]) dX11_walk_174 rfl rfl rfl ?_
          refine j_goto 70 dX11_walk_177 (by decide) ?_
          first
          | exact j_locR (ih (k + 1) _ _ (by omega) hM h15 (WUw hU) (wlk_hit hj hk4 (her_hit hs hk4 c90 c110)) hF) (by repeat' (first | exact True.intro | refine And.intro rfl ?_))
          | exact j_locR (ih (k + 1) _ _ (by omega) hM h15 (WUw1 hU) (wlk_end hj hk4 (her_miss hs hk4 hm (fun z => by omega)) (if_pos ⟨c145, by omega⟩)) hF) (by repeat' (first | exact True.intro | refine And.intro rfl ?_))
          | exact j_locR (ih (k + 1) _ _ (by omega) hM h15 hU (wlk_stay hj hk4 (her_miss hs hk4 hm (fun z => by omega)) (if_neg (fun z => by omega))) hF) (by repeat' (first | exact True.intro | refine And.intro rfl ?_))
  have loop : ∀ (n k : Nat), k + n = 4 → J l G mX11_walk (jQ G mX11_walk (jW (oI 1) (fun h' => ∃ p', Mod G h' a d mp p' ∧ WS P (m + 1) p' ∧ WU p p' ∧ Fr (FtM a d) h h'))) 0 0 5 [(2, vI (k : Int)), (1, vI (toF P m k)), (0, .ref a)] [] h := by
    intro n
    induction n with
    | zero =>
      intro k hk
      obtain rfl : k = 4 := by omega
      have rT := toF_rg hs m 4 (by omega)
      refine j_iload_n 2 dX11_walk_5 rfl rfl ?_
      refine J_iconst dX11_walk_6 ?_
      refine J_icmp_ge 55 dX11_walk_7 (by decide) (fun c7 => ?_) (fun c7 => absurd c7 (by omega)) 
      refine j_iload_n 1 dX11_walk_55 rfl rfl ?_
      refine j_ldc _ dX11_walk_56 vX11_244 ?_
      rw [I32_max]
      refine J_icmp_ne 63 dX11_walk_58 (by decide) (fun c58 => ?_) (fun c58 => absurd c58 (by have := hT.2 hm; omega)) 
      rw [(hT.2 hm).1]
      refine j_aload_n 0 dX11_walk_63 rfl rfl ?_
      refine j_iload_n 1 dX11_walk_64 rfl rfl ?_
      refine J_putA hP fX11_239 tyX11_tick dX11_walk_65 rfl rfl (fun h hP hF65 => ?_)
      have hM := hM.w hZ hP hF65
      have hF := hF.tr (hF65.mono (fun _ q => Or.inl q))
      obtain ⟨Fa, hpa, hFa⟩ := hM.2.1
      refine J_iconst dX11_walk_68 ?_
      refine j_istore_n 2 (L' := [(2, _), (1, _), (0, _)]) dX11_walk_69 rfl rfl rfl ?_
      exact j_locR (loop2 4 0 _ _ (by omega) hM rfl ⟨fun j hj => by show (if j = 15 then _ else _) = _; rw [if_neg hj], fun _ _ _ => rfl⟩ (fun j hj => by rw [if_neg (by omega), if_neg (by omega)]; exact hW.2 j hj) hF) (by repeat' (first | exact True.intro | refine And.intro rfl ?_))
    | succ n ih =>
      intro k hk
      have hk4 : k < 4 := by omega
      have g := ih (k + 1) (by omega)
      rw [toF_s hs m hk4] at g
      have rT := toF_rg hs m k (by omega)
      have hPk := hM.2.2 k hk4
      have hmk := hI.2.1 k hk4
      have hpk := hs k hk4
      have hn7 : 0 ≤ (P k).1 7 ∧ (P k).1 7 ≤ 512 := hpk.1
      have r := nxM_rg hs hk4 m
      have hen := hmk.2.2.1
      have hez := hmk.2.2.2
      have g17 := (hW.2 k hk4).2
      have bz : nxM P m k < (P k).1 7 → 0 ≤ (P k).2 3 (nxM P m k) ∧ (P k).2 3 (nxM P m k) ≤ 20000 := fun q => (hpk.2.1 _ r.1 q).2.2.2.1
      refine j_iload_n 2 dX11_walk_5 rfl rfl ?_
      refine J_iconst dX11_walk_6 ?_
      refine J_icmp_ge 55 dX11_walk_7 (by decide) (fun c7 => absurd c7 (by omega)) (fun c7 => ?_) 
      refine j_aload_n 0 dX11_walk_10 rfl rfl ?_
      refine j_get fX11_65 dX11_walk_11 hP.1 rfl ?_
      refine j_iload_n 2 dX11_walk_14 rfl rfl ?_
      refine J_iald dX11_walk_15 (hP.2.1 17 rfl) ?_ 
      refine J_top (nxM P m k) ?_ (by exact g17)
      refine j_aload_n 0 dX11_walk_16 rfl rfl ?_
      refine j_get fX11_24 dX11_walk_17 hP.1 rfl ?_
      refine j_iload_n 2 dX11_walk_20 rfl rfl ?_
      refine J_qaldM dX11_walk_21 hpa (by rw [Int.toNat_natCast]; exact hFa k hk4) ?_ 
      refine j_getN fX11_99 dX11_walk_22 hPk.1 rfl ?_
      refine J_top ((P k).1 7) ?_ (by exact hmk.1.1)
      refine J_icmp_ge 49 dX11_walk_25 (by decide) (fun c25 => ?_) (fun c25 => ?_) 
      · refine J_iinc (L' := [(2, _), (1, _), (0, _)]) dX11_walk_49 rfl rfl rfl ?_
        refine j_goto 5 dX11_walk_52 (by decide) ?_
        first
        | (rw [if_pos c25] at g; exact j_locR g (by repeat' (first | exact True.intro | refine And.intro rfl ?_)))
        | (rw [if_neg (Int.not_lt.mpr c25)] at g; exact j_locR g (by repeat' (first | exact True.intro | refine And.intro rfl ?_)))
      · refine j_iload_n 1 dX11_walk_28 rfl rfl ?_
        refine j_aload_n 0 dX11_walk_29 rfl rfl ?_
        refine j_get fX11_24 dX11_walk_30 hP.1 rfl ?_
        refine j_iload_n 2 dX11_walk_33 rfl rfl ?_
        refine J_qaldM dX11_walk_34 hpa (by rw [Int.toNat_natCast]; exact hFa k hk4) ?_ 
        refine j_getN fX11_170 dX11_walk_35 hPk.1 rfl ?_
        refine j_aload_n 0 dX11_walk_38 rfl rfl ?_
        refine j_get fX11_65 dX11_walk_39 hP.1 rfl ?_
        refine j_iload_n 2 dX11_walk_42 rfl rfl ?_
        refine J_iald dX11_walk_43 (hP.2.1 17 rfl) ?_ 
        refine J_top (nxM P m k) ?_ (by exact g17)
        refine J_iald dX11_walk_44 (hPk.2.1 1 rfl) ?_ 
        refine J_top ((P k).2 3 (nxM P m k)) ?_ (by exact (hmk.2.1 _ r.1 c25).1)
        have bz2 := bz c25
        refine J_mmin kX11_211 rfl rfl dX11_walk_45 ?_ 
        refine j_istore_n 1 (L' := [(1, _), (2, _), (0, _)]) dX11_walk_48 rfl rfl rfl ?_
        refine J_iinc (L' := [(2, _), (1, _), (0, _)]) dX11_walk_49 rfl rfl rfl ?_
        refine j_goto 5 dX11_walk_52 (by decide) ?_
        first
        | (rw [if_pos c25] at g; exact j_locR g (by repeat' (first | exact True.intro | refine And.intro rfl ?_)))
        | (rw [if_neg (Int.not_lt.mpr c25)] at g; exact j_locR g (by repeat' (first | exact True.intro | refine And.intro rfl ?_)))
  refine j_body (by decide +kernel) ⟨rfl, rfl⟩ rfl ?_
  refine j_ldc _ dX11_walk_0 vX11_244 ?_
  rw [I32_max]
  refine j_istore_n 1 (L' := [(1, _), (0, _)]) dX11_walk_2 rfl rfl rfl ?_
  refine J_iconst dX11_walk_3 ?_
  refine j_istore_n 2 (L' := [(2, _), (1, _), (0, _)]) dX11_walk_4 rfl rfl rfl ?_
  exact j_locR (loop 4 0 (by omega)) (by repeat' (first | exact True.intro | refine And.intro rfl ?_))
theorem WS.her {P : Nat → OS} {m : Nat} {p : OS} (h : WS P (m + 1) p) {k : Int} (hk : 0 ≤ k ∧ k < 4) : p.2 16 k = evM P m k.toNat := by
  have := (h.2 k.toNat (by omega)).1
  rw [Int.toNat_of_nonneg hk.1] at this
  exact this
theorem hiM_none {P : Nat → OS} {m : Nat} {k : Int} (e : evM P m k.toNat = -1) : hiM P m k = -1 := by
  unfold hiM
  rw [if_neg (fun z => by have := z.1; omega)]
set_option maxRecDepth 100000 in
theorem c_X11_soundsNow {l : Launch} {G : jG} {h : jH} {a : Nat} {d : MD} {mp P : Nat → OS} {p p0 : OS} {Z : Nat → Nat} {m : Nat} {k : Int} (hM : Mod G h a d mp p) (hZ : Mz a d Z) (hI : MI d P p0 mp p.2) (hW : WS P (m + 1) p) (hk : 0 ≤ k ∧ k < 4) : jC l G yX11_soundsNow mX11_soundsNow [.ref a, vI k] h (jE (oI (hiM P m k)) h) := by
  refine j_body (by decide +kernel) ⟨rfl, rfl⟩ rfl ?_
  have hP := hM.1
  have hF : Fr (FtM a d) h h := Fr.rf
  obtain ⟨Fa, hpa, hFa⟩ := hM.2.1
  have hh := hW.her hk
  have hr := evM_rg hI.1.1 (m := m) (k := k.toNat) (by omega)
  have hPk := hM.2.2 k.toNat (by omega)
  have hmk := hI.2.1 k.toNat (by omega)
  have hpk := hI.1.1 k.toNat (by omega)
  have hnk : 0 ≤ (P k.toNat).1 7 ∧ (P k.toNat).1 7 ≤ 512 := hpk.1
  refine j_aload_n 0 dX11_soundsNow_0 rfl rfl ?_
  refine j_get fX11_62 dX11_soundsNow_1 hP.1 rfl ?_
  refine j_iload_n 1 dX11_soundsNow_4 rfl rfl ?_
  refine J_iald dX11_soundsNow_5 (hP.2.1 16 rfl) ?_ 
  refine J_top (evM P m k.toNat) ?_ (by exact hh)
  refine J_iconst dX11_soundsNow_6 ?_
  refine J_icmp_ne 14 dX11_soundsNow_7 (by decide) (fun c7 => ?_) (fun c7 => ?_) 
  · refine j_aload_n 0 dX11_soundsNow_14 rfl rfl ?_
    refine j_iload_n 1 dX11_soundsNow_15 rfl rfl ?_
    refine j_aload_n 0 dX11_soundsNow_16 rfl rfl ?_
    refine j_get fX11_62 dX11_soundsNow_17 hP.1 rfl ?_
    refine j_iload_n 1 dX11_soundsNow_20 rfl rfl ?_
    refine J_iald dX11_soundsNow_21 (hP.2.1 16 rfl) ?_ 
    refine J_top (evM P m k.toNat) ?_ (by exact hh)
    refine J_callV1 kX11_172 cvX11_heightNow hP.1 (c_X11_heightNow hM hZ hI hk ⟨by omega, hr.2⟩) rfl rfl rfl rfl rfl dX11_soundsNow_22 rfl rfl ?_
    refine j_iret rfl dX11_soundsNow_25 ⟨oIe ?_, rfl⟩
    first | rfl | exact (hiM_none c7).symm
  · refine J_iconst dX11_soundsNow_10 ?_
    refine j_goto 25 dX11_soundsNow_11 (by decide) ?_
    refine j_iret rfl dX11_soundsNow_25 ⟨oIe ?_, rfl⟩
    first | rfl | exact (hiM_none c7).symm
/-- an event of part k begins at moment m -/
abbrev begB (P : Nat → OS) (m : Nat) (k : Int) : Prop := inP (P k.toNat) (evM P m k.toNat) ∧ (P k.toNat).2 3 (evM P m k.toNat) = momT P m
set_option maxRecDepth 100000 in
theorem c_X11_begins {l : Launch} {G : jG} {h : jH} {a : Nat} {d : MD} {mp P : Nat → OS} {p p0 : OS} {Z : Nat → Nat} {m : Nat} {k : Int} (hM : Mod G h a d mp p) (hZ : Mz a d Z) (hI : MI d P p0 mp p.2) (hW : WS P (m + 1) p) (hk : 0 ≤ k ∧ k < 4) : jC l G yX11_begins mX11_begins [.ref a, vI k] h (jE (oI (bI (begB P m k))) h) := by
  refine j_body (by decide +kernel) ⟨rfl, rfl⟩ rfl ?_
  have hP := hM.1
  have hF : Fr (FtM a d) h h := Fr.rf
  obtain ⟨Fa, hpa, hFa⟩ := hM.2.1
  have hh := hW.her hk
  have hr := evM_rg hI.1.1 (m := m) (k := k.toNat) (by omega)
  have hPk := hM.2.2 k.toNat (by omega)
  have hmk := hI.2.1 k.toNat (by omega)
  have hpk := hI.1.1 k.toNat (by omega)
  have hnk : 0 ≤ (P k.toNat).1 7 ∧ (P k.toNat).1 7 ≤ 512 := hpk.1
  refine j_aload_n 0 dX11_begins_0 rfl rfl ?_
  refine j_get fX11_62 dX11_begins_1 hP.1 rfl ?_
  refine j_iload_n 1 dX11_begins_4 rfl rfl ?_
  refine J_iald dX11_begins_5 (hP.2.1 16 rfl) ?_ 
  refine J_top (evM P m k.toNat) ?_ (by exact hh)
  refine J_iconst dX11_begins_6 ?_
  refine J_icmp_eq 37 dX11_begins_7 (by decide) (fun c7 => ?_) (fun c7 => ?_) 
  · refine J_iconst dX11_begins_37 ?_
    refine j_zret rfl rfl dX11_begins_38 ⟨oIe ?_, rfl⟩
    (first | exact (if_pos ⟨hi, c30⟩).symm | exact (if_neg (fun z => c30 z.2)).symm | (refine (if_neg (fun z => ?_)).symm; have := z.1.1; omega))
  · have hi : inP (P k.toNat) (evM P m k.toNat) := ⟨by omega, hr.2⟩
    have hi0 := hi.1
    have hi1 := hi.2
    have zb := (hpk.2.1 _ hi.1 hi.2).2.2.2.1
    have hen := hmk.2.2.1
    have hez := hmk.2.2.2
    have rt := momT_rg hI.1.1 m
    refine j_aload_n 0 dX11_begins_10 rfl rfl ?_
    refine j_get fX11_24 dX11_begins_11 hP.1 rfl ?_
    refine j_iload_n 1 dX11_begins_14 rfl rfl ?_
    refine J_qaldM dX11_begins_15 hpa (hFa _ (by omega)) ?_ 
    refine j_getN fX11_170 dX11_begins_16 hPk.1 rfl ?_
    refine j_aload_n 0 dX11_begins_19 rfl rfl ?_
    refine j_get fX11_62 dX11_begins_20 hP.1 rfl ?_
    refine j_iload_n 1 dX11_begins_23 rfl rfl ?_
    refine J_iald dX11_begins_24 (hP.2.1 16 rfl) ?_ 
    refine J_top (evM P m k.toNat) ?_ (by exact hh)
    refine J_iald dX11_begins_25 (hPk.2.1 1 rfl) ?_ 
    refine J_top ((P k.toNat).2 3 (evM P m k.toNat)) ?_ (by exact (hmk.2.1 _ hi.1 hi.2).1)
    refine j_aload_n 0 dX11_begins_26 rfl rfl ?_
    refine j_get fX11_239 dX11_begins_27 hP.1 rfl ?_
    refine J_top (momT P m) ?_ (by exact hW.1)
    refine J_icmp_ne 37 dX11_begins_30 (by decide) (fun c30 => ?_) (fun c30 => ?_) 
    · refine J_iconst dX11_begins_37 ?_
      refine j_zret rfl rfl dX11_begins_38 ⟨oIe ?_, rfl⟩
      (first | exact (if_pos ⟨hi, c30⟩).symm | exact (if_neg (fun z => c30 z.2)).symm | (refine (if_neg (fun z => ?_)).symm; have := z.1.1; omega))
    · refine J_iconst dX11_begins_33 ?_
      refine j_goto 38 dX11_begins_34 (by decide) ?_
      refine j_zret rfl rfl dX11_begins_38 ⟨oIe ?_, rfl⟩
      (first | exact (if_pos ⟨hi, c30⟩).symm | exact (if_neg (fun z => c30 z.2)).symm | (refine (if_neg (fun z => ?_)).symm; have := z.1.1; omega))
