/-! what keeps the desk's state right -/
def DP (G : jG) (a : Nat) (d : DA) (s : DS) (h : jH) (R : DS → Prop) : jH → Prop := fun h' => ∃ s', Desk G h' a d s' ∧ DI s' ∧ s'.1 = s.1 ∧ s'.2.1 0 = s.2.1 0 ∧ R s' ∧ Fr (FtD a d) h h'
theorem DI.rg7 {s : DS} (h : DI s) : 0 ≤ s.2.2 7 ∧ s.2.2 7 ≤ 1 := by
  rcases h.2.2.2.2.2.1 with e | e <;> omega
theorem DI.rg8 {s : DS} (h : DI s) : 0 ≤ s.2.2 8 ∧ s.2.2 8 ≤ 1 := by
  rcases h.2.2.2.2.2.2.1 with e | e <;> omega
theorem DI.rg9 {s : DS} (h : DI s) : 0 ≤ s.2.2 9 ∧ s.2.2 9 ≤ 1 := by
  rcases h.2.2.2.2.2.2.2.1 with e | e <;> omega
theorem DI.har {s : DS} (h : DI s) (e : s.2.2 7 ≠ 0) : HarOK s.1 (s.2.1 3) := by
  rcases h.2.2.2.2.2.1 with c | c
  · exact absurd c e
  · exact c.2
theorem DI.fau {s : DS} (h : DI s) (e : s.2.2 8 ≠ 0) : FauOK s.1 (s.2.1 2) := by
  rcases h.2.2.2.2.2.2.1 with c | c
  · exact absurd c e
  · exact c.2
theorem DI.wid {s : DS} (h : DI s) (e : s.2.2 9 ≠ 0) : WidOK s.1 (s.2.1 0) (s.2.1 4) := by
  rcases h.2.2.2.2.2.2.2.1 with c | c
  · exact absurd c e
  · exact c.2
theorem DI.rg1011 {s : DS} (h : DI s) : -1 ≤ s.2.2 10 ∧ s.2.2 10 < 4 ∧ -1 ≤ s.2.2 11 ∧ s.2.2 11 < 24 := by
  rcases h.2.2.2.2.2.2.2.2 with c | c
  · omega
  · have := c.1; have := c.2.1; omega
theorem DI.mea {s : DS} (h : DI s) (e : 0 ≤ s.2.2 10) : MeaOK (s.1 (s.2.2 10).toNat) (s.2.1 0) (s.2.2 11) (s.2.1 5) := by
  rcases h.2.2.2.2.2.2.2.2 with c | c
  · omega
  · exact c.2.2
/-- the harmony is there -/
theorem DI.set3 {s : DS} (h : DI s) {p : OS} (hp : HarOK s.1 p) : DI (s.1, upN s.2.1 3 p, upN s.2.2 7 1) :=
  ⟨h.1, h.2.1, h.2.2.1, har_n hp, h.2.2.2.2.1, Or.inr ⟨rfl, hp⟩, h.2.2.2.2.2.2.1, h.2.2.2.2.2.2.2.1, h.2.2.2.2.2.2.2.2⟩
theorem DI.set2 {s : DS} (h : DI s) {p : OS} (hp : FauOK s.1 p) (hz : fZ p) : DI (s.1, upN s.2.1 2 p, upN s.2.2 8 1) :=
  ⟨h.1, h.2.1, h.2.2.1, h.2.2.2.1, hz, h.2.2.2.2.2.1, Or.inr ⟨rfl, hp⟩, h.2.2.2.2.2.2.2.1, h.2.2.2.2.2.2.2.2⟩
theorem DI.set4 {s : DS} (h : DI s) {p : OS} (hp : WidOK s.1 (s.2.1 0) p) : DI (s.1, upN s.2.1 4 p, upN s.2.2 9 1) :=
  ⟨h.1, h.2.1, h.2.2.1, h.2.2.2.1, h.2.2.2.2.1, h.2.2.2.2.2.1, h.2.2.2.2.2.2.1, Or.inr ⟨rfl, hp⟩, h.2.2.2.2.2.2.2.2⟩
theorem DI.brk {s : DS} (h : DI s) {p : OS} (hp : s.2.2 9 ≠ 0 → WidOK s.1 (s.2.1 0) p) : DI (s.1, upN s.2.1 4 p, s.2.2) := by
  refine ⟨h.1, h.2.1, h.2.2.1, h.2.2.2.1, h.2.2.2.2.1, h.2.2.2.2.2.1, h.2.2.2.2.2.2.1, ?_, h.2.2.2.2.2.2.2.2⟩
  rcases h.2.2.2.2.2.2.2.1 with e | e
  · exact Or.inl e
  · exact Or.inr ⟨e.1, hp (by rw [e.1]; decide)⟩
theorem DI.chd {s : DS} (h : DI s) (p : OS) : DI (s.1, upN s.2.1 1 p, s.2.2) := h
theorem DI.mea5 {s : DS} (h : DI s) {p : OS} {k b : Int} (hk : 0 ≤ k ∧ k < 4) (hb : isBar b) (hp : MeaOK (s.1 k.toNat) (s.2.1 0) b p) : DI (s.1, upN s.2.1 5 p, upN (upN s.2.2 10 k) 11 b) :=
  ⟨h.1, h.2.1, h.2.2.1, h.2.2.2.1, h.2.2.2.2.1, h.2.2.2.2.2.1, h.2.2.2.2.2.2.1, h.2.2.2.2.2.2.2.1, Or.inr ⟨hk, hb, hp⟩⟩
theorem mea_ok {p6 p0 : OS} (h6 : partOK p6) (hc : calOK p0) {b : Int} (hb : isBar b) (p : OS) : MeaOK p6 p0 b (wrP p6 p0 b p) := by
  have hL := lenZ_sum hc.1.1 b.toNat (by unfold isBar at hb; omega)
  have hfe := febF_rg (endF p6) (sumN (p0.2 2) b.toNat) (p6.1 7).toNat
  have hn6 := h6.1
  have hq1 : sgQ p6 (sumN (p0.2 2) b.toNat) (sumN (p0.2 2) b.toNat + p0.2 2 b) (wr1 p6 p0 b p) := by
    unfold pN at hn6
    exact sgQ_ev _ _ _ (by omega) (by omega) ⟨⟨Int.le_refl _, by show (0 : Int) ≤ 128; omega⟩, fun j h0 h1 => absurd (show j < 0 from h1) (by omega)⟩
  have hbf := bmP_f (grpG p6 (wr2 p6 p0 (wr1 p6 p0 b p)) (sumN (p0.2 2) b.toNat) (glF p0 b)) (wr2 p6 p0 (wr1 p6 p0 b p)) ((wr2 p6 p0 (wr1 p6 p0 b p)).1 9).toNat
  have e9 : (wrP p6 p0 b p).1 9 = (wr1 p6 p0 b p).1 9 := hbf.1
  refine ⟨by unfold mN; rw [e9]; exact hq1.1, fun j h0 h1 => ?_, wrP_ag p6 p0 b p zOS hq1.1⟩
  have e4 : (wrP p6 p0 b p).2 4 = (wr2 p6 p0 (wr1 p6 p0 b p)).2 4 := hbf.2 4 (by decide)
  rw [e4]
  rw [e9] at h1
  show mapI ((wr1 p6 p0 b p).2 4) ((wr1 p6 p0 b p).1 9) (tieG p6 (wr1 p6 p0 b p) (p0.1 4)) j = 0 ∨ mapI ((wr1 p6 p0 b p).2 4) ((wr1 p6 p0 b p).1 9) (tieG p6 (wr1 p6 p0 b p) (p0.1 4)) j = 1
  unfold mapI
  rw [if_pos ⟨h0, h1⟩]
  exact bI_01 _
/-- the chord of a moment -/
def chdF (P : Nat → OS) (m : Nat) : OS := if popN (clsN (fun k => hiM P m k) 4) = 3 then frM (clsN (fun k => hiM P m k) 4) ((lowN (fun k => hiM P m k) 4).tmod 12) 12 (fgP zOS) else fgP zOS
def ChdEq (p p' : OS) : Prop := p.1 0 = p'.1 0 ∧ p.1 1 = p'.1 1 ∧ p.1 2 = p'.1 2
theorem ChdEq.fk {cl : Nat} {r lc : Int} {p p' : OS} (h : ChdEq p p') (k : Int) : ChdEq (fkS cl r lc p k) (fkS cl r lc p' k) := by
  unfold fkS
  split
  · exact ⟨rfl, rfl, rfl⟩
  · exact h
theorem ChdEq.fkK {cl : Nat} {r lc : Int} {p p' : OS} (h : ChdEq p p') : ∀ k : Nat, ChdEq (fkK cl r lc p k) (fkK cl r lc p' k)
  | 0 => h
  | k + 1 => (ChdEq.fkK h k).fk k
theorem ChdEq.fr {cl : Nat} {lc : Int} : ∀ (n : Nat) (p p' : OS), ChdEq p p' → ChdEq (frM cl lc n p) (frM cl lc n p')
  | 0, _, _, h => h
  | n + 1, p, p', h => by
    unfold frM
    rw [← h.1]
    split
    · split
      · exact ChdEq.fr n _ _ (h.fkK 4)
      · exact ChdEq.fr n _ _ h
    · exact h
theorem clsN_cg {H H' : Nat → Int} : ∀ n : Nat, (∀ k, k < n → H k = H' k) → clsN H n = clsN H' n
  | 0, _ => rfl
  | n + 1, h => by rw [clsN_s, clsN_s, clsN_cg n (fun k hk => h k (by omega)), h n (by omega)]
theorem lowN_cg {H H' : Nat → Int} : ∀ n : Nat, (∀ k, k < n → H k = H' k) → lowN H n = lowN H' n
  | 0, _ => rfl
  | n + 1, h => by rw [lowN_s, lowN_s, lowN_cg n (fun k hk => h k (by omega)), h n (by omega)]
theorem tel_ok {P : Nat → OS} {p3 : OS} (h : HarOK P p3) {m : Nat} (hm : m < cntM P) (p : OS) : ChdEq (telP P p3 m p) (chdF P m) := by
  unfold telP chdF
  rw [clsN_cg (H := htH P p3 m) (H' := fun k => hiM P m k) 4 (fun k hk => har_ht h hm hk), lowN_cg (H := htH P p3 m) (H' := fun k => hiM P m k) 4 (fun k hk => har_ht h hm hk)]
  split
  · exact ChdEq.fr 12 _ _ ⟨rfl, rfl, rfl⟩
  · exact ⟨rfl, rfl, rfl⟩
def lastE (P : Nat → OS) : Int := max (max (max (max 0 ((P 0).1 8)) ((P 1).1 8)) ((P 2).1 8)) ((P 3).1 8)
def barsA (P : Nat → OS) (p0 : OS) : Int := if lastE P ≤ 0 then 0 else if lastE P ≤ p0.1 4 then barF (p0.2 2) (lastE P - 1) 24 + 1 else 24
theorem barsA_rg (P : Nat → OS) (p0 : OS) : 0 ≤ barsA P p0 ∧ barsA P p0 ≤ 24 := by
  have := barF_rg (p0.2 2) (lastE P - 1) 24 (Nat.le_refl _)
  unfold barsA
  repeat' split
  all_goals omega
section JD
variable {l : Launch} {G : jG} {M : jM} {QF : jF} {ck sk pc : Nat} {L : List (Nat × Value)} {st : List Value} {h : jH} {a : Nat} {d : DA} {s : DS} {Z : Nat → Nat}
theorem J_putD {idx k : Nat} {x : Int} (hD : Desk G h a d s) (z : Dz a d Z) (F : jFl M.own idx 7 k) (Y : jTy 7 k .int false) (hd : decode M.cc pc = .ok (.putfield idx, 3)) (hl0 : Nat.blt k (deskV d s.2.2).length = true) (hx : deskV d (upN s.2.2 k x) = (deskV d s.2.2).set k (vI x))
    (kk : ∀ h', Desk G h' a d (s.1, s.2.1, upN s.2.2 k x) → Fr (FtD a d) h h' → J l G M QF ck sk (pc + 3) L st h') : J l G M QF ck sk pc L (vI x :: .ref a :: st) h :=
  j_put F Y hd hD.1 rfl rfl hl0 rfl (kk _ (hD.wf z k x hx).1 (hD.wf z k x hx).2)
theorem J_putZD {idx k : Nat} {x : Int} (hD : Desk G h a d s) (z : Dz a d Z) (F : jFl M.own idx 7 k) (Y : jTy 7 k .boolean false) (hd : decode M.cc pc = .ok (.putfield idx, 3)) (hnx : narrow .boolean (vI x) = vI x ∧ fits .boolean (vI x) = true) (hl0 : Nat.blt k (deskV d s.2.2).length = true) (hx : deskV d (upN s.2.2 k x) = (deskV d s.2.2).set k (vI x))
    (kk : ∀ h', Desk G h' a d (s.1, s.2.1, upN s.2.2 k x) → Fr (FtD a d) h h' → J l G M QF ck sk (pc + 3) L st h') : J l G M QF ck sk pc L (vI x :: .ref a :: st) h :=
  j_put F Y hd hD.1 hnx.1 hnx.2 hl0 rfl (kk _ (hD.wf z k x hx).1 (hD.wf z k x hx).2)
end JD
