theorem J_forget {l : Launch} {G : jG} {M : jM} {QF : jF} {ck sk pc : Nat} {L : List (Nat × Value)} {st : List Value} {h h' : jH} (hs : ∀ a e, h' a = some e → h a = some e) (k : J l G M QF ck sk pc L st h') : J l G M QF ck sk pc L st h := by
  intro p e s m args below meth c H locs cells slots ls S hR hS hl hc hs2
  exact k p e s m args below meth c H locs cells slots ls S (fun b x hb => hR b x (hs b x hb)) hS hl hc hs2
theorem At.some {o : oO} {ca : oC} {A : Nat → Bool} {h : jH} {a : Nat} {q : Nat → Nat} {p : OS} (hP : At o ca A h a q p) {b : Nat} (hb : ft A a q b) : ∃ e, h b = some e := by
  rcases hb with hb | ⟨k, hk, hb⟩
  · rw [hb]; exact ⟨_, hP.1⟩
  · rw [hb]; exact ⟨_, hP.2.1 k hk⟩
theorem Mod.some {G : jG} {h : jH} {a : Nat} {d : MD} {mp : Nat → OS} {p : OS} (hM : Mod G h a d mp p) {b : Nat} (hb : FtM a d b) : ∃ e, h b = some e := by
  rcases hb with hb | hb | ⟨k, hk, hb⟩
  · exact hM.1.some hb
  · obtain ⟨F, h1, -⟩ := hM.2.1
    rw [hb]; exact ⟨_, h1⟩
  · exact (hM.2.2 k hk).some hb
theorem Mod.out {G : jG} {h : jH} {a : Nat} {d : MD} {mp : Nat → OS} {p : OS} (hM : Mod G h a d mp p) {b : Nat} (hb : h b = none) : ¬ FtM a d b := fun c => by
  obtain ⟨e, he⟩ := hM.some c
  rw [hb] at he
  cases he
/-- cells that are not the model's may come and go -/
theorem Mod.fr {G : jG} {h h' : jH} {a : Nat} {d : MD} {mp : Nat → OS} {p : OS} {S : Nat → Prop} (hM : Mod G h a d mp p) (hF : Fr S h h') (hS : ∀ b, FtM a d b → ¬ S b) : Mod G h' a d mp p := by
  obtain ⟨h1, ⟨F, h2, h3⟩, h4⟩ := hM
  exact ⟨h1.keep hF (fun b hb => hS b (Or.inl hb)), ⟨F, (hF _ (hS _ (Or.inr (Or.inl rfl)))).trans h2, h3⟩, fun k hk => (h4 k hk).keep hF (fun b hb => hS b (Or.inr (Or.inr ⟨k, hk, hb⟩)))⟩
/-! the chord as the reference finds it -/
abbrev T3 : Type := Int × Int × Int
def fcS (cl : Nat) (lc : Int) (t : T3) (k r : Int) : T3 := if cl = mk3 r (sec r k) (thi r k) ∧ ¬ (k = 3 ∧ r ≠ lc) then (r, k, if lc = r then 0 else if lc = sec r k then 1 else 2) else t
def fcR (cl : Nat) (lc : Int) (k : Int) (t : T3) : Nat → T3
  | 0 => t
  | r + 1 => fcS cl lc (fcR cl lc k t r) k r
def fcK (cl : Nat) (lc : Int) : Nat → T3
  | 0 => (-1, -1, -1)
  | k + 1 => fcR cl lc k (fcK cl lc k) 12
def tri (p : OS) : T3 := (p.1 0, p.1 1, p.1 2)
theorem fc_all : ∀ (k : Fin 4) (r lc : Fin 12), popN (mk3 r.val (sec r.val k.val) (thi r.val k.val)) = 3 ∧ fcK (mk3 r.val (sec r.val k.val) (thi r.val k.val)) lc.val 4 = tri (frM (mk3 r.val (sec r.val k.val) (thi r.val k.val)) lc.val 12 (fgP zOS)) := by decide +kernel
theorem mk3_lt : ∀ (k : Fin 4) (r : Fin 12), mk3 r.val (sec r.val k.val) (thi r.val k.val) < 4096 := by decide +kernel
theorem mk3_rg {k r : Int} (hk : 0 ≤ k ∧ k < 4) (hr : 0 ≤ r ∧ r < 12) : mk3 r (sec r k) (thi r k) < 4096 := by
  have g := mk3_lt ⟨k.toNat, by omega⟩ ⟨r.toNat, by omega⟩
  simp only [] at g
  rw [Int.toNat_of_nonneg hk.1, Int.toNat_of_nonneg hr.1] at g
  exact g
section FC
variable {cl : Nat} {lc : Int}
theorem fkK_no (hn : ∀ r k : Int, 0 ≤ r → r < 12 → 0 ≤ k → k < 4 → cl ≠ mk3 r (sec r k) (thi r k)) {r : Int} (hr : 0 ≤ r ∧ r < 12) (p : OS) : ∀ k : Nat, k ≤ 4 → fkK cl r lc p k = p
  | 0, _ => rfl
  | k + 1, hk => by
    unfold fkK
    rw [fkK_no hn hr p k (by omega)]
    unfold fkS
    rw [if_neg (fun z => hn r k hr.1 hr.2 (by omega) (by omega) z.2)]
theorem frM_no (hn : ∀ r k : Int, 0 ≤ r → r < 12 → 0 ≤ k → k < 4 → cl ≠ mk3 r (sec r k) (thi r k)) (p : OS) : ∀ n : Nat, n ≤ 12 → frM cl lc n p = p
  | 0, _ => rfl
  | n + 1, hn2 => by
    rw [frM_s, fkK_no hn ⟨by omega, by omega⟩ p 4 (by omega), ite_self, frM_no hn p n (by omega), ite_self]
theorem fcR_no (hn : ∀ r k : Int, 0 ≤ r → r < 12 → 0 ≤ k → k < 4 → cl ≠ mk3 r (sec r k) (thi r k)) {k : Int} (hk : 0 ≤ k ∧ k < 4) (t : T3) : ∀ r : Nat, r ≤ 12 → fcR cl lc k t r = t
  | 0, _ => rfl
  | r + 1, hr => by
    unfold fcR
    rw [fcR_no hn hk t r (by omega)]
    unfold fcS
    rw [if_neg (fun z => hn r k (by omega) (by omega) hk.1 hk.2 z.1)]
theorem fcK_no (hn : ∀ r k : Int, 0 ≤ r → r < 12 → 0 ≤ k → k < 4 → cl ≠ mk3 r (sec r k) (thi r k)) : ∀ k : Nat, k ≤ 4 → fcK cl lc k = (-1, -1, -1)
  | 0, _ => rfl
  | k + 1, hk => by
    unfold fcK
    rw [fcR_no hn ⟨by omega, by omega⟩ _ 12 (by omega), fcK_no hn k (by omega)]
theorem fc_ok (hlc : 0 ≤ lc ∧ lc < 12) : fcK cl lc 4 = tri (if popN cl = 3 then frM cl lc 12 (fgP zOS) else fgP zOS) := by
  by_cases c : ∃ k : Fin 4, ∃ r : Fin 12, cl = mk3 r.val (sec r.val k.val) (thi r.val k.val)
  · obtain ⟨k, r, e⟩ := c
    have g := fc_all k r ⟨lc.toNat, by omega⟩
    simp only [] at g
    rw [Int.toNat_of_nonneg hlc.1, ← e] at g
    rw [if_pos g.1]
    exact g.2
  · have hn : ∀ r k : Int, 0 ≤ r → r < 12 → 0 ≤ k → k < 4 → cl ≠ mk3 r (sec r k) (thi r k) := fun r k a b c2 d2 e => c ⟨⟨k.toNat, by omega⟩, ⟨r.toNat, by omega⟩, by
      show cl = mk3 ((r.toNat : Nat) : Int) (sec ((r.toNat : Nat) : Int) ((k.toNat : Nat) : Int)) (thi ((r.toNat : Nat) : Int) ((k.toNat : Nat) : Int))
      rw [Int.toNat_of_nonneg a, Int.toNat_of_nonneg c2]; exact e⟩
    rw [fcK_no hn 4 (by omega), frM_no hn _ 12 (by omega), ite_self]
    rfl
end FC
theorem low_none {H : Nat → Int} : ∀ n : Nat, lowN H n = -1 → clsN H n = 0
  | 0, _ => rfl
  | n + 1, h => by
    rw [lowN_s] at h
    rw [clsN_s]
    by_cases c : H n < 0
    · rw [if_pos c] at h ⊢
      exact low_none n h
    · rw [if_neg c] at h
      have hl : -1 ≤ lowN H n := by
        have : ∀ j : Nat, -1 ≤ lowN H j := fun j => by
          induction j with
          | zero => show (-1 : Int) ≤ -1; omega
          | succ j ih => rw [lowN_s]; (repeat' split) <;> omega
        exact this n
      split at h <;> omega
theorem low_rg {H : Nat → Int} {c : Int} (hc : 0 ≤ c) : ∀ n : Nat, (∀ k : Nat, k < n → H k ≤ c) → -1 ≤ lowN H n ∧ lowN H n ≤ c
  | 0, _ => by show (-1 : Int) ≤ -1 ∧ (-1 : Int) ≤ c; omega
  | n + 1, h => by
    have ih := low_rg hc n (fun k hk => h k (by omega))
    have hn := h n (by omega)
    rw [lowN_s]
    (repeat' split) <;> omega
theorem hiM_rgI {P : Nat → OS} (hs : scoOK P) (m : Nat) (k : Int) (hk : 0 ≤ k ∧ k < 4) : -1 ≤ hiM P m k ∧ hiM P m k ≤ 200 := by
  unfold hiM
  split
  · rename_i c
    exact ((hs k.toNat (by omega)).2.1 _ c.1 c.2).2.2.1
  · omega
/-- the reference's chord is the desk's -/
theorem fc_chd (P : Nat → OS) (m : Nat) : (if lowN (fun k => hiM P m k) 4 = -1 then ((-1, -1, -1) : T3) else fcK (clsN (fun k => hiM P m k) 4) (lowN (fun k => hiM P m k) 4 % 12) 4) = tri (chdF P m) := by
  unfold chdF
  by_cases c : lowN (fun k => hiM P m k) 4 = -1
  · rw [if_pos c, low_none 4 c, if_neg (by decide)]
    rfl
  · have hl : -1 ≤ lowN (fun k => hiM P m k) 4 := by
      have : ∀ (H : Nat → Int) (j : Nat), -1 ≤ lowN H j := fun H j => by
        induction j with
        | zero => show (-1 : Int) ≤ -1; omega
        | succ j ih => rw [lowN_s]; (repeat' split) <;> omega
      exact this _ 4
    rw [if_neg c, Int.tmod_eq_emod_of_nonneg (by omega)]
    exact fc_ok ⟨by omega, by omega⟩
/-- nothing but the chord has changed -/
def CU (p p' : OS) : Prop := (∀ j : Nat, j ≠ 19 → j ≠ 20 → j ≠ 21 → p'.1 j = p.1 j) ∧ p'.2 = p.2
def tr9 (p : OS) : T3 := (p.1 19, p.1 20, p.1 21)
theorem CU.rf {p : OS} : CU p p := ⟨fun _ _ _ _ => rfl, rfl⟩
theorem CU.u {p p' : OS} (h : CU p p') {k : Nat} {x : Int} (hk : k = 19 ∨ k = 20 ∨ k = 21) : CU p (oU p' k x) := ⟨fun j h1 h2 h3 => by rw [oU_n (by omega)]; exact h.1 j h1 h2 h3, h.2⟩
theorem CU.ws {P : Nat → OS} {m : Nat} {p p' : OS} (h : CU p p') (hW : WS P m p) : WS P m p' := by
  refine ⟨(h.1 15 (by decide) (by decide) (by decide)).trans hW.1, fun k hk => ?_⟩
  rw [h.2]
  exact hW.2 k hk
theorem CU.mi {d : MD} {P mp : Nat → OS} {p0 p p' : OS} (h : CU p p') (hI : MI d P p0 mp p.2) : MI d P p0 mp p'.2 := by rw [h.2]; exact hI
abbrev F3s : Int → Int := upI (upI (upI (upI (fun _ => 0) 0 4) 1 3) 2 3) 3 4
abbrev F3t : Int → Int := upI (upI (upI (upI (fun _ => 0) 0 7) 1 7) 2 6) 3 8
theorem F3s_ok {k : Int} (hk : 0 ≤ k ∧ k < 4) : F3s k = lk [4, 3, 3, 4] k := by
  rcases (by omega : k = 0 ∨ k = 1 ∨ k = 2 ∨ k = 3) with e | e | e | e <;> subst e <;> rfl
theorem F3t_ok {k : Int} (hk : 0 ≤ k ∧ k < 4) : F3t k = lk [7, 7, 6, 8] k := by
  rcases (by omega : k = 0 ∨ k = 1 ∨ k = 2 ∨ k = 3) with e | e | e | e <;> subst e <;> rfl
set_option maxRecDepth 100000 in
theorem c_X11_findChord {l : Launch} {G : jG} {h : jH} {a : Nat} {d : MD} {mp P : Nat → OS} {p p0 : OS} {Z : Nat → Nat} {m : Nat} (hM : Mod G h a d mp p) (hZ : Mz a d Z) (hI : MI d P p0 mp p.2) (hW : WS P (m + 1) p) : jC l G yX11_findChord mX11_findChord [.ref a] h (jW oN (fun h' => ∃ p', Mod G h' a d mp p' ∧ tr9 p' = tri (chdF P m) ∧ CU p p' ∧ Fr (FtM a d) h h')) := by
  have hs := hI.1.1
  obtain ⟨cl, hcl⟩ : ∃ cl, cl = clsN (fun k => hiM P m k) 4 := ⟨_, rfl⟩
  obtain ⟨lo, hlo⟩ : ∃ lo, lo = lowN (fun k => hiM P m k) 4 := ⟨_, rfl⟩
  have hclr : cl < 4096 := by rw [hcl]; exact clsN_lt _ 4
  have hlor : -1 ≤ lo ∧ lo ≤ 200 := by rw [hlo]; exact low_rg (by omega) 4 (fun k hk => (hiM_rgI hs m k ⟨by omega, by omega⟩).2)
  have hres := fc_chd P m
  rw [← hcl, ← hlo] at hres
  -- the end
  have fin : ∀ (q3 q4 : Nat) (L : List (Nat × Value)) (p' : OS) (h2 : jH), h q3 = none → h q4 = none → Mod G h2 a d mp p' → CU p p' → tr9 p' = tri (chdF P m) → (∀ b, b ≠ q3 → b ≠ q4 → ¬ FtM a d b → h2 b = h b) → J l G mX11_findChord (jQ G mX11_findChord (jW oN (fun h' => ∃ p', Mod G h' a d mp p' ∧ tr9 p' = tri (chdF P m) ∧ CU p p' ∧ Fr (FtM a d) h h'))) 0 0 257 L [] h2 := by
    intro q3 q4 L p' h2 n3 n4 hM2 hU hT hR
    have o3 := hM.out n3
    have o4 := hM.out n4
    refine J_forget (h' := fun b => if b = q3 ∨ b = q4 then none else h2 b) (fun b e hb => ?_) ?_
    · split at hb
      · cases hb
      · exact hb
    · refine j_vret rfl dX11_findChord_257 ?_
      refine ⟨rfl, p', hM2.fr (S := fun b => b = q3 ∨ b = q4) (fun b hb => if_neg hb) (fun b hb c => ?_), hT, hU, fun b hb => ?_⟩
      · rcases c with c | c
        · exact o3 (c ▸ hb)
        · exact o4 (c ▸ hb)
      · dsimp only
        by_cases c : b = q3
        · subst c; rw [if_pos (Or.inl rfl), n3]
        · by_cases c2 : b = q4
          · subst c2; rw [if_pos (Or.inr rfl), n4]
          · rw [if_neg (fun z => z.elim c c2)]
            exact hR b c c2 hb
  -- the kinds
  have kinds : ∀ (q3 q4 : Nat), h q3 = none → h q4 = none → ∀ (n kk : Nat) (p' : OS) (h2 : jH), kk + n = 4 → Mod G h2 a d mp p' → CU p p' → tr9 p' = (if lo = -1 then (-1, -1, -1) else fcK cl (lo % 12) kk) → (∀ b, b ≠ q3 → b ≠ q4 → ¬ FtM a d b → h2 b = h b) → h2 q3 = some (ai G 4 F3s) → h2 q4 = some (ai G 4 F3t) → J l G mX11_findChord (jQ G mX11_findChord (jW oN (fun h' => ∃ p', Mod G h' a d mp p' ∧ tr9 p' = tri (chdF P m) ∧ CU p p' ∧ Fr (FtM a d) h h'))) 0 0 120 [(5, vI (kk : Int)), (4, .ref q4), (3, .ref q3), (2, vI lo), (1, vI (cl : Int)), (0, .ref a)] [] h2 := by
    intro q3 q4 n3 n4 n
    have o3 := hM.out n3
    have o4 := hM.out n4
    induction n with
    | zero =>
      intro kk p' h2 hkk hM2 hU hT hR hA3 hA4
      obtain rfl : kk = 4 := by omega
      refine j_iload dX11_findChord_120 rfl ?_
      refine J_iconst dX11_findChord_122 ?_
      refine J_icmp_ge 257 dX11_findChord_123 (by decide) (fun c123 => ?_) (fun c123 => absurd c123 (by omega)) 
      exact fin q3 q4 _ p' h2 n3 n4 hM2 hU (hT.trans hres) hR
    | succ n ih =>
      intro kk p' h2 hkk hM2 hU hT hR hA3 hA4
      have hkk4 : 0 ≤ (kk : Int) ∧ (kk : Int) < 4 := ⟨by omega, by omega⟩
      have inner : lo ≠ -1 → ∀ (n2 r : Nat) (p' : OS) (h2 : jH), r + n2 = 12 → Mod G h2 a d mp p' → CU p p' → tr9 p' = fcR cl (lo % 12) kk (fcK cl (lo % 12) kk) r → (∀ b, b ≠ q3 → b ≠ q4 → ¬ FtM a d b → h2 b = h b) → h2 q3 = some (ai G 4 F3s) → h2 q4 = some (ai G 4 F3t) → J l G mX11_findChord (jQ G mX11_findChord (jW oN (fun h' => ∃ p', Mod G h' a d mp p' ∧ tr9 p' = tri (chdF P m) ∧ CU p p' ∧ Fr (FtM a d) h h'))) 0 0 134 [(6, vI (r : Int)), (5, vI (kk : Int)), (4, .ref q4), (3, .ref q3), (2, vI lo), (1, vI (cl : Int)), (0, .ref a)] [] h2 := by
        intro hne n2
        induction n2 with
        | zero =>
          intro r p' h2 hr hM2 hU hT hR hA3 hA4
          obtain rfl : r = 12 := by omega
          refine j_iload dX11_findChord_134 rfl ?_
          refine J_bipush dX11_findChord_136 (by decide) ?_
          refine J_icmp_ge 251 dX11_findChord_138 (by decide) (fun c138 => ?_) (fun c138 => absurd c138 (by omega)) 
          refine J_iinc (L' := [(5, _), (6, _), (4, _), (3, _), (2, _), (1, _), (0, _)]) dX11_findChord_251 rfl rfl rfl ?_
          refine j_goto 120 dX11_findChord_254 (by decide) ?_
          exact j_locR (ih (kk + 1) p' h2 (by omega) hM2 hU (by rw [if_neg hne]; exact hT) hR hA3 hA4) (by repeat' (first | exact True.intro | refine And.intro rfl ?_))
        | succ n2 ih2 =>
          intro r p' h2 hr hM2 hU hT hR hA3 hA4
          have hr12 : 0 ≤ (r : Int) ∧ (r : Int) < 12 := ⟨by omega, by omega⟩
          have hP := hM2.1
          have hl3 := lk4 [4, 3, 3, 4] kk hkk4 (Or.inl rfl)
          have hl4 := lk4 [7, 7, 6, 8] kk hkk4 (Or.inr rfl)
          have hm3 := mk3_rg hkk4 hr12
          have hmo : lo.tmod 12 = lo % 12 := Int.tmod_eq_emod_of_nonneg (by omega)
          have hfc : fcR cl (lo % 12) kk (fcK cl (lo % 12) kk) (r + 1) = fcS cl (lo % 12) (fcR cl (lo % 12) kk (fcK cl (lo % 12) kk) r) kk r := rfl
          refine j_iload dX11_findChord_134 rfl ?_
          refine J_bipush dX11_findChord_136 (by decide) ?_
          refine J_icmp_ge 251 dX11_findChord_138 (by decide) (fun c138 => absurd c138 (by omega)) (fun c138 => ?_) 
          refine j_iload_n 1 dX11_findChord_141 rfl rfl ?_
          refine J_iconst dX11_findChord_142 ?_
          refine j_iload dX11_findChord_143 rfl ?_
          refine J_ishl dX11_findChord_145 ?_ (by omega)
          refine J_iconst dX11_findChord_146 ?_
          refine j_iload dX11_findChord_147 rfl ?_
          refine j_aload_n 3 dX11_findChord_149 rfl rfl ?_
          refine j_iload dX11_findChord_150 rfl ?_
          refine J_iald dX11_findChord_152 (hA3) ?_ 
          refine J_top (lk [4, 3, 3, 4] kk) ?_ (by exact F3s_ok hkk4)
          refine J_iadd dX11_findChord_153 ?_
          refine J_bipush dX11_findChord_154 (by decide) ?_
          refine J_irem dX11_findChord_156 ?_ 
          refine J_top (sec r kk) ?_ (by exact Int.tmod_eq_emod_of_nonneg (by omega))
          have hsc : 0 ≤ sec r kk ∧ sec r kk < 12 := ⟨Int.emod_nonneg _ (by decide), Int.emod_lt_of_pos _ (by decide)⟩
          refine J_ishl dX11_findChord_157 ?_ (by omega)
          refine J_ior dX11_findChord_158 ?_ 
          refine J_iconst dX11_findChord_159 ?_
          refine j_iload dX11_findChord_160 rfl ?_
          refine j_aload dX11_findChord_162 rfl ?_
          refine j_iload dX11_findChord_164 rfl ?_
          refine J_iald dX11_findChord_166 (hA4) ?_ 
          refine J_top (lk [7, 7, 6, 8] kk) ?_ (by exact F3t_ok hkk4)
          refine J_iadd dX11_findChord_167 ?_
          refine J_bipush dX11_findChord_168 (by decide) ?_
          refine J_irem dX11_findChord_170 ?_ 
          refine J_top (thi r kk) ?_ (by exact Int.tmod_eq_emod_of_nonneg (by omega))
          have hth : 0 ≤ thi r kk ∧ thi r kk < 12 := ⟨Int.emod_nonneg _ (by decide), Int.emod_lt_of_pos _ (by decide)⟩
          refine J_ishl dX11_findChord_171 ?_ (by omega)
          refine J_ior dX11_findChord_172 ?_ 
          refine J_top ((mk3 r (sec r kk) (thi r kk) : Nat) : Int) ?_ (by rfl)
          refine J_icmp_ne 245 dX11_findChord_173 (by decide) (fun c173 => ?_) (fun c173 => ?_) (by omega)
          · refine J_iinc (L' := [(6, _), (5, _), (4, _), (3, _), (2, _), (1, _), (0, _)]) dX11_findChord_245 rfl rfl rfl ?_
            refine j_goto 134 dX11_findChord_248 (by decide) ?_
            have g := ih2 (r + 1)
            rw [hfc] at g
            unfold fcS at g
            first
            | (rw [if_neg (fun z => c173 (by omega))] at g; exact j_locR (g p' h2 (by omega) hM2 hU hT hR hA3 hA4) (by repeat' (first | exact True.intro | refine And.intro rfl ?_)))
            | (rw [if_neg (fun z => z.2 ⟨by omega, by omega⟩)] at g; exact j_locR (g p' h2 (by omega) hM2 hU hT hR hA3 hA4) (by repeat' (first | exact True.intro | refine And.intro rfl ?_)))
            | (rw [if_pos ⟨by omega, fun z => by omega⟩] at g; rw [if_pos (by omega)] at g; exact j_locR (g _ _ (by omega) hM2 (((hU.u (k := 19) (Or.inl rfl)).u (k := 20) (Or.inr (Or.inl rfl))).u (k := 21) (Or.inr (Or.inr rfl))) rfl hR hA3 hA4) (by repeat' (first | exact True.intro | refine And.intro rfl ?_)))
            | (rw [if_pos ⟨by omega, fun z => by omega⟩] at g; rw [if_neg (by omega), if_pos (by omega)] at g; exact j_locR (g _ _ (by omega) hM2 (((hU.u (k := 19) (Or.inl rfl)).u (k := 20) (Or.inr (Or.inl rfl))).u (k := 21) (Or.inr (Or.inr rfl))) rfl hR hA3 hA4) (by repeat' (first | exact True.intro | refine And.intro rfl ?_)))
            | (rw [if_pos ⟨by omega, fun z => by omega⟩] at g; rw [if_neg (by omega), if_neg (by omega)] at g; exact j_locR (g _ _ (by omega) hM2 (((hU.u (k := 19) (Or.inl rfl)).u (k := 20) (Or.inr (Or.inl rfl))).u (k := 21) (Or.inr (Or.inr rfl))) rfl hR hA3 hA4) (by repeat' (first | exact True.intro | refine And.intro rfl ?_)))
          · refine j_iload dX11_findChord_176 rfl ?_
            refine J_iconst dX11_findChord_178 ?_
            refine J_icmp_ne 194 dX11_findChord_179 (by decide) (fun c179 => ?_) (fun c179 => ?_) 
            · refine j_aload_n 0 dX11_findChord_194 rfl rfl ?_
              refine j_iload dX11_findChord_195 rfl ?_
              refine J_putA hP fX11_261 tyX11_chordRoot dX11_findChord_197 rfl rfl (fun h hP hF197 => ?_)
              have hM2 := hM2.w hZ hP hF197
              have hA3 := (hF197 q3 (fun z => o3 (Or.inl z))).trans hA3
              have hA4 := (hF197 q4 (fun z => o4 (Or.inl z))).trans hA4
              have hR := fun (b : Nat) (x : b ≠ q3) (y : b ≠ q4) (z : ¬ FtM a d b) => (hF197 b (fun c => z (Or.inl c))).trans (hR b x y z)
              refine j_aload_n 0 dX11_findChord_200 rfl rfl ?_
              refine j_iload dX11_findChord_201 rfl ?_
              refine J_putA hP fX11_264 tyX11_chordKind dX11_findChord_203 rfl rfl (fun h hP hF203 => ?_)
              have hM2 := hM2.w hZ hP hF203
              have hA3 := (hF203 q3 (fun z => o3 (Or.inl z))).trans hA3
              have hA4 := (hF203 q4 (fun z => o4 (Or.inl z))).trans hA4
              have hR := fun (b : Nat) (x : b ≠ q3) (y : b ≠ q4) (z : ¬ FtM a d b) => (hF203 b (fun c => z (Or.inl c))).trans (hR b x y z)
              refine j_aload_n 0 dX11_findChord_206 rfl rfl ?_
              refine j_iload_n 2 dX11_findChord_207 rfl rfl ?_
              refine J_bipush dX11_findChord_208 (by decide) ?_
              refine J_irem dX11_findChord_210 ?_ 
              refine J_top (lo % 12) ?_ (by exact hmo)
              refine j_iload dX11_findChord_211 rfl ?_
              refine J_icmp_ne 220 dX11_findChord_213 (by decide) (fun c213 => ?_) (fun c213 => ?_) 
              · refine j_iload_n 2 dX11_findChord_220 rfl rfl ?_
                refine J_bipush dX11_findChord_221 (by decide) ?_
                refine J_irem dX11_findChord_223 ?_ 
                refine J_top (lo % 12) ?_ (by exact hmo)
                refine j_iload dX11_findChord_224 rfl ?_
                refine j_aload_n 3 dX11_findChord_226 rfl rfl ?_
                refine j_iload dX11_findChord_227 rfl ?_
                refine J_iald dX11_findChord_229 (hA3) ?_ 
                refine J_top (lk [4, 3, 3, 4] kk) ?_ (by exact F3s_ok hkk4)
                refine J_iadd dX11_findChord_230 ?_
                refine J_bipush dX11_findChord_231 (by decide) ?_
                refine J_irem dX11_findChord_233 ?_ 
                refine J_top (sec r kk) ?_ (by exact Int.tmod_eq_emod_of_nonneg (by omega))
                refine J_icmp_ne 241 dX11_findChord_234 (by decide) (fun c234 => ?_) (fun c234 => ?_) 
                · refine J_iconst dX11_findChord_241 ?_
                  refine J_putA hP fX11_267 tyX11_chordInversion dX11_findChord_242 rfl rfl (fun h hP hF242 => ?_)
                  have hM2 := hM2.w hZ hP hF242
                  have hA3 := (hF242 q3 (fun z => o3 (Or.inl z))).trans hA3
                  have hA4 := (hF242 q4 (fun z => o4 (Or.inl z))).trans hA4
                  have hR := fun (b : Nat) (x : b ≠ q3) (y : b ≠ q4) (z : ¬ FtM a d b) => (hF242 b (fun c => z (Or.inl c))).trans (hR b x y z)
                  refine J_iinc (L' := [(6, _), (5, _), (4, _), (3, _), (2, _), (1, _), (0, _)]) dX11_findChord_245 rfl rfl rfl ?_
                  refine j_goto 134 dX11_findChord_248 (by decide) ?_
                  have g := ih2 (r + 1)
                  rw [hfc] at g
                  unfold fcS at g
                  first
                  | (rw [if_neg (fun z => c173 (by omega))] at g; exact j_locR (g p' h2 (by omega) hM2 hU hT hR hA3 hA4) (by repeat' (first | exact True.intro | refine And.intro rfl ?_)))
                  | (rw [if_neg (fun z => z.2 ⟨by omega, by omega⟩)] at g; exact j_locR (g p' h2 (by omega) hM2 hU hT hR hA3 hA4) (by repeat' (first | exact True.intro | refine And.intro rfl ?_)))
                  | (rw [if_pos ⟨by omega, fun z => by omega⟩] at g; rw [if_pos (by omega)] at g; exact j_locR (g _ _ (by omega) hM2 (((hU.u (k := 19) (Or.inl rfl)).u (k := 20) (Or.inr (Or.inl rfl))).u (k := 21) (Or.inr (Or.inr rfl))) rfl hR hA3 hA4) (by repeat' (first | exact True.intro | refine And.intro rfl ?_)))
                  | (rw [if_pos ⟨by omega, fun z => by omega⟩] at g; rw [if_neg (by omega), if_pos (by omega)] at g; exact j_locR (g _ _ (by omega) hM2 (((hU.u (k := 19) (Or.inl rfl)).u (k := 20) (Or.inr (Or.inl rfl))).u (k := 21) (Or.inr (Or.inr rfl))) rfl hR hA3 hA4) (by repeat' (first | exact True.intro | refine And.intro rfl ?_)))
                  | (rw [if_pos ⟨by omega, fun z => by omega⟩] at g; rw [if_neg (by omega), if_neg (by omega)] at g; exact j_locR (g _ _ (by omega) hM2 (((hU.u (k := 19) (Or.inl rfl)).u (k := 20) (Or.inr (Or.inl rfl))).u (k := 21) (Or.inr (Or.inr rfl))) rfl hR hA3 hA4) (by repeat' (first | exact True.intro | refine And.intro rfl ?_)))
                · refine J_iconst dX11_findChord_237 ?_
                  refine j_goto 242 dX11_findChord_238 (by decide) ?_
                  refine J_putA hP fX11_267 tyX11_chordInversion dX11_findChord_242 rfl rfl (fun h hP hF242 => ?_)
                  have hM2 := hM2.w hZ hP hF242
                  have hA3 := (hF242 q3 (fun z => o3 (Or.inl z))).trans hA3
                  have hA4 := (hF242 q4 (fun z => o4 (Or.inl z))).trans hA4
                  have hR := fun (b : Nat) (x : b ≠ q3) (y : b ≠ q4) (z : ¬ FtM a d b) => (hF242 b (fun c => z (Or.inl c))).trans (hR b x y z)
                  refine J_iinc (L' := [(6, _), (5, _), (4, _), (3, _), (2, _), (1, _), (0, _)]) dX11_findChord_245 rfl rfl rfl ?_
                  refine j_goto 134 dX11_findChord_248 (by decide) ?_
                  have g := ih2 (r + 1)
                  rw [hfc] at g
                  unfold fcS at g
                  first
                  | (rw [if_neg (fun z => c173 (by omega))] at g; exact j_locR (g p' h2 (by omega) hM2 hU hT hR hA3 hA4) (by repeat' (first | exact True.intro | refine And.intro rfl ?_)))
                  | (rw [if_neg (fun z => z.2 ⟨by omega, by omega⟩)] at g; exact j_locR (g p' h2 (by omega) hM2 hU hT hR hA3 hA4) (by repeat' (first | exact True.intro | refine And.intro rfl ?_)))
                  | (rw [if_pos ⟨by omega, fun z => by omega⟩] at g; rw [if_pos (by omega)] at g; exact j_locR (g _ _ (by omega) hM2 (((hU.u (k := 19) (Or.inl rfl)).u (k := 20) (Or.inr (Or.inl rfl))).u (k := 21) (Or.inr (Or.inr rfl))) rfl hR hA3 hA4) (by repeat' (first | exact True.intro | refine And.intro rfl ?_)))
                  | (rw [if_pos ⟨by omega, fun z => by omega⟩] at g; rw [if_neg (by omega), if_pos (by omega)] at g; exact j_locR (g _ _ (by omega) hM2 (((hU.u (k := 19) (Or.inl rfl)).u (k := 20) (Or.inr (Or.inl rfl))).u (k := 21) (Or.inr (Or.inr rfl))) rfl hR hA3 hA4) (by repeat' (first | exact True.intro | refine And.intro rfl ?_)))
                  | (rw [if_pos ⟨by omega, fun z => by omega⟩] at g; rw [if_neg (by omega), if_neg (by omega)] at g; exact j_locR (g _ _ (by omega) hM2 (((hU.u (k := 19) (Or.inl rfl)).u (k := 20) (Or.inr (Or.inl rfl))).u (k := 21) (Or.inr (Or.inr rfl))) rfl hR hA3 hA4) (by repeat' (first | exact True.intro | refine And.intro rfl ?_)))
              · refine J_iconst dX11_findChord_216 ?_
                refine j_goto 242 dX11_findChord_217 (by decide) ?_
                refine J_putA hP fX11_267 tyX11_chordInversion dX11_findChord_242 rfl rfl (fun h hP hF242 => ?_)
                have hM2 := hM2.w hZ hP hF242
                have hA3 := (hF242 q3 (fun z => o3 (Or.inl z))).trans hA3
                have hA4 := (hF242 q4 (fun z => o4 (Or.inl z))).trans hA4
                have hR := fun (b : Nat) (x : b ≠ q3) (y : b ≠ q4) (z : ¬ FtM a d b) => (hF242 b (fun c => z (Or.inl c))).trans (hR b x y z)
                refine J_iinc (L' := [(6, _), (5, _), (4, _), (3, _), (2, _), (1, _), (0, _)]) dX11_findChord_245 rfl rfl rfl ?_
                refine j_goto 134 dX11_findChord_248 (by decide) ?_
                have g := ih2 (r + 1)
                rw [hfc] at g
                unfold fcS at g
                first
                | (rw [if_neg (fun z => c173 (by omega))] at g; exact j_locR (g p' h2 (by omega) hM2 hU hT hR hA3 hA4) (by repeat' (first | exact True.intro | refine And.intro rfl ?_)))
                | (rw [if_neg (fun z => z.2 ⟨by omega, by omega⟩)] at g; exact j_locR (g p' h2 (by omega) hM2 hU hT hR hA3 hA4) (by repeat' (first | exact True.intro | refine And.intro rfl ?_)))
                | (rw [if_pos ⟨by omega, fun z => by omega⟩] at g; rw [if_pos (by omega)] at g; exact j_locR (g _ _ (by omega) hM2 (((hU.u (k := 19) (Or.inl rfl)).u (k := 20) (Or.inr (Or.inl rfl))).u (k := 21) (Or.inr (Or.inr rfl))) rfl hR hA3 hA4) (by repeat' (first | exact True.intro | refine And.intro rfl ?_)))
                | (rw [if_pos ⟨by omega, fun z => by omega⟩] at g; rw [if_neg (by omega), if_pos (by omega)] at g; exact j_locR (g _ _ (by omega) hM2 (((hU.u (k := 19) (Or.inl rfl)).u (k := 20) (Or.inr (Or.inl rfl))).u (k := 21) (Or.inr (Or.inr rfl))) rfl hR hA3 hA4) (by repeat' (first | exact True.intro | refine And.intro rfl ?_)))
                | (rw [if_pos ⟨by omega, fun z => by omega⟩] at g; rw [if_neg (by omega), if_neg (by omega)] at g; exact j_locR (g _ _ (by omega) hM2 (((hU.u (k := 19) (Or.inl rfl)).u (k := 20) (Or.inr (Or.inl rfl))).u (k := 21) (Or.inr (Or.inr rfl))) rfl hR hA3 hA4) (by repeat' (first | exact True.intro | refine And.intro rfl ?_)))
            · refine j_iload dX11_findChord_182 rfl ?_
              refine j_iload_n 2 dX11_findChord_184 rfl rfl ?_
              refine J_bipush dX11_findChord_185 (by decide) ?_
              refine J_irem dX11_findChord_187 ?_ 
              refine J_top (lo % 12) ?_ (by exact hmo)
              refine J_icmp_eq 194 dX11_findChord_188 (by decide) (fun c188 => ?_) (fun c188 => ?_) 
              · refine j_aload_n 0 dX11_findChord_194 rfl rfl ?_
                refine j_iload dX11_findChord_195 rfl ?_
                refine J_putA hP fX11_261 tyX11_chordRoot dX11_findChord_197 rfl rfl (fun h hP hF197 => ?_)
                have hM2 := hM2.w hZ hP hF197
                have hA3 := (hF197 q3 (fun z => o3 (Or.inl z))).trans hA3
                have hA4 := (hF197 q4 (fun z => o4 (Or.inl z))).trans hA4
                have hR := fun (b : Nat) (x : b ≠ q3) (y : b ≠ q4) (z : ¬ FtM a d b) => (hF197 b (fun c => z (Or.inl c))).trans (hR b x y z)
                refine j_aload_n 0 dX11_findChord_200 rfl rfl ?_
                refine j_iload dX11_findChord_201 rfl ?_
                refine J_putA hP fX11_264 tyX11_chordKind dX11_findChord_203 rfl rfl (fun h hP hF203 => ?_)
                have hM2 := hM2.w hZ hP hF203
                have hA3 := (hF203 q3 (fun z => o3 (Or.inl z))).trans hA3
                have hA4 := (hF203 q4 (fun z => o4 (Or.inl z))).trans hA4
                have hR := fun (b : Nat) (x : b ≠ q3) (y : b ≠ q4) (z : ¬ FtM a d b) => (hF203 b (fun c => z (Or.inl c))).trans (hR b x y z)
                refine j_aload_n 0 dX11_findChord_206 rfl rfl ?_
                refine j_iload_n 2 dX11_findChord_207 rfl rfl ?_
                refine J_bipush dX11_findChord_208 (by decide) ?_
                refine J_irem dX11_findChord_210 ?_ 
                refine J_top (lo % 12) ?_ (by exact hmo)
                refine j_iload dX11_findChord_211 rfl ?_
                refine J_icmp_ne 220 dX11_findChord_213 (by decide) (fun c213 => ?_) (fun c213 => ?_) 
                · refine j_iload_n 2 dX11_findChord_220 rfl rfl ?_
                  refine J_bipush dX11_findChord_221 (by decide) ?_
                  refine J_irem dX11_findChord_223 ?_ 
                  refine J_top (lo % 12) ?_ (by exact hmo)
                  refine j_iload dX11_findChord_224 rfl ?_
                  refine j_aload_n 3 dX11_findChord_226 rfl rfl ?_
                  refine j_iload dX11_findChord_227 rfl ?_
                  refine J_iald dX11_findChord_229 (hA3) ?_ 
                  refine J_top (lk [4, 3, 3, 4] kk) ?_ (by exact F3s_ok hkk4)
                  refine J_iadd dX11_findChord_230 ?_
                  refine J_bipush dX11_findChord_231 (by decide) ?_
                  refine J_irem dX11_findChord_233 ?_ 
                  refine J_top (sec r kk) ?_ (by exact Int.tmod_eq_emod_of_nonneg (by omega))
                  refine J_icmp_ne 241 dX11_findChord_234 (by decide) (fun c234 => ?_) (fun c234 => ?_) 
                  · refine J_iconst dX11_findChord_241 ?_
                    refine J_putA hP fX11_267 tyX11_chordInversion dX11_findChord_242 rfl rfl (fun h hP hF242 => ?_)
                    have hM2 := hM2.w hZ hP hF242
                    have hA3 := (hF242 q3 (fun z => o3 (Or.inl z))).trans hA3
                    have hA4 := (hF242 q4 (fun z => o4 (Or.inl z))).trans hA4
                    have hR := fun (b : Nat) (x : b ≠ q3) (y : b ≠ q4) (z : ¬ FtM a d b) => (hF242 b (fun c => z (Or.inl c))).trans (hR b x y z)
                    refine J_iinc (L' := [(6, _), (5, _), (4, _), (3, _), (2, _), (1, _), (0, _)]) dX11_findChord_245 rfl rfl rfl ?_
                    refine j_goto 134 dX11_findChord_248 (by decide) ?_
                    have g := ih2 (r + 1)
                    rw [hfc] at g
                    unfold fcS at g
                    first
                    | (rw [if_neg (fun z => c173 (by omega))] at g; exact j_locR (g p' h2 (by omega) hM2 hU hT hR hA3 hA4) (by repeat' (first | exact True.intro | refine And.intro rfl ?_)))
                    | (rw [if_neg (fun z => z.2 ⟨by omega, by omega⟩)] at g; exact j_locR (g p' h2 (by omega) hM2 hU hT hR hA3 hA4) (by repeat' (first | exact True.intro | refine And.intro rfl ?_)))
                    | (rw [if_pos ⟨by omega, fun z => by omega⟩] at g; rw [if_pos (by omega)] at g; exact j_locR (g _ _ (by omega) hM2 (((hU.u (k := 19) (Or.inl rfl)).u (k := 20) (Or.inr (Or.inl rfl))).u (k := 21) (Or.inr (Or.inr rfl))) rfl hR hA3 hA4) (by repeat' (first | exact True.intro | refine And.intro rfl ?_)))
                    | (rw [if_pos ⟨by omega, fun z => by omega⟩] at g; rw [if_neg (by omega), if_pos (by omega)] at g; exact j_locR (g _ _ (by omega) hM2 (((hU.u (k := 19) (Or.inl rfl)).u (k := 20) (Or.inr (Or.inl rfl))).u (k := 21) (Or.inr (Or.inr rfl))) rfl hR hA3 hA4) (by repeat' (first | exact True.intro | refine And.intro rfl ?_)))
                    | (rw [if_pos ⟨by omega, fun z => by omega⟩] at g; rw [if_neg (by omega), if_neg (by omega)] at g; exact j_locR (g _ _ (by omega) hM2 (((hU.u (k := 19) (Or.inl rfl)).u (k := 20) (Or.inr (Or.inl rfl))).u (k := 21) (Or.inr (Or.inr rfl))) rfl hR hA3 hA4) (by repeat' (first | exact True.intro | refine And.intro rfl ?_)))
                  · refine J_iconst dX11_findChord_237 ?_
                    refine j_goto 242 dX11_findChord_238 (by decide) ?_
                    refine J_putA hP fX11_267 tyX11_chordInversion dX11_findChord_242 rfl rfl (fun h hP hF242 => ?_)
                    have hM2 := hM2.w hZ hP hF242
                    have hA3 := (hF242 q3 (fun z => o3 (Or.inl z))).trans hA3
                    have hA4 := (hF242 q4 (fun z => o4 (Or.inl z))).trans hA4
                    have hR := fun (b : Nat) (x : b ≠ q3) (y : b ≠ q4) (z : ¬ FtM a d b) => (hF242 b (fun c => z (Or.inl c))).trans (hR b x y z)
                    refine J_iinc (L' := [(6, _), (5, _), (4, _), (3, _), (2, _), (1, _), (0, _)]) dX11_findChord_245 rfl rfl rfl ?_
                    refine j_goto 134 dX11_findChord_248 (by decide) ?_
                    have g := ih2 (r + 1)
                    rw [hfc] at g
                    unfold fcS at g
                    first
                    | (rw [if_neg (fun z => c173 (by omega))] at g; exact j_locR (g p' h2 (by omega) hM2 hU hT hR hA3 hA4) (by repeat' (first | exact True.intro | refine And.intro rfl ?_)))
                    | (rw [if_neg (fun z => z.2 ⟨by omega, by omega⟩)] at g; exact j_locR (g p' h2 (by omega) hM2 hU hT hR hA3 hA4) (by repeat' (first | exact True.intro | refine And.intro rfl ?_)))
                    | (rw [if_pos ⟨by omega, fun z => by omega⟩] at g; rw [if_pos (by omega)] at g; exact j_locR (g _ _ (by omega) hM2 (((hU.u (k := 19) (Or.inl rfl)).u (k := 20) (Or.inr (Or.inl rfl))).u (k := 21) (Or.inr (Or.inr rfl))) rfl hR hA3 hA4) (by repeat' (first | exact True.intro | refine And.intro rfl ?_)))
                    | (rw [if_pos ⟨by omega, fun z => by omega⟩] at g; rw [if_neg (by omega), if_pos (by omega)] at g; exact j_locR (g _ _ (by omega) hM2 (((hU.u (k := 19) (Or.inl rfl)).u (k := 20) (Or.inr (Or.inl rfl))).u (k := 21) (Or.inr (Or.inr rfl))) rfl hR hA3 hA4) (by repeat' (first | exact True.intro | refine And.intro rfl ?_)))
                    | (rw [if_pos ⟨by omega, fun z => by omega⟩] at g; rw [if_neg (by omega), if_neg (by omega)] at g; exact j_locR (g _ _ (by omega) hM2 (((hU.u (k := 19) (Or.inl rfl)).u (k := 20) (Or.inr (Or.inl rfl))).u (k := 21) (Or.inr (Or.inr rfl))) rfl hR hA3 hA4) (by repeat' (first | exact True.intro | refine And.intro rfl ?_)))
                · refine J_iconst dX11_findChord_216 ?_
                  refine j_goto 242 dX11_findChord_217 (by decide) ?_
                  refine J_putA hP fX11_267 tyX11_chordInversion dX11_findChord_242 rfl rfl (fun h hP hF242 => ?_)
                  have hM2 := hM2.w hZ hP hF242
                  have hA3 := (hF242 q3 (fun z => o3 (Or.inl z))).trans hA3
                  have hA4 := (hF242 q4 (fun z => o4 (Or.inl z))).trans hA4
                  have hR := fun (b : Nat) (x : b ≠ q3) (y : b ≠ q4) (z : ¬ FtM a d b) => (hF242 b (fun c => z (Or.inl c))).trans (hR b x y z)
                  refine J_iinc (L' := [(6, _), (5, _), (4, _), (3, _), (2, _), (1, _), (0, _)]) dX11_findChord_245 rfl rfl rfl ?_
                  refine j_goto 134 dX11_findChord_248 (by decide) ?_
                  have g := ih2 (r + 1)
                  rw [hfc] at g
                  unfold fcS at g
                  first
                  | (rw [if_neg (fun z => c173 (by omega))] at g; exact j_locR (g p' h2 (by omega) hM2 hU hT hR hA3 hA4) (by repeat' (first | exact True.intro | refine And.intro rfl ?_)))
                  | (rw [if_neg (fun z => z.2 ⟨by omega, by omega⟩)] at g; exact j_locR (g p' h2 (by omega) hM2 hU hT hR hA3 hA4) (by repeat' (first | exact True.intro | refine And.intro rfl ?_)))
                  | (rw [if_pos ⟨by omega, fun z => by omega⟩] at g; rw [if_pos (by omega)] at g; exact j_locR (g _ _ (by omega) hM2 (((hU.u (k := 19) (Or.inl rfl)).u (k := 20) (Or.inr (Or.inl rfl))).u (k := 21) (Or.inr (Or.inr rfl))) rfl hR hA3 hA4) (by repeat' (first | exact True.intro | refine And.intro rfl ?_)))
                  | (rw [if_pos ⟨by omega, fun z => by omega⟩] at g; rw [if_neg (by omega), if_pos (by omega)] at g; exact j_locR (g _ _ (by omega) hM2 (((hU.u (k := 19) (Or.inl rfl)).u (k := 20) (Or.inr (Or.inl rfl))).u (k := 21) (Or.inr (Or.inr rfl))) rfl hR hA3 hA4) (by repeat' (first | exact True.intro | refine And.intro rfl ?_)))
                  | (rw [if_pos ⟨by omega, fun z => by omega⟩] at g; rw [if_neg (by omega), if_neg (by omega)] at g; exact j_locR (g _ _ (by omega) hM2 (((hU.u (k := 19) (Or.inl rfl)).u (k := 20) (Or.inr (Or.inl rfl))).u (k := 21) (Or.inr (Or.inr rfl))) rfl hR hA3 hA4) (by repeat' (first | exact True.intro | refine And.intro rfl ?_)))
              · refine j_goto 245 dX11_findChord_191 (by decide) ?_
                refine J_iinc (L' := [(6, _), (5, _), (4, _), (3, _), (2, _), (1, _), (0, _)]) dX11_findChord_245 rfl rfl rfl ?_
                refine j_goto 134 dX11_findChord_248 (by decide) ?_
                have g := ih2 (r + 1)
                rw [hfc] at g
                unfold fcS at g
                first
                | (rw [if_neg (fun z => c173 (by omega))] at g; exact j_locR (g p' h2 (by omega) hM2 hU hT hR hA3 hA4) (by repeat' (first | exact True.intro | refine And.intro rfl ?_)))
                | (rw [if_neg (fun z => z.2 ⟨by omega, by omega⟩)] at g; exact j_locR (g p' h2 (by omega) hM2 hU hT hR hA3 hA4) (by repeat' (first | exact True.intro | refine And.intro rfl ?_)))
                | (rw [if_pos ⟨by omega, fun z => by omega⟩] at g; rw [if_pos (by omega)] at g; exact j_locR (g _ _ (by omega) hM2 (((hU.u (k := 19) (Or.inl rfl)).u (k := 20) (Or.inr (Or.inl rfl))).u (k := 21) (Or.inr (Or.inr rfl))) rfl hR hA3 hA4) (by repeat' (first | exact True.intro | refine And.intro rfl ?_)))
                | (rw [if_pos ⟨by omega, fun z => by omega⟩] at g; rw [if_neg (by omega), if_pos (by omega)] at g; exact j_locR (g _ _ (by omega) hM2 (((hU.u (k := 19) (Or.inl rfl)).u (k := 20) (Or.inr (Or.inl rfl))).u (k := 21) (Or.inr (Or.inr rfl))) rfl hR hA3 hA4) (by repeat' (first | exact True.intro | refine And.intro rfl ?_)))
                | (rw [if_pos ⟨by omega, fun z => by omega⟩] at g; rw [if_neg (by omega), if_neg (by omega)] at g; exact j_locR (g _ _ (by omega) hM2 (((hU.u (k := 19) (Or.inl rfl)).u (k := 20) (Or.inr (Or.inl rfl))).u (k := 21) (Or.inr (Or.inr rfl))) rfl hR hA3 hA4) (by repeat' (first | exact True.intro | refine And.intro rfl ?_)))
      refine j_iload dX11_findChord_120 rfl ?_
      refine J_iconst dX11_findChord_122 ?_
      refine J_icmp_ge 257 dX11_findChord_123 (by decide) (fun c123 => absurd c123 (by omega)) (fun c123 => ?_) 
      refine j_iload_n 2 dX11_findChord_126 rfl rfl ?_
      refine J_iconst dX11_findChord_127 ?_
      refine J_icmp_eq 257 dX11_findChord_128 (by decide) (fun c128 => ?_) (fun c128 => ?_) 
      · rw [if_pos c128] at hT
        rw [if_pos c128] at hres
        exact fin q3 q4 _ p' h2 n3 n4 hM2 hU (hT.trans hres) hR
      · refine J_iconst dX11_findChord_131 ?_
        refine j_istore (L' := [(6, _), (5, _), (4, _), (3, _), (2, _), (1, _), (0, _)]) dX11_findChord_132 rfl rfl ?_
        rw [if_neg c128] at hT
        exact j_locR (inner c128 12 0 p' h2 (by omega) hM2 hU hT hR hA3 hA4) (by repeat' (first | exact True.intro | refine And.intro rfl ?_))
  have K72 : ∀ (p' : OS) (h2 : jH), Mod G h2 a d mp p' → CU p p' → tr9 p' = (-1, -1, -1) → Fr (FtM a d) h h2 → J l G mX11_findChord (jQ G mX11_findChord (jW oN (fun h' => ∃ p', Mod G h' a d mp p' ∧ tr9 p' = tri (chdF P m) ∧ CU p p' ∧ Fr (FtM a d) h h'))) 2 8 72 [(3, vI (4 : Nat)), (2, vI lo), (1, vI (cl : Int)), (0, .ref a)] [] h2 := by
    intro p' h2 hM2 hU hT hF
    refine J_iconst dX11_findChord_72 ?_
    refine j_newI (ck' := 1) (sk' := 4) 4 acI dX11_findChord_73 (by decide) (by decide) (by decide) (by decide) (by decide) (fun q3 hq3 _ => ?_)
    refine j_dup dX11_findChord_75 rfl ?_
    refine J_iconst dX11_findChord_76 ?_
    refine J_iconst dX11_findChord_77 ?_
    refine J_iast (F := fun _ => 0) dX11_findChord_78 (hset_s _ _ _) ?_
    rw [hset_hset]
    refine j_dup dX11_findChord_79 rfl ?_
    refine J_iconst dX11_findChord_80 ?_
    refine J_iconst dX11_findChord_81 ?_
    refine J_iast dX11_findChord_82 (hset_s _ _ _) ?_
    rw [hset_hset]
    refine j_dup dX11_findChord_83 rfl ?_
    refine J_iconst dX11_findChord_84 ?_
    refine J_iconst dX11_findChord_85 ?_
    refine J_iast dX11_findChord_86 (hset_s _ _ _) ?_
    rw [hset_hset]
    refine j_dup dX11_findChord_87 rfl ?_
    refine J_iconst dX11_findChord_88 ?_
    refine J_iconst dX11_findChord_89 ?_
    refine J_iast dX11_findChord_90 (hset_s _ _ _) ?_
    rw [hset_hset]
    refine j_astore_n 3 (L' := [(3, _), (2, _), (1, _), (0, _)]) dX11_findChord_91 rfl rfl rfl ?_
    refine J_iconst dX11_findChord_92 ?_
    refine j_newI (ck' := 0) (sk' := 0) 4 acI dX11_findChord_93 (by decide) (by decide) (by decide) (by decide) (by decide) (fun q4 hq4 _ => ?_)
    refine j_dup dX11_findChord_95 rfl ?_
    refine J_iconst dX11_findChord_96 ?_
    refine J_bipush dX11_findChord_97 (by decide) ?_
    refine J_iast (F := fun _ => 0) dX11_findChord_99 (hset_s _ _ _) ?_
    rw [hset_hset]
    refine j_dup dX11_findChord_100 rfl ?_
    refine J_iconst dX11_findChord_101 ?_
    refine J_bipush dX11_findChord_102 (by decide) ?_
    refine J_iast dX11_findChord_104 (hset_s _ _ _) ?_
    rw [hset_hset]
    refine j_dup dX11_findChord_105 rfl ?_
    refine J_iconst dX11_findChord_106 ?_
    refine J_bipush dX11_findChord_107 (by decide) ?_
    refine J_iast dX11_findChord_109 (hset_s _ _ _) ?_
    rw [hset_hset]
    refine j_dup dX11_findChord_110 rfl ?_
    refine J_iconst dX11_findChord_111 ?_
    refine J_bipush dX11_findChord_112 (by decide) ?_
    refine J_iast dX11_findChord_114 (hset_s _ _ _) ?_
    rw [hset_hset]
    refine j_astore (L' := [(4, _), (3, _), (2, _), (1, _), (0, _)]) dX11_findChord_115 rfl rfl ?_
    refine J_iconst dX11_findChord_117 ?_
    refine j_istore (L' := [(5, _), (4, _), (3, _), (2, _), (1, _), (0, _)]) dX11_findChord_118 rfl rfl ?_
    have hq43 : q4 ≠ q3 := fun z => by rw [z, hset_s] at hq4; cases hq4
    have hq4n : h2 q4 = none := by rw [hset_n hq43] at hq4; exact hq4
    have x3 := hM2.out hq3
    have x4 := hM2.out hq4n
    have n3 : h q3 = none := by rw [← hF q3 x3]; exact hq3
    have n4 : h q4 = none := by rw [← hF q4 x4]; exact hq4n
    exact j_locR (kinds q3 q4 n3 n4 4 0 p' _ (by omega) (hM2.fr (S := fun b => b = q3 ∨ b = q4) (fun b hb => by rw [hset_n (fun z => hb (Or.inr z)), hset_n (fun z => hb (Or.inl z))]) (fun b hb c => c.elim (fun z => x3 (z ▸ hb)) (fun z => x4 (z ▸ hb)))) hU (by rw [hT]; exact (ite_self _).symm) (fun b e3 e4 hb => by rw [hset_n e4, hset_n e3]; exact hF b hb) (by rw [hset_n (Ne.symm hq43), hset_s]) (hset_s _ _ _)) (by repeat' (first | exact True.intro | refine And.intro rfl ?_))
  have loop : ∀ (n kk : Nat) (p' : OS) (h2 : jH), kk + n = 4 → Mod G h2 a d mp p' → CU p p' → tr9 p' = (-1, -1, -1) → Fr (FtM a d) h h2 → J l G mX11_findChord (jQ G mX11_findChord (jW oN (fun h' => ∃ p', Mod G h' a d mp p' ∧ tr9 p' = tri (chdF P m) ∧ CU p p' ∧ Fr (FtM a d) h h'))) 2 8 21 [(3, vI (kk : Int)), (2, vI (lowN (fun k => hiM P m k) kk)), (1, vI (clsN (fun k => hiM P m k) kk : Int)), (0, .ref a)] [] h2 := by
    intro n
    induction n with
    | zero =>
      intro kk p' h2 hkk hM2 hU hT hF
      obtain rfl : kk = 4 := by omega
      rw [← hcl, ← hlo]
      refine j_iload_n 3 dX11_findChord_21 rfl rfl ?_
      refine J_iconst dX11_findChord_22 ?_
      refine J_icmp_ge 72 dX11_findChord_23 (by decide) (fun c23 => ?_) (fun c23 => absurd c23 (by omega)) 
      exact K72 p' h2 hM2 hU hT hF
    | succ n ih =>
      intro kk p' h2 hkk hM2 hU hT hF
      have hk4 : 0 ≤ (kk : Int) ∧ (kk : Int) < 4 := ⟨by omega, by omega⟩
      have hP := hM2.1
      have hh := hiM_rgI hs m kk hk4
      have hlr := low_rg (H := (fun k => hiM P m k)) (c := 200) (by omega) kk (fun j hj => (hiM_rgI hs m j ⟨by omega, by omega⟩).2)
      have hcr := clsN_lt (fun k => hiM P m k) kk
      have g := ih (kk + 1) p' h2 (by omega) hM2 hU hT hF
      rw [clsN_s, lowN_s] at g
      refine j_iload_n 3 dX11_findChord_21 rfl rfl ?_
      refine J_iconst dX11_findChord_22 ?_
      refine J_icmp_ge 72 dX11_findChord_23 (by decide) (fun c23 => absurd c23 (by omega)) (fun c23 => ?_) 
      refine j_aload_n 0 dX11_findChord_26 rfl rfl ?_
      refine j_iload_n 3 dX11_findChord_27 rfl rfl ?_
      refine J_callV1 kX11_258 cvX11_soundsNow hP.1 (c_X11_soundsNow hM2 hZ (hU.mi hI) (hU.ws hW) hk4) rfl rfl rfl rfl rfl dX11_findChord_28 rfl rfl ?_
      refine j_istore (L' := [(4, _), (3, _), (2, _), (1, _), (0, _)]) dX11_findChord_31 rfl rfl ?_
      refine j_iload dX11_findChord_33 rfl ?_
      refine J_iconst dX11_findChord_35 ?_
      refine J_icmp_ne 42 dX11_findChord_36 (by decide) (fun c36 => ?_) (fun c36 => ?_) 
      · have hneg : ¬ hiM P m kk < 0 := by omega
        rw [if_neg hneg, if_neg hneg] at g
        refine j_iload_n 1 dX11_findChord_42 rfl rfl ?_
        refine J_iconst dX11_findChord_43 ?_
        refine j_iload dX11_findChord_44 rfl ?_
        refine J_bipush dX11_findChord_46 (by decide) ?_
        refine J_irem dX11_findChord_48 ?_ 
        refine J_top (hiM P m kk % 12) ?_ (by exact Int.tmod_eq_emod_of_nonneg (by omega))
        refine J_ishl dX11_findChord_49 ?_ (by omega)
        refine J_ior dX11_findChord_50 ?_ 
        refine j_istore_n 1 (L' := [(1, _), (4, _), (3, _), (2, _), (0, _)]) dX11_findChord_51 rfl rfl rfl ?_
        refine j_iload_n 2 dX11_findChord_52 rfl rfl ?_
        refine J_iconst dX11_findChord_53 ?_
        refine J_icmp_eq 63 dX11_findChord_54 (by decide) (fun c54 => ?_) (fun c54 => ?_) 
        · refine j_iload dX11_findChord_63 rfl ?_
          refine j_istore_n 2 (L' := [(2, _), (1, _), (4, _), (3, _), (0, _)]) dX11_findChord_65 rfl rfl rfl ?_
          refine J_iinc (L' := [(3, _), (2, _), (1, _), (4, _), (0, _)]) dX11_findChord_66 rfl rfl rfl ?_
          refine j_goto 21 dX11_findChord_69 (by decide) ?_
          first
          | (rw [if_pos c54] at g; exact j_locR g (by repeat' (first | exact True.intro | refine And.intro rfl ?_)))
          | (rw [if_neg c54, Int.min_eq_right (Int.le_of_lt c60)] at g; exact j_locR g (by repeat' (first | exact True.intro | refine And.intro rfl ?_)))
          | (rw [if_neg c54, Int.min_eq_left c60] at g; exact j_locR g (by repeat' (first | exact True.intro | refine And.intro rfl ?_)))
          | exact j_locR g (by repeat' (first | exact True.intro | refine And.intro rfl ?_))
        · refine j_iload dX11_findChord_57 rfl ?_
          refine j_iload_n 2 dX11_findChord_59 rfl rfl ?_
          refine J_icmp_ge 66 dX11_findChord_60 (by decide) (fun c60 => ?_) (fun c60 => ?_) 
          · refine J_iinc (L' := [(3, _), (1, _), (4, _), (2, _), (0, _)]) dX11_findChord_66 rfl rfl rfl ?_
            refine j_goto 21 dX11_findChord_69 (by decide) ?_
            first
            | (rw [if_pos c54] at g; exact j_locR g (by repeat' (first | exact True.intro | refine And.intro rfl ?_)))
            | (rw [if_neg c54, Int.min_eq_right (Int.le_of_lt c60)] at g; exact j_locR g (by repeat' (first | exact True.intro | refine And.intro rfl ?_)))
            | (rw [if_neg c54, Int.min_eq_left c60] at g; exact j_locR g (by repeat' (first | exact True.intro | refine And.intro rfl ?_)))
            | exact j_locR g (by repeat' (first | exact True.intro | refine And.intro rfl ?_))
          · refine j_iload dX11_findChord_63 rfl ?_
            refine j_istore_n 2 (L' := [(2, _), (1, _), (4, _), (3, _), (0, _)]) dX11_findChord_65 rfl rfl rfl ?_
            refine J_iinc (L' := [(3, _), (2, _), (1, _), (4, _), (0, _)]) dX11_findChord_66 rfl rfl rfl ?_
            refine j_goto 21 dX11_findChord_69 (by decide) ?_
            first
            | (rw [if_pos c54] at g; exact j_locR g (by repeat' (first | exact True.intro | refine And.intro rfl ?_)))
            | (rw [if_neg c54, Int.min_eq_right (Int.le_of_lt c60)] at g; exact j_locR g (by repeat' (first | exact True.intro | refine And.intro rfl ?_)))
            | (rw [if_neg c54, Int.min_eq_left c60] at g; exact j_locR g (by repeat' (first | exact True.intro | refine And.intro rfl ?_)))
            | exact j_locR g (by repeat' (first | exact True.intro | refine And.intro rfl ?_))
      · have hneg : hiM P m kk < 0 := by omega
        rw [if_pos hneg, if_pos hneg] at g
        refine j_goto 66 dX11_findChord_39 (by decide) ?_
        refine J_iinc (L' := [(3, _), (4, _), (2, _), (1, _), (0, _)]) dX11_findChord_66 rfl rfl rfl ?_
        refine j_goto 21 dX11_findChord_69 (by decide) ?_
        first
        | (rw [if_pos c54] at g; exact j_locR g (by repeat' (first | exact True.intro | refine And.intro rfl ?_)))
        | (rw [if_neg c54, Int.min_eq_right (Int.le_of_lt c60)] at g; exact j_locR g (by repeat' (first | exact True.intro | refine And.intro rfl ?_)))
        | (rw [if_neg c54, Int.min_eq_left c60] at g; exact j_locR g (by repeat' (first | exact True.intro | refine And.intro rfl ?_)))
        | exact j_locR g (by repeat' (first | exact True.intro | refine And.intro rfl ?_))
  refine j_body (by decide +kernel) ⟨rfl, rfl⟩ rfl ?_
  have hP := hM.1
  have hF : Fr (FtM a d) h h := Fr.rf
  refine j_aload_n 0 dX11_findChord_0 rfl rfl ?_
  refine J_iconst dX11_findChord_1 ?_
  refine J_putA hP fX11_261 tyX11_chordRoot dX11_findChord_2 rfl rfl (fun h hP hF2 => ?_)
  have hM := hM.w hZ hP hF2
  have hF := hF.tr (hF2.mono (fun _ q => Or.inl q))
  refine j_aload_n 0 dX11_findChord_5 rfl rfl ?_
  refine J_iconst dX11_findChord_6 ?_
  refine J_putA hP fX11_264 tyX11_chordKind dX11_findChord_7 rfl rfl (fun h hP hF7 => ?_)
  have hM := hM.w hZ hP hF7
  have hF := hF.tr (hF7.mono (fun _ q => Or.inl q))
  refine j_aload_n 0 dX11_findChord_10 rfl rfl ?_
  refine J_iconst dX11_findChord_11 ?_
  refine J_putA hP fX11_267 tyX11_chordInversion dX11_findChord_12 rfl rfl (fun h hP hF12 => ?_)
  have hM := hM.w hZ hP hF12
  have hF := hF.tr (hF12.mono (fun _ q => Or.inl q))
  refine J_iconst dX11_findChord_15 ?_
  refine j_istore_n 1 (L' := [(1, _), (0, _)]) dX11_findChord_16 rfl rfl rfl ?_
  refine J_iconst dX11_findChord_17 ?_
  refine j_istore_n 2 (L' := [(2, _), (1, _), (0, _)]) dX11_findChord_18 rfl rfl rfl ?_
  refine J_iconst dX11_findChord_19 ?_
  refine j_istore_n 3 (L' := [(3, _), (2, _), (1, _), (0, _)]) dX11_findChord_20 rfl rfl rfl ?_
  exact j_locR (loop 4 0 _ _ (by omega) hM (((CU.rf.u (k := 19) (Or.inl rfl)).u (k := 20) (Or.inr (Or.inl rfl))).u (k := 21) (Or.inr (Or.inr rfl))) rfl hF) (by repeat' (first | exact True.intro | refine And.intro rfl ?_))
