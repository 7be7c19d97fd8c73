/-! the reference's writers -/
def FrN (S S' : Nat → Prop) (h h' : jH) : Prop := (∀ b, S' b → S b ∨ h b = none) ∧ ∀ b, ¬ S b → h b ≠ none → h' b = h b
/-- the reference holds the score P over p0, 'thrown' is t; what is new was free -/
def MN (G : jG) (a : Nat) (d : MD) (h : jH) (P : Nat → OS) (p0 : OS) (t : Int) : jH → Prop := fun h' => ∃ (d' : MD) (mp' : Nat → OS) (p' : OS) (Z' : Nat → Nat), Mod G h' a d' mp' p' ∧ Mz a d' Z' ∧ MI d' P p0 mp' p'.2 ∧ p'.1 0 = t ∧ FrN (FtM a d) (FtM a d') h h'
theorem evs_part {P : Nat → OS} (h : scoOK P) {k : Nat} (hk : k < 4) : (P k).1 7 ≤ evs P := by
  have a0 : 0 ≤ (P 0).1 7 ∧ (P 0).1 7 ≤ 512 := (h 0 (by omega)).1
  have a1 : 0 ≤ (P 1).1 7 ∧ (P 1).1 7 ≤ 512 := (h 1 (by omega)).1
  have a2 : 0 ≤ (P 2).1 7 ∧ (P 2).1 7 ≤ 512 := (h 2 (by omega)).1
  have a3 : 0 ≤ (P 3).1 7 ∧ (P 3).1 7 ≤ 512 := (h 3 (by omega)).1
  unfold evs
  rcases (by omega : k = 0 ∨ k = 1 ∨ k = 2 ∨ k = 3) with e | e | e | e <;> subst e <;> omega
theorem ifAnd {α : Type} {c d : Prop} [Decidable c] [Decidable d] (hc : c) (x y : α) : (if c ∧ d then x else y) = (if d then x else y) := by
  by_cases e : d
  · rw [if_pos ⟨hc, e⟩, if_pos e]
  · rw [if_neg (fun q => e q.2), if_neg e]
section MWR
variable {G : jG} {h h' : jH} {a : Nat} {d : MD} {mp P : Nat → OS} {p p' p0 : OS} {Z : Nat → Nat} {F F' : Nat → Int → Int} {t : Int}
theorem MN.same (hM : Mod G h' a d mp p) (hZ : Mz a d Z) (hI : MI d P p0 mp p.2) (ht : p.1 0 = t) (hF : Fr (FtM a d) h h') : MN G a d h P p0 t h' := ⟨d, mp, p, Z, hM, hZ, hI, ht, fun _ hb => Or.inl hb, fun b hb _ => hF b hb⟩
theorem At.keepF {o : oO} {ca : oC} {A : Nat → Bool} {h h' : jH} {a : Nat} {q : Nat → Nat} {p : OS} (hP : At o ca A h a q p) (hd : ∀ b, ft A a q b → h' b = h b) : At o ca A h' a q p :=
  hP.keep (S := fun b => h' b ≠ h b) (fun _ hb => Classical.not_not.mp hb) (fun b hb c => c (hd b hb))
theorem At.someN {o : oO} {ca : oC} {A : Nat → Bool} {h : jH} {a : Nat} {q : Nat → Nat} {p : OS} (hP : At o ca A h a q p) {b : Nat} (hb : ft A a q b) : h b ≠ none := by
  rcases hb with e | ⟨k, hk, e⟩
  · rw [e, hP.1]; exact fun z => by cases z
  · rw [e, hP.2.1 k hk]; exact fun z => by cases z
/-- a part stands over other arrays -/
theorem Mod.grow (hM : Mod G h a d mp p) (hZ : Mz a d Z) {k : Nat} (hk : k < 4) {n' : Nat} {q' : Nat → Nat} {m' : OS} (hP : AtX10 G n' h' (d.pad k) q' m') (hq : ∀ j, AX10 j = true → q' j = d.pq k j ∨ h (q' j) = none) (hf : ∀ b, ¬ ft AX10 (d.pad k) (d.pq k) b → h b ≠ none → h' b = h b) : ∃ Z', Mod G h' a (d.q, d.pad, upN d.pq k q', upN d.n k n') (upN mp k m') p ∧ Mz a (d.q, d.pad, upN d.pq k q', upN d.n k n') Z' ∧ FrN (FtM a d) (FtM a (d.q, d.pad, upN d.pq k q', upN d.n k n')) h h' := by
  have hN : ∀ b, ft AX10 (d.pad k) q' b → ft AX10 (d.pad k) (d.pq k) b ∨ h b = none := fun b hb => by
    rcases hb with e | ⟨j, hj, e⟩
    · exact Or.inl (Or.inl e)
    · rcases hq j hj with g | g
      · exact Or.inl (Or.inr ⟨j, hj, e.trans g⟩)
      · exact Or.inr (by rw [e]; exact g)
  obtain ⟨h1, ⟨F, h2, h3⟩, h4⟩ := hM
  have s11 : ∀ b, ft AX11 a d.q b → ¬ ft AX10 (d.pad k) (d.pq k) b := fun b hb c => by
    have := hZ.1 b hb
    have := hZ.2.2 k hk b c
    omega
  have s1 : ¬ ft AX10 (d.pad k) (d.pq k) (d.q 1) := fun c => by
    have := hZ.2.1
    have := hZ.2.2 k hk _ c
    omega
  have sj : ∀ j : Nat, j < 4 → j ≠ k → ∀ b, ft AX10 (d.pad j) (d.pq j) b → ¬ ft AX10 (d.pad k) (d.pq k) b := fun j hj e b hb c => by
    have := hZ.2.2 j hj b hb
    have := hZ.2.2 k hk b c
    omega
  have n1 : h (d.q 1) ≠ none := fun z => by rw [h2] at z; cases z
  refine ⟨fun b => @ite Nat (ft AX10 (d.pad k) q' b) (Classical.propDecidable _) (40 + k) (Z b), ⟨h1.keepF (fun b hb => hf b (s11 b hb) (h1.someN hb)), ⟨F, (hf _ s1 n1).trans h2, h3⟩, fun j hj => ?_⟩, ⟨fun b hb => ?_, ?_, fun j hj b hb => ?_⟩, fun b hb => ?_, fun b hb hn => hf b (fun c => hb (Or.inr (Or.inr ⟨k, hk, c⟩))) hn⟩
  · show AtX10 G (upN d.n k n' j) h' (d.pad j) (upN d.pq k q' j) (upN mp k m' j)
    by_cases e : j = k
    · subst e
      rw [upN_s, upN_s, upN_s]
      exact hP
    · rw [upN_n e, upN_n e, upN_n e]
      exact (h4 j hj).keepF (fun b hb => hf b (sj j hj e b hb) ((h4 j hj).someN hb))
  · have c : ¬ ft AX10 (d.pad k) q' b := fun c => by
      rcases hN b c with g | g
      · exact s11 b hb g
      · exact h1.someN hb g
    exact (@if_neg _ (Classical.propDecidable _) c _ _ _).trans (hZ.1 b hb)
  · have c : ¬ ft AX10 (d.pad k) q' (d.q 1) := fun c => by
      rcases hN _ c with g | g
      · exact s1 g
      · exact n1 g
    exact (@if_neg _ (Classical.propDecidable _) c _ _ _).trans hZ.2.1
  · replace hb : ft AX10 (d.pad j) (upN d.pq k q' j) b := hb
    by_cases e : j = k
    · subst e
      rw [upN_s] at hb
      exact @if_pos _ (Classical.propDecidable _) hb _ _ _
    · rw [upN_n e] at hb
      have c : ¬ ft AX10 (d.pad k) q' b := fun c => by
        rcases hN b c with g | g
        · exact sj j hj e b hb g
        · exact (h4 j hj).someN hb g
      exact (@if_neg _ (Classical.propDecidable _) c _ _ _).trans (hZ.2.2 j hj b hb)
  · rcases hb with g | g | ⟨j, hj, g⟩
    · exact Or.inl (Or.inl g)
    · exact Or.inl (Or.inr (Or.inl g))
    · replace g : ft AX10 (d.pad j) (upN d.pq k q' j) b := g
      by_cases e : j = k
      · subst e
        rw [upN_s] at g
        rcases hN b g with c | c
        · exact Or.inl (Or.inr (Or.inr ⟨j, hj, c⟩))
        · exact Or.inr c
      · rw [upN_n e] at g
        exact Or.inl (Or.inr (Or.inr ⟨j, hj, g⟩))
theorem MI.grow (hI : MI d P p0 mp F) {k : Nat} {n' : Nat} {q' : Nat → Nat} {m' pk : OS} (hm : mpOK n' m' pk) (hp : partOK pk) (hev : evs (upN P k pk) ≤ 512) : MI (d.q, d.pad, upN d.pq k q', upN d.n k n') (upN P k pk) p0 (upN mp k m') F := by
  refine ⟨⟨hI.1.1.up hp, hev, hI.1.2.2⟩, fun j hj => ?_, hI.2.2⟩
  show mpOK (upN d.n k n' j) (upN mp k m' j) (upN P k pk j)
  by_cases e : j = k
  · subst e
    rw [upN_s, upN_s, upN_s]
    exact hm
  · rw [upN_n e, upN_n e, upN_n e]
    exact hI.2.1 j hj
theorem MI.upk (hI : MI d P p0 mp F) {k : Nat} {m' pk : OS} (hm : mpOK (d.n k) m' pk) (hp : partOK pk) (hev : evs (upN P k pk) ≤ 512) : MI d (upN P k pk) p0 (upN mp k m') F := by
  refine ⟨⟨hI.1.1.up hp, hev, hI.1.2.2⟩, fun j hj => ?_, hI.2.2⟩
  by_cases e : j = k
  · subst e
    rw [upN_s, upN_s]
    exact hm
  · rw [upN_n e, upN_n e]
    exact hI.2.1 j hj
end MWR
set_option maxRecDepth 100000 in
theorem c_X11_add {l : Launch} {G : jG} {h : jH} {a : Nat} {d : MD} {mp P : Nat → OS} {p p0 : OS} {Z : Nat → Nat} {k pl al v : Int} (hM : Mod G h a d mp p) (hZ : Mz a d Z) (hI : MI d P p0 mp p.2) (hk : 0 ≤ k ∧ k < 4) (hpl : 0 ≤ pl ∧ pl ≤ 62) (hal : -2 ≤ al ∧ al ≤ 2) (h3 : pl = 0 → al = 0) (hv : isVal v) (hev : evs P < 512) (h0 : p.1 0 = 0) : jC l G yX11_add mX11_add [.ref a, vI k, vI pl, vI al, vI v] h (jW (oI (if evs P < 512 ∧ (P k.toNat).1 8 + v ≤ p0.1 4 then (P k.toNat).1 7 else 0)) (MN G a d h (if evs P < 512 ∧ (P k.toNat).1 8 + v ≤ p0.1 4 then upN P k.toNat (appP (P k.toNat) pl al v) else P) p0 (if evs P < 512 ∧ (P k.toNat).1 8 + v ≤ p0.1 4 then 0 else 3))) := by
  refine j_body (by decide +kernel) ⟨rfl, rfl⟩ rfl ?_
  have hP := hM.1
  have hF : Fr (FtM a d) h h := Fr.rf
  obtain ⟨Fa, hpa, hFa⟩ := hM.2.1
  have hv2 := isVal_rg hv
  have hcal := hI.1.2.2.1.2.1
  have hz8 : 0 ≤ (P k.toNat).1 8 ∧ (P k.toNat).1 8 ≤ 20000 := (hI.1.1 k.toNat (by omega)).2.2.1.1
  have he7 := evs_part hI.1.1 (k := k.toNat) (by omega)
  have hPk := hM.2.2 k.toNat (by omega)
  have hmk := hI.2.1 k.toNat (by omega)
  have hpk := hI.1.1 k.toNat (by omega)
  have hnk : 0 ≤ (P k.toNat).1 7 ∧ (P k.toNat).1 7 ≤ 512 := hpk.1
  refine j_aload_n 0 dX11_add_0 rfl rfl ?_
  refine j_get fX11_24 dX11_add_1 hP.1 rfl ?_
  refine j_iload_n 1 dX11_add_4 rfl rfl ?_
  refine J_qaldM dX11_add_5 hpa (hFa _ (by omega)) ?_ 
  refine J_callV1 kX11_109 cvX10_end hPk.1 (c_X10_end hPk hmk hpk) rfl rfl rfl rfl rfl dX11_add_6 rfl rfl ?_
  refine j_iload dX11_add_9 rfl ?_
  refine J_iadd dX11_add_11 ?_
  refine j_aload_n 0 dX11_add_12 rfl rfl ?_
  refine J_bipush dX11_add_13 (by decide) ?_
  refine J_callV1 kX11_112 cvX11_begin hP.1 (c_X11_begin hM hZ hI (b := 24) (by decide)) rfl rfl rfl rfl rfl dX11_add_15 rfl rfl ?_
  refine J_top (p0.1 4) ?_ (by exact hI.1.2.2.2.1.symm)
  refine J_icmp_le 27 dX11_add_18 (by decide) (fun c18 => ?_) (fun c18 => ?_) 
  · refine j_aload_n 0 dX11_add_27 rfl rfl ?_
    refine j_get fX11_24 dX11_add_28 hP.1 rfl ?_
    refine j_iload_n 1 dX11_add_31 rfl rfl ?_
    refine J_qaldM dX11_add_32 hpa (hFa _ (by omega)) ?_ 
    refine j_iload_n 2 dX11_add_33 rfl rfl ?_
    refine j_iload_n 3 dX11_add_34 rfl rfl ?_
    refine j_iload dX11_add_35 rfl ?_
    refine j_callV (ck' := 0) (sk' := 0) kX11_118 cvX10_add hPk.1 (c_X10_add hPk hmk hpk (by omega)) rfl rfl rfl rfl rfl dX11_add_37 (by decide) (by decide) (fun v9 h9 hp => ?_) (fun E h' hp => by cases hp.1)
    obtain ⟨ev9, n9, q9, m9, hP9, hm9, hq9, hf9⟩ := hp
    cases ev9
    obtain ⟨Z9, hM, hZ, hF9⟩ := hM.grow hZ (k := k.toNat) (by omega) hP9 hq9 hf9
    have hap : partOK (appP (P k.toNat) pl al v) := hpk.app (by omega) (by omega) hpl hal h3 hv
    have he2 := evs_up P (k := k.toNat) (by omega) (appP (P k.toNat) pl al v)
    have h7 := (app_f (P k.toNat) pl al v).1
    have hI := hI.grow (k := k.toNat) (q' := q9) hm9 hap (by omega)
    obtain ⟨Fa, hpa, hFa⟩ := hM.2.1
    have hPk := hM.2.2 k.toNat (by omega)
    have hP := hM.1
    refine j_aload_n 0 dX11_add_40 rfl rfl ?_
    refine j_get fX11_24 dX11_add_41 hP.1 rfl ?_
    refine j_iload_n 1 dX11_add_44 rfl rfl ?_
    refine J_qaldM dX11_add_45 hpa (hFa _ (by omega)) ?_ 
    refine j_getN fX11_99 dX11_add_46 hPk.1 rfl ?_
    refine J_top ((P k.toNat).1 7 + 1) ?_ (by rw [upN_s, hm9.1.1, h7])
    refine J_iconst dX11_add_49 ?_
    refine J_isub dX11_add_50 ?_
    refine j_iret rfl dX11_add_51 ?_
    have c3 : evs P < 512 ∧ (P k.toNat).1 8 + v ≤ p0.1 4 := ⟨hev, by omega⟩
    refine ⟨?_, ?_⟩
    · rw [if_pos c3]
      exact oIe (by omega)
    · rw [if_pos c3, if_pos c3]
      exact ⟨_, _, _, Z9, hM, hZ, hI, h0, hF9⟩
  · refine j_aload_n 0 dX11_add_21 rfl rfl ?_
    refine J_iconst dX11_add_22 ?_
    refine J_callVW1 kX11_115 cvX11_refuse hP.1 (c_X11_refuse hM hZ hI) rfl rfl rfl rfl rfl dX11_add_23 rfl rfl (fun h hp => ?_)
    obtain ⟨hM, hF9⟩ := hp
    have hF := hF.tr hF9
    refine j_iret rfl dX11_add_26 ?_
    exact ⟨by rw [if_neg (fun q => absurd q.2 (by omega))], by rw [if_neg (fun q => absurd q.2 (by omega)), if_neg (fun q => absurd q.2 (by omega))]; exact MN.same hM hZ hI rfl hF⟩
set_option maxRecDepth 100000 in
theorem c_X11_addNote {l : Launch} {G : jG} {h : jH} {a : Nat} {d : MD} {mp P : Nat → OS} {p p0 : OS} {Z : Nat → Nat} {k pl al v : Int} (hM : Mod G h a d mp p) (hZ : Mz a d Z) (hI : MI d P p0 mp p.2) (hk : rg k) (hpl : rg pl) (hal : rg al) (hv : rg v) (hev : evs P < 512) : jC l G yX11_addNote mX11_addNote [.ref a, vI k, vI pl, vI al, vI v] h (jW (oI (if 0 ≤ k ∧ k < 4 then (if isPit pl al ∧ isVal v then (if evs P < 512 ∧ (P k.toNat).1 8 + v ≤ p0.1 4 then (P k.toNat).1 7 else 0) else 0) else 0)) (MN G a d h (if ((0 ≤ k ∧ k < 4) ∧ isPit pl al ∧ isVal v) ∧ evs P < 512 ∧ (P k.toNat).1 8 + v ≤ p0.1 4 then upN P k.toNat (appP (P k.toNat) pl al v) else P) p0 (if 0 ≤ k ∧ k < 4 then (if isPit pl al ∧ isVal v then (if evs P < 512 ∧ (P k.toNat).1 8 + v ≤ p0.1 4 then 0 else 3) else 2) else 1))) := by
  refine j_body (by decide +kernel) ⟨rfl, rfl⟩ rfl ?_
  have hP := hM.1
  have hF : Fr (FtM a d) h h := Fr.rf
  obtain ⟨Fa, hpa, hFa⟩ := hM.2.1
  refine j_aload_n 0 dX11_addNote_0 rfl rfl ?_
  refine J_iconst dX11_addNote_1 ?_
  refine J_putA hP fX11_87 tyX11_thrown dX11_addNote_2 rfl rfl (fun h hP hF2 => ?_)
  have hM := hM.w hZ hP hF2
  have hF := hF.tr (hF2.mono (fun _ q => Or.inl q))
  obtain ⟨Fa, hpa, hFa⟩ := hM.2.1
  refine j_iload_n 1 dX11_addNote_5 rfl rfl ?_
  refine J_callSZ kX11_95 csX11_isPart (c_X11_isPart hk) rfl rfl rfl rfl rfl dX11_addNote_6 rfl rfl (fun z6 => ?_) (fun z6 => ?_)
  · refine J_if_ne 18 dX11_addNote_9 (by decide) (fun c9 => ?_) (fun c9 => absurd c9 (by decide)) 
    refine j_iload_n 2 dX11_addNote_18 rfl rfl ?_
    refine j_iload_n 3 dX11_addNote_19 rfl rfl ?_
    refine J_callSZ kX11_122 csX11_isPitch (c_X11_isPitch hpl hal) rfl rfl rfl rfl rfl dX11_addNote_20 rfl rfl (fun z20 => ?_) (fun z20 => ?_)
    · refine J_if_eq 46 dX11_addNote_23 (by decide) (fun c23 => absurd c23 (by decide)) (fun c23 => ?_) 
      refine j_iload dX11_addNote_26 rfl ?_
      refine J_callSZ kX11_126 csX11_isValue (c_X11_isValue hv) rfl rfl rfl rfl rfl dX11_addNote_28 rfl rfl (fun z28 => ?_) (fun z28 => ?_)
      · refine J_if_eq 46 dX11_addNote_31 (by decide) (fun c31 => absurd c31 (by decide)) (fun c31 => ?_) 
        refine j_aload_n 0 dX11_addNote_34 rfl rfl ?_
        refine j_iload_n 1 dX11_addNote_35 rfl rfl ?_
        refine j_iload_n 2 dX11_addNote_36 rfl rfl ?_
        refine j_iload_n 3 dX11_addNote_37 rfl rfl ?_
        refine j_iload dX11_addNote_38 rfl ?_
        have c2 : isPit pl al ∧ isVal v := ⟨z20, z28⟩
        refine j_callV (ck' := 0) (sk' := 0) kX11_129 cvX11_add hP.1 (c_X11_add hM hZ hI z6 ⟨by omega, by omega⟩ ⟨by omega, by omega⟩ (fun z => by omega) c2.2 hev rfl) rfl rfl rfl rfl rfl dX11_addNote_40 (by decide) (by decide) (fun v9 h9 hp => ?_) (fun E h' hp => by cases hp.1)
        obtain ⟨ev9, d9, mp9, p9, Z9, hM9, hZ9, hI9, ht9, hF9⟩ := hp
        cases ev9
        refine j_goto 51 dX11_addNote_43 (by decide) ?_
        refine j_iret rfl dX11_addNote_51 ?_
        refine ⟨by rw [if_pos z6, if_pos c2], ?_⟩
        rw [ifAnd ⟨z6, c2⟩, if_pos z6, if_pos c2]
        exact ⟨d9, mp9, p9, Z9, hM9, hZ9, hI9, ht9, fun b hb => by
          rcases hF9.1 b hb with c | c
          · exact Or.inl c
          · by_cases g : FtM a d b
            · exact Or.inl g
            · exact Or.inr ((hF b g).symm.trans c), fun b hb hn => (hF9.2 b hb (by rw [hF b hb]; exact hn)).trans (hF b hb)⟩
      · refine J_if_eq 46 dX11_addNote_31 (by decide) (fun c31 => ?_) (fun c31 => absurd c31 (by decide)) 
        refine j_aload_n 0 dX11_addNote_46 rfl rfl ?_
        refine J_iconst dX11_addNote_47 ?_
        refine J_callVW1 kX11_115 cvX11_refuse hP.1 (c_X11_refuse hM hZ hI) rfl rfl rfl rfl rfl dX11_addNote_48 rfl rfl (fun h hp => ?_)
        obtain ⟨hM, hF9⟩ := hp
        have hF := hF.tr hF9
        refine j_iret rfl dX11_addNote_51 ?_
        have n2 : ¬ (isPit pl al ∧ isVal v) := fun q => z28 q.2
        exact ⟨by rw [if_pos z6, if_neg n2], by rw [if_neg (fun q => n2 q.1.2), if_pos z6, if_neg n2]; exact MN.same hM hZ hI rfl hF⟩
    · refine J_if_eq 46 dX11_addNote_23 (by decide) (fun c23 => ?_) (fun c23 => absurd c23 (by decide)) 
      refine j_aload_n 0 dX11_addNote_46 rfl rfl ?_
      refine J_iconst dX11_addNote_47 ?_
      refine J_callVW1 kX11_115 cvX11_refuse hP.1 (c_X11_refuse hM hZ hI) rfl rfl rfl rfl rfl dX11_addNote_48 rfl rfl (fun h hp => ?_)
      obtain ⟨hM, hF9⟩ := hp
      have hF := hF.tr hF9
      refine j_iret rfl dX11_addNote_51 ?_
      have n2 : ¬ (isPit pl al ∧ isVal v) := fun q => z20 q.1
      exact ⟨by rw [if_pos z6, if_neg n2], by rw [if_neg (fun q => n2 q.1.2), if_pos z6, if_neg n2]; exact MN.same hM hZ hI rfl hF⟩
  · refine J_if_ne 18 dX11_addNote_9 (by decide) (fun c9 => absurd c9 (by decide)) (fun c9 => ?_) 
    refine j_aload_n 0 dX11_addNote_12 rfl rfl ?_
    refine J_iconst dX11_addNote_13 ?_
    refine J_callVW1 kX11_115 cvX11_refuse hP.1 (c_X11_refuse hM hZ hI) rfl rfl rfl rfl rfl dX11_addNote_14 rfl rfl (fun h hp => ?_)
    obtain ⟨hM, hF9⟩ := hp
    have hF := hF.tr hF9
    refine j_iret rfl dX11_addNote_17 ?_
    exact ⟨by rw [if_neg z6], by rw [if_neg (fun q => z6 q.1.1), if_neg z6]; exact MN.same hM hZ hI rfl hF⟩
set_option maxRecDepth 100000 in
theorem c_X11_addRest {l : Launch} {G : jG} {h : jH} {a : Nat} {d : MD} {mp P : Nat → OS} {p p0 : OS} {Z : Nat → Nat} {k v : Int} (hM : Mod G h a d mp p) (hZ : Mz a d Z) (hI : MI d P p0 mp p.2) (hk : rg k) (hv : rg v) (hev : evs P < 512) : jC l G yX11_addRest mX11_addRest [.ref a, vI k, vI v] h (jW (oI (if 0 ≤ k ∧ k < 4 then (if isVal v then (if evs P < 512 ∧ (P k.toNat).1 8 + v ≤ p0.1 4 then (P k.toNat).1 7 else 0) else 0) else 0)) (MN G a d h (if ((0 ≤ k ∧ k < 4) ∧ isVal v) ∧ evs P < 512 ∧ (P k.toNat).1 8 + v ≤ p0.1 4 then upN P k.toNat (appP (P k.toNat) 0 0 v) else P) p0 (if 0 ≤ k ∧ k < 4 then (if isVal v then (if evs P < 512 ∧ (P k.toNat).1 8 + v ≤ p0.1 4 then 0 else 3) else 2) else 1))) := by
  refine j_body (by decide +kernel) ⟨rfl, rfl⟩ rfl ?_
  have hP := hM.1
  have hF : Fr (FtM a d) h h := Fr.rf
  obtain ⟨Fa, hpa, hFa⟩ := hM.2.1
  refine j_aload_n 0 dX11_addRest_0 rfl rfl ?_
  refine J_iconst dX11_addRest_1 ?_
  refine J_putA hP fX11_87 tyX11_thrown dX11_addRest_2 rfl rfl (fun h hP hF2 => ?_)
  have hM := hM.w hZ hP hF2
  have hF := hF.tr (hF2.mono (fun _ q => Or.inl q))
  obtain ⟨Fa, hpa, hFa⟩ := hM.2.1
  refine j_iload_n 1 dX11_addRest_5 rfl rfl ?_
  refine J_callSZ kX11_95 csX11_isPart (c_X11_isPart hk) rfl rfl rfl rfl rfl dX11_addRest_6 rfl rfl (fun z6 => ?_) (fun z6 => ?_)
  · refine J_if_ne 18 dX11_addRest_9 (by decide) (fun c9 => ?_) (fun c9 => absurd c9 (by decide)) 
    refine j_iload_n 2 dX11_addRest_18 rfl rfl ?_
    refine J_callSZ kX11_126 csX11_isValue (c_X11_isValue hv) rfl rfl rfl rfl rfl dX11_addRest_19 rfl rfl (fun z19 => ?_) (fun z19 => ?_)
    · refine J_if_eq 36 dX11_addRest_22 (by decide) (fun c22 => absurd c22 (by decide)) (fun c22 => ?_) 
      refine j_aload_n 0 dX11_addRest_25 rfl rfl ?_
      refine j_iload_n 1 dX11_addRest_26 rfl rfl ?_
      refine J_iconst dX11_addRest_27 ?_
      refine J_iconst dX11_addRest_28 ?_
      refine j_iload_n 2 dX11_addRest_29 rfl rfl ?_
      have c2 : isVal v := z19
      refine j_callV (ck' := 0) (sk' := 0) kX11_129 cvX11_add hP.1 (c_X11_add hM hZ hI z6 (by decide) (by decide) (fun _ => rfl) c2 hev rfl) rfl rfl rfl rfl rfl dX11_addRest_30 (by decide) (by decide) (fun v9 h9 hp => ?_) (fun E h' hp => by cases hp.1)
      obtain ⟨ev9, d9, mp9, p9, Z9, hM9, hZ9, hI9, ht9, hF9⟩ := hp
      cases ev9
      refine j_goto 41 dX11_addRest_33 (by decide) ?_
      refine j_iret rfl dX11_addRest_41 ?_
      refine ⟨by rw [if_pos z6, if_pos c2], ?_⟩
      rw [ifAnd ⟨z6, c2⟩, if_pos z6, if_pos c2]
      exact ⟨d9, mp9, p9, Z9, hM9, hZ9, hI9, ht9, fun b hb => by
        rcases hF9.1 b hb with c | c
        · exact Or.inl c
        · by_cases g : FtM a d b
          · exact Or.inl g
          · exact Or.inr ((hF b g).symm.trans c), fun b hb hn => (hF9.2 b hb (by rw [hF b hb]; exact hn)).trans (hF b hb)⟩
    · refine J_if_eq 36 dX11_addRest_22 (by decide) (fun c22 => ?_) (fun c22 => absurd c22 (by decide)) 
      refine j_aload_n 0 dX11_addRest_36 rfl rfl ?_
      refine J_iconst dX11_addRest_37 ?_
      refine J_callVW1 kX11_115 cvX11_refuse hP.1 (c_X11_refuse hM hZ hI) rfl rfl rfl rfl rfl dX11_addRest_38 rfl rfl (fun h hp => ?_)
      obtain ⟨hM, hF9⟩ := hp
      have hF := hF.tr hF9
      refine j_iret rfl dX11_addRest_41 ?_
      have n2 : ¬ (isVal v) := z19
      exact ⟨by rw [if_pos z6, if_neg n2], by rw [if_neg (fun q => n2 q.1.2), if_pos z6, if_neg n2]; exact MN.same hM hZ hI rfl hF⟩
  · refine J_if_ne 18 dX11_addRest_9 (by decide) (fun c9 => absurd c9 (by decide)) (fun c9 => ?_) 
    refine j_aload_n 0 dX11_addRest_12 rfl rfl ?_
    refine J_iconst dX11_addRest_13 ?_
    refine J_callVW1 kX11_115 cvX11_refuse hP.1 (c_X11_refuse hM hZ hI) rfl rfl rfl rfl rfl dX11_addRest_14 rfl rfl (fun h hp => ?_)
    obtain ⟨hM, hF9⟩ := hp
    have hF := hF.tr hF9
    refine j_iret rfl dX11_addRest_17 ?_
    exact ⟨by rw [if_neg z6], by rw [if_neg (fun q => z6 q.1.1), if_neg z6]; exact MN.same hM hZ hI rfl hF⟩
