/-! the desk: its parts' addresses; its state -/
abbrev DA : Type := Nat × (Nat → Nat) × (Nat → Nat → Nat) × (Nat → Nat) × (Nat → Nat → Nat)
abbrev DS : Type := (Nat → OS) × (Nat → OS) × (Nat → Int)
abbrev DA.pa (d : DA) : Nat := d.1
abbrev DA.pad (d : DA) : Nat → Nat := d.2.1
abbrev DA.pq (d : DA) : Nat → Nat → Nat := d.2.2.1
abbrev DA.oa (d : DA) : Nat → Nat := d.2.2.2.1
abbrev DA.oq (d : DA) : Nat → Nat → Nat := d.2.2.2.2
abbrev deskV (d : DA) (f : Nat → Int) : List Value := [.ref d.pa, .ref (d.oa 0), .ref (d.oa 5), .ref (d.oa 3), .ref (d.oa 1), .ref (d.oa 2), .ref (d.oa 4), vI (f 7), vI (f 8), vI (f 9), vI (f 10), vI (f 11)]
def Desk (G : jG) (h : jH) (a : Nat) (d : DA) (s : DS) : Prop := h a = some (.inr (7, deskV d s.2.2)) ∧ PartsAt G h d.pa d.pad d.pq s.1 ∧ AtX0 G h (d.oa 0) (d.oq 0) (s.2.1 0) ∧ AtX1 G h (d.oa 1) (d.oq 1) (s.2.1 1) ∧ AtX2 G h (d.oa 2) (d.oq 2) (s.2.1 2) ∧ AtX3 G h (d.oa 3) (d.oq 3) (s.2.1 3) ∧ AtX4 G h (d.oa 4) (d.oq 4) (s.2.1 4) ∧ AtX5 G h (d.oa 5) (d.oq 5) (s.2.1 5)
/-- every part lies in a zone of its own -/
def Dz (a : Nat) (d : DA) (Z : Nat → Nat) : Prop := Z a = 30 ∧ Z d.pa = 20 ∧ (∀ k : Nat, k < 4 → ∀ b, ft AX6 (d.pad k) (d.pq k) b → Z b = 10 + k) ∧ (∀ b, ft AX0 (d.oa 0) (d.oq 0) b → Z b = 0) ∧ (∀ b, ft AX1 (d.oa 1) (d.oq 1) b → Z b = 1) ∧ (∀ b, ft AX2 (d.oa 2) (d.oq 2) b → Z b = 2) ∧ (∀ b, ft AX3 (d.oa 3) (d.oq 3) b → Z b = 3) ∧ (∀ b, ft AX4 (d.oa 4) (d.oq 4) b → Z b = 4) ∧ (∀ b, ft AX5 (d.oa 5) (d.oq 5) b → Z b = 5)
def FtD (a : Nat) (d : DA) : Nat → Prop := fun b => b = a ∨ ftP d.pa d.pad d.pq b ∨ ft AX0 (d.oa 0) (d.oq 0) b ∨ ft AX1 (d.oa 1) (d.oq 1) b ∨ ft AX2 (d.oa 2) (d.oq 2) b ∨ ft AX3 (d.oa 3) (d.oq 3) b ∨ ft AX4 (d.oa 4) (d.oq 4) b ∨ ft AX5 (d.oa 5) (d.oq 5) b
def upN {α : Type} (F : Nat → α) (k : Nat) (x : α) : Nat → α := fun j => if j = k then x else F j
theorem upN_s {α : Type} (F : Nat → α) (k : Nat) (x : α) : upN F k x k = x := by simp [upN]
theorem upN_n {α : Type} {F : Nat → α} {k j : Nat} {x : α} (h : j ≠ k) : upN F k x j = F j := by simp [upN, h]
section DW
variable {G : jG} {h h' : jH} {a : Nat} {d : DA} {s : DS} {Z : Nat → Nat}
theorem Dz.pZ (z : Dz a d Z) (b : Nat) (hb : ftP d.pa d.pad d.pq b) : 10 ≤ Z b ∧ Z b ≤ 20 := by
  rcases hb with hb | ⟨k, hk, hb⟩
  · rw [hb, z.2.1]; omega
  · rw [z.2.2.1 k hk b hb]; omega
theorem Dz.p0 (z : Dz a d Z) : ∀ b, ftP d.pa d.pad d.pq b → ¬ ft AX0 (d.oa 0) (d.oq 0) b := fun b hb hc => by
  have := z.pZ b hb
  rw [z.2.2.2.1 b hc] at this
  omega
theorem Dz.k0 (z : Dz a d Z) (k : Nat) (hk : k < 4) : ∀ b, ft AX6 (d.pad k) (d.pq k) b → ¬ ft AX0 (d.oa 0) (d.oq 0) b := fun b hb hc => z.p0 b (Or.inr ⟨k, hk, hb⟩) hc
theorem Dz.a0 (z : Dz a d Z) : ¬ ft AX0 (d.oa 0) (d.oq 0) a := fun hc => by
  have := z.1
  rw [z.2.2.2.1 a hc] at this
  omega
theorem Dz.d10 (z : Dz a d Z) : ∀ b, ft AX1 (d.oa 1) (d.oq 1) b → ¬ ft AX0 (d.oa 0) (d.oq 0) b := fun b hb hc => by
  have e1 := z.2.2.2.2.1 b hb
  rw [z.2.2.2.1 b hc] at e1
  omega
theorem Dz.d20 (z : Dz a d Z) : ∀ b, ft AX2 (d.oa 2) (d.oq 2) b → ¬ ft AX0 (d.oa 0) (d.oq 0) b := fun b hb hc => by
  have e1 := z.2.2.2.2.2.1 b hb
  rw [z.2.2.2.1 b hc] at e1
  omega
theorem Dz.d30 (z : Dz a d Z) : ∀ b, ft AX3 (d.oa 3) (d.oq 3) b → ¬ ft AX0 (d.oa 0) (d.oq 0) b := fun b hb hc => by
  have e1 := z.2.2.2.2.2.2.1 b hb
  rw [z.2.2.2.1 b hc] at e1
  omega
theorem Dz.d40 (z : Dz a d Z) : ∀ b, ft AX4 (d.oa 4) (d.oq 4) b → ¬ ft AX0 (d.oa 0) (d.oq 0) b := fun b hb hc => by
  have e1 := z.2.2.2.2.2.2.2.1 b hb
  rw [z.2.2.2.1 b hc] at e1
  omega
theorem Dz.d50 (z : Dz a d Z) : ∀ b, ft AX5 (d.oa 5) (d.oq 5) b → ¬ ft AX0 (d.oa 0) (d.oq 0) b := fun b hb hc => by
  have e1 := z.2.2.2.2.2.2.2.2 b hb
  rw [z.2.2.2.1 b hc] at e1
  omega
theorem Dz.p1 (z : Dz a d Z) : ∀ b, ftP d.pa d.pad d.pq b → ¬ ft AX1 (d.oa 1) (d.oq 1) b := fun b hb hc => by
  have := z.pZ b hb
  rw [z.2.2.2.2.1 b hc] at this
  omega
theorem Dz.k1 (z : Dz a d Z) (k : Nat) (hk : k < 4) : ∀ b, ft AX6 (d.pad k) (d.pq k) b → ¬ ft AX1 (d.oa 1) (d.oq 1) b := fun b hb hc => z.p1 b (Or.inr ⟨k, hk, hb⟩) hc
theorem Dz.a1 (z : Dz a d Z) : ¬ ft AX1 (d.oa 1) (d.oq 1) a := fun hc => by
  have := z.1
  rw [z.2.2.2.2.1 a hc] at this
  omega
theorem Dz.d01 (z : Dz a d Z) : ∀ b, ft AX0 (d.oa 0) (d.oq 0) b → ¬ ft AX1 (d.oa 1) (d.oq 1) b := fun b hb hc => by
  have e1 := z.2.2.2.1 b hb
  rw [z.2.2.2.2.1 b hc] at e1
  omega
theorem Dz.d21 (z : Dz a d Z) : ∀ b, ft AX2 (d.oa 2) (d.oq 2) b → ¬ ft AX1 (d.oa 1) (d.oq 1) b := fun b hb hc => by
  have e1 := z.2.2.2.2.2.1 b hb
  rw [z.2.2.2.2.1 b hc] at e1
  omega
theorem Dz.d31 (z : Dz a d Z) : ∀ b, ft AX3 (d.oa 3) (d.oq 3) b → ¬ ft AX1 (d.oa 1) (d.oq 1) b := fun b hb hc => by
  have e1 := z.2.2.2.2.2.2.1 b hb
  rw [z.2.2.2.2.1 b hc] at e1
  omega
theorem Dz.d41 (z : Dz a d Z) : ∀ b, ft AX4 (d.oa 4) (d.oq 4) b → ¬ ft AX1 (d.oa 1) (d.oq 1) b := fun b hb hc => by
  have e1 := z.2.2.2.2.2.2.2.1 b hb
  rw [z.2.2.2.2.1 b hc] at e1
  omega
theorem Dz.d51 (z : Dz a d Z) : ∀ b, ft AX5 (d.oa 5) (d.oq 5) b → ¬ ft AX1 (d.oa 1) (d.oq 1) b := fun b hb hc => by
  have e1 := z.2.2.2.2.2.2.2.2 b hb
  rw [z.2.2.2.2.1 b hc] at e1
  omega
theorem Dz.p2 (z : Dz a d Z) : ∀ b, ftP d.pa d.pad d.pq b → ¬ ft AX2 (d.oa 2) (d.oq 2) b := fun b hb hc => by
  have := z.pZ b hb
  rw [z.2.2.2.2.2.1 b hc] at this
  omega
theorem Dz.k2 (z : Dz a d Z) (k : Nat) (hk : k < 4) : ∀ b, ft AX6 (d.pad k) (d.pq k) b → ¬ ft AX2 (d.oa 2) (d.oq 2) b := fun b hb hc => z.p2 b (Or.inr ⟨k, hk, hb⟩) hc
theorem Dz.a2 (z : Dz a d Z) : ¬ ft AX2 (d.oa 2) (d.oq 2) a := fun hc => by
  have := z.1
  rw [z.2.2.2.2.2.1 a hc] at this
  omega
theorem Dz.d02 (z : Dz a d Z) : ∀ b, ft AX0 (d.oa 0) (d.oq 0) b → ¬ ft AX2 (d.oa 2) (d.oq 2) b := fun b hb hc => by
  have e1 := z.2.2.2.1 b hb
  rw [z.2.2.2.2.2.1 b hc] at e1
  omega
theorem Dz.d12 (z : Dz a d Z) : ∀ b, ft AX1 (d.oa 1) (d.oq 1) b → ¬ ft AX2 (d.oa 2) (d.oq 2) b := fun b hb hc => by
  have e1 := z.2.2.2.2.1 b hb
  rw [z.2.2.2.2.2.1 b hc] at e1
  omega
theorem Dz.d32 (z : Dz a d Z) : ∀ b, ft AX3 (d.oa 3) (d.oq 3) b → ¬ ft AX2 (d.oa 2) (d.oq 2) b := fun b hb hc => by
  have e1 := z.2.2.2.2.2.2.1 b hb
  rw [z.2.2.2.2.2.1 b hc] at e1
  omega
theorem Dz.d42 (z : Dz a d Z) : ∀ b, ft AX4 (d.oa 4) (d.oq 4) b → ¬ ft AX2 (d.oa 2) (d.oq 2) b := fun b hb hc => by
  have e1 := z.2.2.2.2.2.2.2.1 b hb
  rw [z.2.2.2.2.2.1 b hc] at e1
  omega
theorem Dz.d52 (z : Dz a d Z) : ∀ b, ft AX5 (d.oa 5) (d.oq 5) b → ¬ ft AX2 (d.oa 2) (d.oq 2) b := fun b hb hc => by
  have e1 := z.2.2.2.2.2.2.2.2 b hb
  rw [z.2.2.2.2.2.1 b hc] at e1
  omega
theorem Dz.p3 (z : Dz a d Z) : ∀ b, ftP d.pa d.pad d.pq b → ¬ ft AX3 (d.oa 3) (d.oq 3) b := fun b hb hc => by
  have := z.pZ b hb
  rw [z.2.2.2.2.2.2.1 b hc] at this
  omega
theorem Dz.k3 (z : Dz a d Z) (k : Nat) (hk : k < 4) : ∀ b, ft AX6 (d.pad k) (d.pq k) b → ¬ ft AX3 (d.oa 3) (d.oq 3) b := fun b hb hc => z.p3 b (Or.inr ⟨k, hk, hb⟩) hc
theorem Dz.a3 (z : Dz a d Z) : ¬ ft AX3 (d.oa 3) (d.oq 3) a := fun hc => by
  have := z.1
  rw [z.2.2.2.2.2.2.1 a hc] at this
  omega
theorem Dz.d03 (z : Dz a d Z) : ∀ b, ft AX0 (d.oa 0) (d.oq 0) b → ¬ ft AX3 (d.oa 3) (d.oq 3) b := fun b hb hc => by
  have e1 := z.2.2.2.1 b hb
  rw [z.2.2.2.2.2.2.1 b hc] at e1
  omega
theorem Dz.d13 (z : Dz a d Z) : ∀ b, ft AX1 (d.oa 1) (d.oq 1) b → ¬ ft AX3 (d.oa 3) (d.oq 3) b := fun b hb hc => by
  have e1 := z.2.2.2.2.1 b hb
  rw [z.2.2.2.2.2.2.1 b hc] at e1
  omega
theorem Dz.d23 (z : Dz a d Z) : ∀ b, ft AX2 (d.oa 2) (d.oq 2) b → ¬ ft AX3 (d.oa 3) (d.oq 3) b := fun b hb hc => by
  have e1 := z.2.2.2.2.2.1 b hb
  rw [z.2.2.2.2.2.2.1 b hc] at e1
  omega
theorem Dz.d43 (z : Dz a d Z) : ∀ b, ft AX4 (d.oa 4) (d.oq 4) b → ¬ ft AX3 (d.oa 3) (d.oq 3) b := fun b hb hc => by
  have e1 := z.2.2.2.2.2.2.2.1 b hb
  rw [z.2.2.2.2.2.2.1 b hc] at e1
  omega
theorem Dz.d53 (z : Dz a d Z) : ∀ b, ft AX5 (d.oa 5) (d.oq 5) b → ¬ ft AX3 (d.oa 3) (d.oq 3) b := fun b hb hc => by
  have e1 := z.2.2.2.2.2.2.2.2 b hb
  rw [z.2.2.2.2.2.2.1 b hc] at e1
  omega
theorem Dz.p4 (z : Dz a d Z) : ∀ b, ftP d.pa d.pad d.pq b → ¬ ft AX4 (d.oa 4) (d.oq 4) b := fun b hb hc => by
  have := z.pZ b hb
  rw [z.2.2.2.2.2.2.2.1 b hc] at this
  omega
theorem Dz.k4 (z : Dz a d Z) (k : Nat) (hk : k < 4) : ∀ b, ft AX6 (d.pad k) (d.pq k) b → ¬ ft AX4 (d.oa 4) (d.oq 4) b := fun b hb hc => z.p4 b (Or.inr ⟨k, hk, hb⟩) hc
theorem Dz.a4 (z : Dz a d Z) : ¬ ft AX4 (d.oa 4) (d.oq 4) a := fun hc => by
  have := z.1
  rw [z.2.2.2.2.2.2.2.1 a hc] at this
  omega
theorem Dz.d04 (z : Dz a d Z) : ∀ b, ft AX0 (d.oa 0) (d.oq 0) b → ¬ ft AX4 (d.oa 4) (d.oq 4) b := fun b hb hc => by
  have e1 := z.2.2.2.1 b hb
  rw [z.2.2.2.2.2.2.2.1 b hc] at e1
  omega
theorem Dz.d14 (z : Dz a d Z) : ∀ b, ft AX1 (d.oa 1) (d.oq 1) b → ¬ ft AX4 (d.oa 4) (d.oq 4) b := fun b hb hc => by
  have e1 := z.2.2.2.2.1 b hb
  rw [z.2.2.2.2.2.2.2.1 b hc] at e1
  omega
theorem Dz.d24 (z : Dz a d Z) : ∀ b, ft AX2 (d.oa 2) (d.oq 2) b → ¬ ft AX4 (d.oa 4) (d.oq 4) b := fun b hb hc => by
  have e1 := z.2.2.2.2.2.1 b hb
  rw [z.2.2.2.2.2.2.2.1 b hc] at e1
  omega
theorem Dz.d34 (z : Dz a d Z) : ∀ b, ft AX3 (d.oa 3) (d.oq 3) b → ¬ ft AX4 (d.oa 4) (d.oq 4) b := fun b hb hc => by
  have e1 := z.2.2.2.2.2.2.1 b hb
  rw [z.2.2.2.2.2.2.2.1 b hc] at e1
  omega
theorem Dz.d54 (z : Dz a d Z) : ∀ b, ft AX5 (d.oa 5) (d.oq 5) b → ¬ ft AX4 (d.oa 4) (d.oq 4) b := fun b hb hc => by
  have e1 := z.2.2.2.2.2.2.2.2 b hb
  rw [z.2.2.2.2.2.2.2.1 b hc] at e1
  omega
theorem Dz.p5 (z : Dz a d Z) : ∀ b, ftP d.pa d.pad d.pq b → ¬ ft AX5 (d.oa 5) (d.oq 5) b := fun b hb hc => by
  have := z.pZ b hb
  rw [z.2.2.2.2.2.2.2.2 b hc] at this
  omega
theorem Dz.k5 (z : Dz a d Z) (k : Nat) (hk : k < 4) : ∀ b, ft AX6 (d.pad k) (d.pq k) b → ¬ ft AX5 (d.oa 5) (d.oq 5) b := fun b hb hc => z.p5 b (Or.inr ⟨k, hk, hb⟩) hc
theorem Dz.a5 (z : Dz a d Z) : ¬ ft AX5 (d.oa 5) (d.oq 5) a := fun hc => by
  have := z.1
  rw [z.2.2.2.2.2.2.2.2 a hc] at this
  omega
theorem Dz.d05 (z : Dz a d Z) : ∀ b, ft AX0 (d.oa 0) (d.oq 0) b → ¬ ft AX5 (d.oa 5) (d.oq 5) b := fun b hb hc => by
  have e1 := z.2.2.2.1 b hb
  rw [z.2.2.2.2.2.2.2.2 b hc] at e1
  omega
theorem Dz.d15 (z : Dz a d Z) : ∀ b, ft AX1 (d.oa 1) (d.oq 1) b → ¬ ft AX5 (d.oa 5) (d.oq 5) b := fun b hb hc => by
  have e1 := z.2.2.2.2.1 b hb
  rw [z.2.2.2.2.2.2.2.2 b hc] at e1
  omega
theorem Dz.d25 (z : Dz a d Z) : ∀ b, ft AX2 (d.oa 2) (d.oq 2) b → ¬ ft AX5 (d.oa 5) (d.oq 5) b := fun b hb hc => by
  have e1 := z.2.2.2.2.2.1 b hb
  rw [z.2.2.2.2.2.2.2.2 b hc] at e1
  omega
theorem Dz.d35 (z : Dz a d Z) : ∀ b, ft AX3 (d.oa 3) (d.oq 3) b → ¬ ft AX5 (d.oa 5) (d.oq 5) b := fun b hb hc => by
  have e1 := z.2.2.2.2.2.2.1 b hb
  rw [z.2.2.2.2.2.2.2.2 b hc] at e1
  omega
theorem Dz.d45 (z : Dz a d Z) : ∀ b, ft AX4 (d.oa 4) (d.oq 4) b → ¬ ft AX5 (d.oa 5) (d.oq 5) b := fun b hb hc => by
  have e1 := z.2.2.2.2.2.2.2.1 b hb
  rw [z.2.2.2.2.2.2.2.2 b hc] at e1
  omega
theorem Desk.w0 (H : Desk G h a d s) (z : Dz a d Z) {p : OS} (hp : AtX0 G h' (d.oa 0) (d.oq 0) p) (hF : Fr (ft AX0 (d.oa 0) (d.oq 0)) h h') : Desk G h' a d (s.1, upN s.2.1 0 p, s.2.2) ∧ Fr (FtD a d) h h' :=
  ⟨⟨(hF a z.a0).trans H.1, H.2.1.keep hF z.p0, (by show AtX0 G h' _ _ (upN s.2.1 0 p 0); rw [upN_s]; exact hp), (by show AtX1 G h' _ _ (upN s.2.1 0 p 1); rw [upN_n (by omega)]; exact (H.2.2.2.1).keep hF z.d10), (by show AtX2 G h' _ _ (upN s.2.1 0 p 2); rw [upN_n (by omega)]; exact (H.2.2.2.2.1).keep hF z.d20), (by show AtX3 G h' _ _ (upN s.2.1 0 p 3); rw [upN_n (by omega)]; exact (H.2.2.2.2.2.1).keep hF z.d30), (by show AtX4 G h' _ _ (upN s.2.1 0 p 4); rw [upN_n (by omega)]; exact (H.2.2.2.2.2.2.1).keep hF z.d40), (by show AtX5 G h' _ _ (upN s.2.1 0 p 5); rw [upN_n (by omega)]; exact (H.2.2.2.2.2.2.2).keep hF z.d50)⟩, hF.mono (fun b hb => Or.inr (Or.inr (Or.inl hb)))⟩
theorem Desk.w1 (H : Desk G h a d s) (z : Dz a d Z) {p : OS} (hp : AtX1 G h' (d.oa 1) (d.oq 1) p) (hF : Fr (ft AX1 (d.oa 1) (d.oq 1)) h h') : Desk G h' a d (s.1, upN s.2.1 1 p, s.2.2) ∧ Fr (FtD a d) h h' :=
  ⟨⟨(hF a z.a1).trans H.1, H.2.1.keep hF z.p1, (by show AtX0 G h' _ _ (upN s.2.1 1 p 0); rw [upN_n (by omega)]; exact (H.2.2.1).keep hF z.d01), (by show AtX1 G h' _ _ (upN s.2.1 1 p 1); rw [upN_s]; exact hp), (by show AtX2 G h' _ _ (upN s.2.1 1 p 2); rw [upN_n (by omega)]; exact (H.2.2.2.2.1).keep hF z.d21), (by show AtX3 G h' _ _ (upN s.2.1 1 p 3); rw [upN_n (by omega)]; exact (H.2.2.2.2.2.1).keep hF z.d31), (by show AtX4 G h' _ _ (upN s.2.1 1 p 4); rw [upN_n (by omega)]; exact (H.2.2.2.2.2.2.1).keep hF z.d41), (by show AtX5 G h' _ _ (upN s.2.1 1 p 5); rw [upN_n (by omega)]; exact (H.2.2.2.2.2.2.2).keep hF z.d51)⟩, hF.mono (fun b hb => Or.inr (Or.inr (Or.inr (Or.inl hb))))⟩
theorem Desk.w2 (H : Desk G h a d s) (z : Dz a d Z) {p : OS} (hp : AtX2 G h' (d.oa 2) (d.oq 2) p) (hF : Fr (ft AX2 (d.oa 2) (d.oq 2)) h h') : Desk G h' a d (s.1, upN s.2.1 2 p, s.2.2) ∧ Fr (FtD a d) h h' :=
  ⟨⟨(hF a z.a2).trans H.1, H.2.1.keep hF z.p2, (by show AtX0 G h' _ _ (upN s.2.1 2 p 0); rw [upN_n (by omega)]; exact (H.2.2.1).keep hF z.d02), (by show AtX1 G h' _ _ (upN s.2.1 2 p 1); rw [upN_n (by omega)]; exact (H.2.2.2.1).keep hF z.d12), (by show AtX2 G h' _ _ (upN s.2.1 2 p 2); rw [upN_s]; exact hp), (by show AtX3 G h' _ _ (upN s.2.1 2 p 3); rw [upN_n (by omega)]; exact (H.2.2.2.2.2.1).keep hF z.d32), (by show AtX4 G h' _ _ (upN s.2.1 2 p 4); rw [upN_n (by omega)]; exact (H.2.2.2.2.2.2.1).keep hF z.d42), (by show AtX5 G h' _ _ (upN s.2.1 2 p 5); rw [upN_n (by omega)]; exact (H.2.2.2.2.2.2.2).keep hF z.d52)⟩, hF.mono (fun b hb => Or.inr (Or.inr (Or.inr (Or.inr (Or.inl hb)))))⟩
theorem Desk.w3 (H : Desk G h a d s) (z : Dz a d Z) {p : OS} (hp : AtX3 G h' (d.oa 3) (d.oq 3) p) (hF : Fr (ft AX3 (d.oa 3) (d.oq 3)) h h') : Desk G h' a d (s.1, upN s.2.1 3 p, s.2.2) ∧ Fr (FtD a d) h h' :=
  ⟨⟨(hF a z.a3).trans H.1, H.2.1.keep hF z.p3, (by show AtX0 G h' _ _ (upN s.2.1 3 p 0); rw [upN_n (by omega)]; exact (H.2.2.1).keep hF z.d03), (by show AtX1 G h' _ _ (upN s.2.1 3 p 1); rw [upN_n (by omega)]; exact (H.2.2.2.1).keep hF z.d13), (by show AtX2 G h' _ _ (upN s.2.1 3 p 2); rw [upN_n (by omega)]; exact (H.2.2.2.2.1).keep hF z.d23), (by show AtX3 G h' _ _ (upN s.2.1 3 p 3); rw [upN_s]; exact hp), (by show AtX4 G h' _ _ (upN s.2.1 3 p 4); rw [upN_n (by omega)]; exact (H.2.2.2.2.2.2.1).keep hF z.d43), (by show AtX5 G h' _ _ (upN s.2.1 3 p 5); rw [upN_n (by omega)]; exact (H.2.2.2.2.2.2.2).keep hF z.d53)⟩, hF.mono (fun b hb => Or.inr (Or.inr (Or.inr (Or.inr (Or.inr (Or.inl hb))))))⟩
theorem Desk.w4 (H : Desk G h a d s) (z : Dz a d Z) {p : OS} (hp : AtX4 G h' (d.oa 4) (d.oq 4) p) (hF : Fr (ft AX4 (d.oa 4) (d.oq 4)) h h') : Desk G h' a d (s.1, upN s.2.1 4 p, s.2.2) ∧ Fr (FtD a d) h h' :=
  ⟨⟨(hF a z.a4).trans H.1, H.2.1.keep hF z.p4, (by show AtX0 G h' _ _ (upN s.2.1 4 p 0); rw [upN_n (by omega)]; exact (H.2.2.1).keep hF z.d04), (by show AtX1 G h' _ _ (upN s.2.1 4 p 1); rw [upN_n (by omega)]; exact (H.2.2.2.1).keep hF z.d14), (by show AtX2 G h' _ _ (upN s.2.1 4 p 2); rw [upN_n (by omega)]; exact (H.2.2.2.2.1).keep hF z.d24), (by show AtX3 G h' _ _ (upN s.2.1 4 p 3); rw [upN_n (by omega)]; exact (H.2.2.2.2.2.1).keep hF z.d34), (by show AtX4 G h' _ _ (upN s.2.1 4 p 4); rw [upN_s]; exact hp), (by show AtX5 G h' _ _ (upN s.2.1 4 p 5); rw [upN_n (by omega)]; exact (H.2.2.2.2.2.2.2).keep hF z.d54)⟩, hF.mono (fun b hb => Or.inr (Or.inr (Or.inr (Or.inr (Or.inr (Or.inr (Or.inl hb)))))))⟩
theorem Desk.w5 (H : Desk G h a d s) (z : Dz a d Z) {p : OS} (hp : AtX5 G h' (d.oa 5) (d.oq 5) p) (hF : Fr (ft AX5 (d.oa 5) (d.oq 5)) h h') : Desk G h' a d (s.1, upN s.2.1 5 p, s.2.2) ∧ Fr (FtD a d) h h' :=
  ⟨⟨(hF a z.a5).trans H.1, H.2.1.keep hF z.p5, (by show AtX0 G h' _ _ (upN s.2.1 5 p 0); rw [upN_n (by omega)]; exact (H.2.2.1).keep hF z.d05), (by show AtX1 G h' _ _ (upN s.2.1 5 p 1); rw [upN_n (by omega)]; exact (H.2.2.2.1).keep hF z.d15), (by show AtX2 G h' _ _ (upN s.2.1 5 p 2); rw [upN_n (by omega)]; exact (H.2.2.2.2.1).keep hF z.d25), (by show AtX3 G h' _ _ (upN s.2.1 5 p 3); rw [upN_n (by omega)]; exact (H.2.2.2.2.2.1).keep hF z.d35), (by show AtX4 G h' _ _ (upN s.2.1 5 p 4); rw [upN_n (by omega)]; exact (H.2.2.2.2.2.2.1).keep hF z.d45), (by show AtX5 G h' _ _ (upN s.2.1 5 p 5); rw [upN_s]; exact hp)⟩, hF.mono (fun b hb => Or.inr (Or.inr (Or.inr (Or.inr (Or.inr (Or.inr (Or.inr (hb))))))))⟩
theorem Desk.wP (H : Desk G h a d s) (z : Dz a d Z) {k : Nat} (hk : k < 4) {p : OS} (hp : AtX6 G h' (d.pad k) (d.pq k) p) (hF : Fr (ft AX6 (d.pad k) (d.pq k)) h h') : Desk G h' a d (upN s.1 k p, s.2.1, s.2.2) ∧ Fr (FtD a d) h h' := by
  refine ⟨⟨(hF a (fun hc => by have := z.1; rw [z.2.2.1 k hk a hc] at this; omega)).trans H.1, ⟨?_, fun j hj => ?_⟩, ((H.2.2.1).keep hF (fun b hb hc => z.k0 k hk b hc hb)), ((H.2.2.2.1).keep hF (fun b hb hc => z.k1 k hk b hc hb)), ((H.2.2.2.2.1).keep hF (fun b hb hc => z.k2 k hk b hc hb)), ((H.2.2.2.2.2.1).keep hF (fun b hb hc => z.k3 k hk b hc hb)), ((H.2.2.2.2.2.2.1).keep hF (fun b hb hc => z.k4 k hk b hc hb)), ((H.2.2.2.2.2.2.2).keep hF (fun b hb hc => z.k5 k hk b hc hb))⟩, hF.mono (fun b hb => Or.inr (Or.inl (Or.inr ⟨k, hk, hb⟩)))⟩
  · obtain ⟨F, h1, h2⟩ := H.2.1.1
    exact ⟨F, (hF _ (fun hc => by have := z.2.1; rw [z.2.2.1 k hk _ hc] at this; omega)).trans h1, h2⟩
  · by_cases e : j = k
    · subst e
      show AtX6 G h' _ _ (upN s.1 j p j)
      rw [upN_s]
      exact hp
    · show AtX6 G h' _ _ (upN s.1 k p j)
      rw [upN_n e]
      exact (H.2.1.2 j hj).keep hF (fun b hb hc => by
        have e1 := z.2.2.1 j hj b hb
        rw [z.2.2.1 k hk b hc] at e1
        omega)
/-- a field of its own -/
theorem Desk.wf (H : Desk G h a d s) (z : Dz a d Z) (k : Nat) (x : Int) (hx : deskV d (upN s.2.2 k x) = (deskV d s.2.2).set k (vI x)) : Desk G (hset h a (.inr (7, (deskV d s.2.2).set k (vI x)))) a d (s.1, s.2.1, upN s.2.2 k x) ∧ Fr (FtD a d) h (hset h a (.inr (7, (deskV d s.2.2).set k (vI x)))) := by
  have hF : Fr (fun b => b = a) h (hset h a (.inr (7, (deskV d s.2.2).set k (vI x)))) := Fr.set rfl
  refine ⟨⟨by rw [hset_s, ← hx], H.2.1.keep hF (fun b hb hc => ?_), ((H.2.2.1).keep hF (fun b hb hc => z.a0 (hc ▸ hb))), ((H.2.2.2.1).keep hF (fun b hb hc => z.a1 (hc ▸ hb))), ((H.2.2.2.2.1).keep hF (fun b hb hc => z.a2 (hc ▸ hb))), ((H.2.2.2.2.2.1).keep hF (fun b hb hc => z.a3 (hc ▸ hb))), ((H.2.2.2.2.2.2.1).keep hF (fun b hb hc => z.a4 (hc ▸ hb))), ((H.2.2.2.2.2.2.2).keep hF (fun b hb hc => z.a5 (hc ▸ hb)))⟩, hF.mono (fun b hb => Or.inl hb)⟩
  have := z.pZ b hb
  rw [hc, z.1] at this
  omega
end DW
/-- what is true of the desk's state -/
def FauOK (P : Nat → OS) (p : OS) : Prop := LstAt p (fauA P)
def MeaOK (p6 p0 : OS) (b : Int) (p : OS) : Prop := mN p ∧ (∀ j : Int, 0 ≤ j → j < p.1 9 → p.2 4 j = 0 ∨ p.2 4 j = 1) ∧ MeaEq p (wrP p6 p0 b zOS)
def DI (s : DS) : Prop := scoOK s.1 ∧ evs s.1 ≤ 512 ∧ calOK (s.2.1 0) ∧ hN (s.2.1 3) ∧ fZ (s.2.1 2) ∧ (s.2.2 7 = 0 ∨ s.2.2 7 = 1 ∧ HarOK s.1 (s.2.1 3)) ∧ (s.2.2 8 = 0 ∨ s.2.2 8 = 1 ∧ FauOK s.1 (s.2.1 2)) ∧ (s.2.2 9 = 0 ∨ s.2.2 9 = 1 ∧ WidOK s.1 (s.2.1 0) (s.2.1 4)) ∧
  ((s.2.2 10 = -1 ∧ s.2.2 11 = -1) ∨ ((0 ≤ s.2.2 10 ∧ s.2.2 10 < 4) ∧ isBar (s.2.2 11) ∧ MeaOK (s.1 (s.2.2 10).toNat) (s.2.1 0) (s.2.2 11) (s.2.1 5)))
