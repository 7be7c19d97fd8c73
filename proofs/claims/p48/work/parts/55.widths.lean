/-! widths -/
theorem msrM_cg {T T' : Int → Int} {e : Int} : ∀ (n : Nat) (m w l : Int), (∀ i : Int, m ≤ i → i < m + n → T i = T' i) → msrM T e n m w l = msrM T' e n m w l
  | 0, _, _, _, _ => rfl
  | n + 1, m, w, l, h => by
    unfold msrM
    rw [h m (by omega) (by omega), msrM_cg n (m + 1) (w + gapW (T' m - l)) (T' m) (fun i a b => h i (by omega) (by omega)), msrM_cg n (m + 1) w l (fun i a b => h i (by omega) (by omega))]
theorem msr_cg {L K T T' : Int → Int} {cnt : Int} {F F' : Int → Int} (h0 : 0 ≤ cnt) (h : agI cnt T T') : ∀ k : Nat, (msr L K T cnt F k).1 = (msr L K T' cnt F' k).1 ∧ agI k (msr L K T cnt F k).2 (msr L K T' cnt F' k).2
  | 0 => ⟨rfl, fun j a b => absurd b (by simp; omega)⟩
  | k + 1 => by
    have ih := msr_cg (L := L) (K := K) (F := F) (F' := F') h0 h k
    have hr := msr_rg (L := L) (K := K) (T := T) (F := F) h0 k
    have e := msrM_cg (T := T) (T' := T') (e := sumN L k + L k) (cnt - (msr L K T cnt F k).1).toNat (msr L K T cnt F k).1 (msrB K k) (sumN L k) (fun i a b => h i (by omega) (by omega))
    unfold msr
    dsimp only
    rw [← ih.1, ← e]
    exact ⟨rfl, ih.2.up _⟩
theorem gapW_le {g : Int} (h : 1 ≤ g) : 0 ≤ gapW g ∧ gapW g ≤ 2 * g := by
  unfold gapW
  have h1 := Nat.log2_self_le (n := g.toNat) (by omega)
  have h2 := Nat.lt_two_pow_self (n := g.toNat.log2)
  omega
theorem msrM_w {T : Int → Int} {e : Int} : ∀ (n : Nat) (m w l : Int), w ≤ (msrM T e n m w l).2.1 ∧ (msrM T e n m w l).2.1 ≤ w + 2 * ((msrM T e n m w l).2.2 - l)
  | 0, m, w, l => by
    show w ≤ w ∧ w ≤ w + 2 * (l - l)
    omega
  | n + 1, m, w, l => by
    unfold msrM
    split
    · split
      · rename_i c
        have g := gapW_le (g := T m - l) (by omega)
        have ih := msrM_w (T := T) (e := e) n (m + 1) (w + gapW (T m - l)) (T m)
        omega
      · exact msrM_w n (m + 1) w l
    · show w ≤ w ∧ w ≤ w + 2 * (l - l)
      omega
def widF (P : Nat → OS) (p0 : OS) : Int → Int := (msr (p0.2 2) (p0.2 3) (fun m => momT P m.toNat) (cntM P) (fun _ => 0) 24).2
def WidOK (P : Nat → OS) (p0 p : OS) : Prop := agI 24 (p.2 0) (widF P p0)
theorem msr_w {L K T : Int → Int} {cnt : Int} {F : Int → Int} (hL : lenZ L) (hK : ∀ i : Int, 0 ≤ i → i < 24 → -7 ≤ K i ∧ K i ≤ 7) : ∀ k : Nat, k ≤ 24 → ∀ i : Int, 0 ≤ i → i < k → 0 ≤ (msr L K T cnt F k).2 i ∧ (msr L K T cnt F k).2 i ≤ 774
  | 0, _ => fun i a b => absurd b (by simp; omega)
  | k + 1, hk => by
    have ih := msr_w (T := T) (cnt := cnt) (F := F) hL hK k (by omega)
    intro i a b
    have hw := msrM_w (T := T) (e := sumN L k + L k) (cnt - (msr L K T cnt F k).1).toNat (msr L K T cnt F k).1 (msrB K k) (sumN L k)
    have hr := msrM_rg (T := T) (e := sumN L k + L k) (cnt - (msr L K T cnt F k).1).toNat (msr L K T cnt F k).1 (msrB K k) (sumN L k)
    have hLk := hL k (by omega) (by omega)
    have hKk := hK k (by omega) (by omega)
    have hB : 3 ≤ msrB K k ∧ msrB K k ≤ 5 := by
      unfold msrB
      rw [Int.tdiv_eq_ediv_of_nonneg (by omega)]
      omega
    unfold msr
    dsimp only
    generalize msrM T (sumN L k + L k) (cnt - (msr L K T cnt F k).1).toNat (msr L K T cnt F k).1 (msrB K k) (sumN L k) = r at *
    by_cases c : i = k
    · subst c
      rw [upI_s]
      have g := gapW_le (g := sumN L k + L k - r.2.2) (by have := hr.1.2 (by omega); omega)
      omega
    · rw [upI_n c]
      exact ih i a (by omega)
theorem calZ.K {p0 : OS} (h : calZ p0) : ∀ i : Int, 0 ≤ i → i < 24 → -7 ≤ p0.2 3 i ∧ p0.2 3 i ≤ 7 := fun i a b => (h.2.2 i ⟨a, b⟩).2
theorem widF_Z {P : Nat → OS} {p0 : OS} (h : calZ p0) : wZ (widF P p0) := fun i a b => msr_w h.1 h.K 24 (Nat.le_refl _) i a b
theorem WidOK.Z {P : Nat → OS} {p0 p : OS} (h : WidOK P p0 p) (hc : calZ p0) : wZ (p.2 0) := fun i a b => by
  rw [h i a b]
  exact widF_Z hc i a b
theorem wid_ok {P : Nat → OS} {p0 p3 : OS} (h : HarOK P p3) (p : OS) : WidOK P p0 (oA p 0 (msr (p0.2 2) (p0.2 3) (p3.2 0) (p3.1 3) (p.2 0) 24).2) := by
  unfold WidOK widF
  rw [oA_s, h.1]
  refine (msr_cg (by omega) (fun j a b => ?_) 24).2
  have e := (h.2 j.toNat (by omega)).1
  rw [Int.toNat_of_nonneg a] at e
  exact e
/-- the breaking of lines hangs on the widths alone -/
def BrkEq (p p' : OS) : Prop := p.1 4 = p'.1 4 ∧ p.2 1 0 = p'.2 1 0 ∧ agI 24 (p.2 3) (p'.2 3)
