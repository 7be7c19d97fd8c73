theorem sq_le {x B : Int} (h : -B ≤ x ∧ x ≤ B) : 0 ≤ x * x ∧ x * x ≤ B * B := by
  have h0 : 0 ≤ x * x := by
    rcases Int.le_total 0 x with c | c
    · exact Int.mul_nonneg c c
    · have := Int.mul_nonneg (Int.neg_nonneg_of_nonpos c) (Int.neg_nonneg_of_nonpos c)
      rw [Int.neg_mul_neg] at this
      exact this
  refine ⟨h0, ?_⟩
  rcases Int.le_total 0 x with c | c
  · exact Int.mul_le_mul h.2 h.2 c (by omega)
  · have := Int.mul_le_mul (show -x ≤ B by omega) (show -x ≤ B by omega) (by omega) (by omega)
    rw [Int.neg_mul_neg] at this
    exact this
/-- the lines that begin with bar 'first', the shortest ones: width, least, next -/
def chCo (C : Int → Int) (s w wd n : Int) : Int := (if n = s ∧ 0 ≤ w - wd then 0 else (w - wd) * (w - wd)) + C n
def chT (r : Int × Int × Int) (wd c n : Int) : Int × Int × Int := if r.2.1 = -1 ∨ c ≤ r.2.1 then (wd, c, n) else (wd, r.2.1, r.2.2)
def chN (W C : Int → Int) (s w first nx : Int) : Nat → Int × Int × Int
  | 0 => (0, -1, nx)
  | j + 1 => chT (chN W C s w first nx j) ((chN W C s w first nx j).1 + W (first + j)) (chCo C s w ((chN W C s w first nx j).1 + W (first + j)) (first + j + 1)) (first + j + 1)
theorem chN_s (W C : Int → Int) (s w first nx : Int) (j : Nat) : chN W C s w first nx (j + 1) = chT (chN W C s w first nx j) ((chN W C s w first nx j).1 + W (first + j)) (chCo C s w ((chN W C s w first nx j).1 + W (first + j)) (first + j + 1)) (first + j + 1) := rfl
def choP (p : OS) (s w first : Int) : OS :=
  let r := chN (p.2 0) (p.2 1) s w first (p.2 2 first) (s - first).toNat
  oA (oA p 2 (upI (p.2 2) first r.2.2)) 1 (upI (p.2 1) first r.2.1)
def wZ (W : Int → Int) : Prop := ∀ i : Int, 0 ≤ i → i < 24 → 0 ≤ W i ∧ W i ≤ 774
def cZ (C : Int → Int) (a s : Int) : Prop := ∀ i : Int, a ≤ i → i ≤ s → 0 ≤ C i ∧ C i ≤ 600000 * (s - i)
theorem ch_cost {W C : Int → Int} {s w first : Int} {j : Nat} {wd : Int} (hw : 10 ≤ w ∧ w ≤ 400) (hW : wZ W) (hC : cZ C (first + 1) s) (h0 : 0 ≤ first) (hs : s ≤ 24) (hj : first + j < s) (hwd : 0 ≤ wd ∧ wd ≤ 774 * j) :
    (0 ≤ (w - (wd + W (first + j))) * (w - (wd + W (first + j))) ∧ (w - (wd + W (first + j))) * (w - (wd + W (first + j))) ≤ 350000000) ∧ rg (w - (wd + W (first + j))) ∧ 0 ≤ chCo C s w (wd + W (first + j)) (first + j + 1) ∧ chCo C s w (wd + W (first + j)) (first + j + 1) ≤ 370000000 := by
  have h1 := hW (first + j) (by omega) (by omega)
  have h2 := hC (first + j + 1) (by omega) (by omega)
  have h3 := sq_le (x := w - (wd + W (first + j))) (B := 18600) ⟨by omega, by omega⟩
  unfold chCo
  obtain ⟨f, hf⟩ : ∃ f, f = w - (wd + W (first + j)) := ⟨_, rfl⟩
  rw [← hf] at h3 ⊢
  refine ⟨⟨by omega, by omega⟩, by omega, ?_⟩
  split <;> omega
theorem chN_rg {W C : Int → Int} {s w first nx : Int} (hw : 10 ≤ w ∧ w ≤ 400) (hW : wZ W) (hC : cZ C (first + 1) s) (h0 : 0 ≤ first) (hs : s ≤ 24) : ∀ j : Nat, first + j ≤ s →
    (0 ≤ (chN W C s w first nx j).1 ∧ (chN W C s w first nx j).1 ≤ 774 * j) ∧ (j = 0 → (chN W C s w first nx j).2.1 = -1) ∧ (1 ≤ j → (0 ≤ (chN W C s w first nx j).2.1 ∧ (chN W C s w first nx j).2.1 ≤ 600000 * (s - first)) ∧ first < (chN W C s w first nx j).2.2 ∧ (chN W C s w first nx j).2.2 ≤ first + j)
  | 0, _ => ⟨⟨Int.le_refl _, Int.le_refl _⟩, fun _ => rfl, fun h => absurd h (by decide)⟩
  | j + 1, hj => by
    have ih := chN_rg (nx := nx) hw hW hC h0 hs j (by omega)
    have hc := ch_cost (j := j) hw hW hC h0 hs (by omega) ih.1
    have h1 := hW (first + j) (by omega) (by omega)
    have h2 := hC (first + j + 1) (by omega) (by omega)
    rw [chN_s]
    obtain ⟨r, hr⟩ : ∃ r, r = chN W C s w first nx j := ⟨_, rfl⟩
    rw [← hr] at ih hc ⊢
    have hc0 := hc.2.2
    have hcj : j = 0 → chCo C s w (r.1 + W (first + j)) (first + j + 1) ≤ 600000 * (s - first) := by
      intro e
      have h3 := sq_le (x := w - (r.1 + W (first + j))) (B := 764) ⟨by have := ih.1; omega, by have := ih.1; omega⟩
      unfold chCo
      obtain ⟨f, hf⟩ : ∃ f, f = w - (r.1 + W (first + j)) := ⟨_, rfl⟩
      rw [← hf] at h3 ⊢
      split <;> omega
    obtain ⟨c, hcc⟩ : ∃ c, c = chCo C s w (r.1 + W (first + j)) (first + j + 1) := ⟨_, rfl⟩
    rw [← hcc] at hc0 hcj ⊢
    unfold chT
    by_cases g : r.2.1 = -1 ∨ c ≤ r.2.1
    · rw [if_pos g]
      refine ⟨⟨by show 0 ≤ r.1 + W (first + j); omega, by show r.1 + W (first + j) ≤ 774 * ((j + 1 : Nat) : Int); omega⟩, fun e => absurd e (by omega), fun _ => ⟨⟨hc0.1, ?_⟩, by show first < first + j + 1; omega, by show first + j + 1 ≤ first + ((j + 1 : Nat) : Int); omega⟩⟩
      show c ≤ 600000 * (s - first)
      by_cases e : j = 0
      · exact hcj e
      · have := ih.2.2 (by omega)
        rcases g with g | g <;> omega
    · rw [if_neg g]
      have hj1 : 1 ≤ j := by
        by_cases e : j = 0
        · exact absurd (Or.inl (ih.2.1 e)) g
        · omega
      have ih3 := ih.2.2 hj1
      refine ⟨⟨by show 0 ≤ r.1 + W (first + j); omega, by show r.1 + W (first + j) ≤ 774 * ((j + 1 : Nat) : Int); omega⟩, fun e => absurd e (by omega), fun _ => ⟨ih3.1, ih3.2.1, by show r.2.2 ≤ first + ((j + 1 : Nat) : Int); omega⟩⟩
/-- the bars from s - k on -/
def dpP (p : OS) (s w : Int) : Nat → OS
  | 0 => oA p 1 (upI (p.2 1) s 0)
  | k + 1 => choP (dpP p s w k) s w (s - 1 - k)
theorem dpP_s (p : OS) (s w : Int) (k : Nat) : dpP p s w (k + 1) = choP (dpP p s w k) s w (s - 1 - k) := rfl
theorem dpP_w (p : OS) (s w : Int) : ∀ k : Nat, (dpP p s w k).2 0 = p.2 0
  | 0 => rfl
  | k + 1 => dpP_w p s w k
theorem dpP_c (p : OS) {s w : Int} (hw : 10 ≤ w ∧ w ≤ 400) (hW : wZ (p.2 0)) (hs : s ≤ 24) : ∀ k : Nat, (k : Int) ≤ s → cZ ((dpP p s w k).2 1) (s - k) s
  | 0, _ => by
    intro i h1 h2
    have e : i = s := by simp at h1; omega
    subst e
    show 0 ≤ upI (p.2 1) i 0 i ∧ upI (p.2 1) i 0 i ≤ _
    rw [upI_s]
    omega
  | k + 1, hk => by
    have ih := dpP_c p (w := w) hw hW hs k (by omega)
    intro i h1 h2
    show 0 ≤ upI ((dpP p s w k).2 1) (s - 1 - k) _ i ∧ upI ((dpP p s w k).2 1) (s - 1 - k) _ i ≤ _
    by_cases e : i = s - 1 - k
    · subst e
      rw [upI_s]
      have := chN_rg (W := (dpP p s w k).2 0) (C := (dpP p s w k).2 1) (first := s - 1 - k) (nx := (dpP p s w k).2 2 (s - 1 - k)) hw (by rw [dpP_w]; exact hW) (by rw [show s - 1 - (k : Int) + 1 = s - k by omega]; exact ih) (by omega) hs (s - (s - 1 - k)).toNat (by omega)
      exact (this.2.2 (by omega)).1
    · rw [upI_n e]
      exact ih i (by omega) h2
/-- the bars' lines, the first bars -/
def numL (nx : Int → Int) (s : Int) (F : Int → Int) : Nat → Int × Int × (Int → Int)
  | 0 => (0, 0, F)
  | k + 1 => let r := numL nx s F k
    if s ≤ k then (r.1, r.2.1, upI r.2.2 k (-1)) else if (k : Int) = r.2.1 then (r.1 + 1, nx k, upI r.2.2 k (r.1 + 1 - 1)) else (r.1, r.2.1, upI r.2.2 k (r.1 - 1))
theorem numL_s (nx : Int → Int) (s : Int) (F : Int → Int) (k : Nat) : numL nx s F (k + 1) = let r := numL nx s F k
    if s ≤ k then (r.1, r.2.1, upI r.2.2 k (-1)) else if (k : Int) = r.2.1 then (r.1 + 1, nx k, upI r.2.2 k (r.1 + 1 - 1)) else (r.1, r.2.1, upI r.2.2 k (r.1 - 1)) := rfl
def numP (p : OS) (s : Int) : OS := oU (oA p 3 (numL (p.2 2) s (p.2 3) 24).2.2) 4 (numL (p.2 2) s (p.2 3) 24).1
def brkP (p : OS) (s w : Int) : OS := numP (dpP p s w s.toNat) s
set_option maxRecDepth 100000 in
theorem c_X4_chooseLine {l : Launch} {G : jG} {h : jH} {a : Nat} {q : Nat → Nat} {p : OS} {s w first : Int} (hP : AtX4 G h a q p) (hw : 10 ≤ w ∧ w ≤ 400) (hW : wZ (p.2 0)) (hC : cZ (p.2 1) (first + 1) s) (h0 : 0 ≤ first) (hs : s ≤ 24) (hfs : first < s) : jC l G yX4_chooseLine mX4_chooseLine [.ref a, vI first, vI s, vI w] h (jW oN (fun h' => AtX4 G h' a q (choP p s w first) ∧ Fr (ft AX4 a q) h h')) := by
  have loop : ∀ (n j : Nat) (h2 : jH), first + j + n = s → AtX4 G h2 a q (oA p 2 (upI (p.2 2) first (chN (p.2 0) (p.2 1) s w first (p.2 2 first) j).2.2)) → Fr (ft AX4 a q) h h2 → J l G mX4_chooseLine (jQ G mX4_chooseLine (jW oN (fun h' => AtX4 G h' a q (choP p s w first) ∧ Fr (ft AX4 a q) h h'))) 0 0 22 [(6, vI (first + (j : Int) + 1)), (5, vI (chN (p.2 0) (p.2 1) s w first (p.2 2 first) j).2.1), (4, vI (chN (p.2 0) (p.2 1) s w first (p.2 2 first) j).1), (0, .ref a), (1, vI first), (2, vI s), (3, vI w)] [] h2 := by
    intro n
    induction n with
    | zero =>
      intro j h2 hj hP hF
      obtain rfl : j = (s - first).toNat := by omega
      refine j_iload dX4_chooseLine_22 rfl ?_
      refine j_iload_n 2 dX4_chooseLine_24 rfl rfl ?_
      refine J_icmp_gt 116 dX4_chooseLine_25 (by decide) (fun c25 => ?_) (fun c25 => absurd c25 (by omega)) 
      refine j_aload_n 0 dX4_chooseLine_116 rfl rfl ?_
      refine j_get fX4_15 dX4_chooseLine_117 hP.1 rfl ?_
      refine j_iload_n 1 dX4_chooseLine_120 rfl rfl ?_
      refine j_iload dX4_chooseLine_121 rfl ?_
      refine J_iastA 1 hP rfl (fun _ => rfl) (fun _ => rfl) dX4_chooseLine_123 (fun h hP hF123 => ?_) 
      have hF := hF.tr hF123
      refine j_vret rfl dX4_chooseLine_124 ?_
      exact ⟨rfl, hP, hF⟩
    | succ n ih =>
      intro j h2 hj hP hF
      have hr := chN_rg (nx := p.2 2 first) hw hW hC h0 hs j (by omega)
      have hc := ch_cost (j := j) hw hW hC h0 hs (by omega) hr.1
      have hE := chN_s (p.2 0) (p.2 1) s w first (p.2 2 first) j
      have back := ih (j + 1)
      rw [hE] at back
      obtain ⟨r, hrr⟩ : ∃ r, r = (chN (p.2 0) (p.2 1) s w first (p.2 2 first) j) := ⟨_, rfl⟩
      rw [← hrr] at hr hc back hP ⊢
      have hr2 : -1 ≤ r.2.1 ∧ r.2.1 ≤ 600000 * (s - first) := by
        by_cases e : j = 0
        · have := hr.2.1 e; omega
        · have := hr.2.2 (by omega); omega
      have W1 := hW (first + j) (by omega) (by omega)
      have e0 : first + (j : Int) + 1 - 1 = first + j := by omega
      have fin : ∀ c : Int, c = chCo (p.2 1) s w (r.1 + p.2 0 (first + j)) (first + j + 1) → J l G mX4_chooseLine (jQ G mX4_chooseLine (jW oN (fun h' => AtX4 G h' a q (choP p s w first) ∧ Fr (ft AX4 a q) h h'))) 0 0 85 [(8, vI c), (7, vI (w - (r.1 + p.2 0 (first + j)))), (4, vI (r.1 + p.2 0 (first + j))), (6, vI (first + (j : Int) + 1)), (5, vI r.2.1), (0, .ref a), (1, vI first), (2, vI s), (3, vI w)] [] h2 := by
        intro c hcc
        rw [← hcc] at hc back
        have b1 : ∀ h3, (r.2.1 = -1 ∨ c ≤ r.2.1) → AtX4 G h3 a q (oA p 2 (upI (p.2 2) first (first + j + 1))) → Fr (ft AX4 a q) h h3 → J l G mX4_chooseLine (jQ G mX4_chooseLine (jW oN (fun h' => AtX4 G h' a q (choP p s w first) ∧ Fr (ft AX4 a q) h h'))) 0 0 22 [(6, vI (first + (j : Int) + 1 + 1)), (5, vI c), (4, vI (r.1 + p.2 0 (first + j))), (0, .ref a), (1, vI first), (2, vI s), (3, vI w)] [] h3 := by
          intro h3 g hP hF
          have := back h3 (by omega)
          rw [show chT r (r.1 + p.2 0 (first + j)) c (first + j + 1) = (r.1 + p.2 0 (first + j), c, first + j + 1) from if_pos g, show first + ((j + 1 : Nat) : Int) + 1 = first + (j : Int) + 1 + 1 by omega] at this
          exact this hP hF
        have b2 : ∀ h3, ¬ (r.2.1 = -1 ∨ c ≤ r.2.1) → AtX4 G h3 a q (oA p 2 (upI (p.2 2) first r.2.2)) → Fr (ft AX4 a q) h h3 → J l G mX4_chooseLine (jQ G mX4_chooseLine (jW oN (fun h' => AtX4 G h' a q (choP p s w first) ∧ Fr (ft AX4 a q) h h'))) 0 0 22 [(6, vI (first + (j : Int) + 1 + 1)), (5, vI r.2.1), (4, vI (r.1 + p.2 0 (first + j))), (0, .ref a), (1, vI first), (2, vI s), (3, vI w)] [] h3 := by
          intro h3 g hP hF
          have := back h3 (by omega)
          rw [show chT r (r.1 + p.2 0 (first + j)) c (first + j + 1) = (r.1 + p.2 0 (first + j), r.2.1, r.2.2) from if_neg g, show first + ((j + 1 : Nat) : Int) + 1 = first + (j : Int) + 1 + 1 by omega] at this
          exact this hP hF
        refine j_iload dX4_chooseLine_85 rfl ?_
        refine J_iconst dX4_chooseLine_87 ?_
        refine J_icmp_eq 98 dX4_chooseLine_88 (by decide) (fun c88 => ?_) (fun c88 => ?_) 
        · refine j_iload dX4_chooseLine_98 rfl ?_
          refine j_istore (L' := [(5, _), (8, _), (7, _), (4, _), (6, _), (0, _), (1, _), (2, _), (3, _)]) dX4_chooseLine_100 rfl rfl ?_
          refine j_aload_n 0 dX4_chooseLine_102 rfl rfl ?_
          refine j_get fX4_18 dX4_chooseLine_103 hP.1 rfl ?_
          refine j_iload_n 1 dX4_chooseLine_106 rfl rfl ?_
          refine j_iload dX4_chooseLine_107 rfl ?_
          refine J_iastA 2 hP rfl (fun _ => rfl) (fun _ => rfl) dX4_chooseLine_109 (fun h hP hF109 => ?_) 
          have hF := hF.tr hF109
          refine J_iinc (L' := [(6, _), (5, _), (8, _), (7, _), (4, _), (0, _), (1, _), (2, _), (3, _)]) dX4_chooseLine_110 rfl rfl rfl ?_
          refine j_goto 22 dX4_chooseLine_113 (by decide) ?_
          first | exact j_locR (b1 h (Or.inl c88) (upI_A hP) hF) (by repeat' (first | exact True.intro | refine And.intro rfl ?_)) | exact j_locR (b1 h (Or.inr c95) (upI_A hP) hF) (by repeat' (first | exact True.intro | refine And.intro rfl ?_)) | exact j_locR (b2 _ (fun z => z.elim c88 (by omega)) hP hF) (by repeat' (first | exact True.intro | refine And.intro rfl ?_))
        · refine j_iload dX4_chooseLine_91 rfl ?_
          refine j_iload dX4_chooseLine_93 rfl ?_
          refine J_icmp_gt 110 dX4_chooseLine_95 (by decide) (fun c95 => ?_) (fun c95 => ?_) 
          · refine J_iinc (L' := [(6, _), (8, _), (7, _), (4, _), (5, _), (0, _), (1, _), (2, _), (3, _)]) dX4_chooseLine_110 rfl rfl rfl ?_
            refine j_goto 22 dX4_chooseLine_113 (by decide) ?_
            first | exact j_locR (b1 h (Or.inl c88) (upI_A hP) hF) (by repeat' (first | exact True.intro | refine And.intro rfl ?_)) | exact j_locR (b1 h (Or.inr c95) (upI_A hP) hF) (by repeat' (first | exact True.intro | refine And.intro rfl ?_)) | exact j_locR (b2 _ (fun z => z.elim c88 (by omega)) hP hF) (by repeat' (first | exact True.intro | refine And.intro rfl ?_))
          · refine j_iload dX4_chooseLine_98 rfl ?_
            refine j_istore (L' := [(5, _), (8, _), (7, _), (4, _), (6, _), (0, _), (1, _), (2, _), (3, _)]) dX4_chooseLine_100 rfl rfl ?_
            refine j_aload_n 0 dX4_chooseLine_102 rfl rfl ?_
            refine j_get fX4_18 dX4_chooseLine_103 hP.1 rfl ?_
            refine j_iload_n 1 dX4_chooseLine_106 rfl rfl ?_
            refine j_iload dX4_chooseLine_107 rfl ?_
            refine J_iastA 2 hP rfl (fun _ => rfl) (fun _ => rfl) dX4_chooseLine_109 (fun h hP hF109 => ?_) 
            have hF := hF.tr hF109
            refine J_iinc (L' := [(6, _), (5, _), (8, _), (7, _), (4, _), (0, _), (1, _), (2, _), (3, _)]) dX4_chooseLine_110 rfl rfl rfl ?_
            refine j_goto 22 dX4_chooseLine_113 (by decide) ?_
            first | exact j_locR (b1 h (Or.inl c88) (upI_A hP) hF) (by repeat' (first | exact True.intro | refine And.intro rfl ?_)) | exact j_locR (b1 h (Or.inr c95) (upI_A hP) hF) (by repeat' (first | exact True.intro | refine And.intro rfl ?_)) | exact j_locR (b2 _ (fun z => z.elim c88 (by omega)) hP hF) (by repeat' (first | exact True.intro | refine And.intro rfl ?_))
      refine j_iload dX4_chooseLine_22 rfl ?_
      refine j_iload_n 2 dX4_chooseLine_24 rfl rfl ?_
      refine J_icmp_gt 116 dX4_chooseLine_25 (by decide) (fun c25 => absurd c25 (by omega)) (fun c25 => ?_) 
      refine j_iload dX4_chooseLine_28 rfl ?_
      refine J_bipush dX4_chooseLine_30 (by decide) ?_
      refine J_icmp_gt 116 dX4_chooseLine_32 (by decide) (fun c32 => absurd c32 (by omega)) (fun c32 => ?_) 
      refine j_iload dX4_chooseLine_35 rfl ?_
      refine j_aload_n 0 dX4_chooseLine_37 rfl rfl ?_
      refine j_get fX4_9 dX4_chooseLine_38 hP.1 rfl ?_
      refine j_iload dX4_chooseLine_41 rfl ?_
      refine J_iconst dX4_chooseLine_43 ?_
      refine J_isub dX4_chooseLine_44 ?_
      rw [e0]
      refine J_iald dX4_chooseLine_45 (hP.2.1 0 rfl) ?_ 
      refine J_top (p.2 0 (first + j)) ?_ (by rfl)
      refine J_iadd dX4_chooseLine_46 ?_
      refine j_istore (L' := [(4, _), (6, _), (5, _), (0, _), (1, _), (2, _), (3, _)]) dX4_chooseLine_47 rfl rfl ?_
      refine j_iload_n 3 dX4_chooseLine_49 rfl rfl ?_
      refine j_iload dX4_chooseLine_50 rfl ?_
      refine J_isub dX4_chooseLine_52 ?_
      refine j_istore (L' := [(7, _), (4, _), (6, _), (5, _), (0, _), (1, _), (2, _), (3, _)]) dX4_chooseLine_53 rfl rfl ?_
      refine j_iload dX4_chooseLine_55 rfl ?_
      refine j_iload_n 2 dX4_chooseLine_57 rfl rfl ?_
      refine J_icmp_ne 70 dX4_chooseLine_58 (by decide) (fun c58 => ?_) (fun c58 => ?_) 
      · refine j_iload dX4_chooseLine_70 rfl ?_
        refine j_iload dX4_chooseLine_72 rfl ?_
        refine J_imul dX4_chooseLine_74 ?_
        refine j_aload_n 0 dX4_chooseLine_75 rfl rfl ?_
        refine j_get fX4_15 dX4_chooseLine_76 hP.1 rfl ?_
        refine j_iload dX4_chooseLine_79 rfl ?_
        refine J_iald dX4_chooseLine_81 (hP.2.1 1 rfl) ?_ 
        refine J_top (p.2 1 (first + j + 1)) ?_ (by rfl)
        refine J_iadd dX4_chooseLine_82 ?_
        refine J_top (chCo (p.2 1) s w (r.1 + p.2 0 (first + j)) (first + j + 1)) ?_ (by unfold chCo; split <;> first | rfl | omega)
        refine j_istore (L' := [(8, _), (7, _), (4, _), (6, _), (5, _), (0, _), (1, _), (2, _), (3, _)]) dX4_chooseLine_83 rfl rfl ?_
        exact j_locR (fin _ rfl) (by repeat' (first | exact True.intro | refine And.intro rfl ?_))
      · refine j_iload dX4_chooseLine_61 rfl ?_
        refine J_if_lt 70 dX4_chooseLine_63 (by decide) (fun c63 => ?_) (fun c63 => ?_) 
        · refine j_iload dX4_chooseLine_70 rfl ?_
          refine j_iload dX4_chooseLine_72 rfl ?_
          refine J_imul dX4_chooseLine_74 ?_
          refine j_aload_n 0 dX4_chooseLine_75 rfl rfl ?_
          refine j_get fX4_15 dX4_chooseLine_76 hP.1 rfl ?_
          refine j_iload dX4_chooseLine_79 rfl ?_
          refine J_iald dX4_chooseLine_81 (hP.2.1 1 rfl) ?_ 
          refine J_top (p.2 1 (first + j + 1)) ?_ (by rfl)
          refine J_iadd dX4_chooseLine_82 ?_
          refine J_top (chCo (p.2 1) s w (r.1 + p.2 0 (first + j)) (first + j + 1)) ?_ (by unfold chCo; split <;> first | rfl | omega)
          refine j_istore (L' := [(8, _), (7, _), (4, _), (6, _), (5, _), (0, _), (1, _), (2, _), (3, _)]) dX4_chooseLine_83 rfl rfl ?_
          exact j_locR (fin _ rfl) (by repeat' (first | exact True.intro | refine And.intro rfl ?_))
        · refine J_iconst dX4_chooseLine_66 ?_
          refine j_goto 75 dX4_chooseLine_67 (by decide) ?_
          refine j_aload_n 0 dX4_chooseLine_75 rfl rfl ?_
          refine j_get fX4_15 dX4_chooseLine_76 hP.1 rfl ?_
          refine j_iload dX4_chooseLine_79 rfl ?_
          refine J_iald dX4_chooseLine_81 (hP.2.1 1 rfl) ?_ 
          refine J_top (p.2 1 (first + j + 1)) ?_ (by rfl)
          refine J_iadd dX4_chooseLine_82 ?_
          refine J_top (chCo (p.2 1) s w (r.1 + p.2 0 (first + j)) (first + j + 1)) ?_ (by unfold chCo; split <;> first | rfl | omega)
          refine j_istore (L' := [(8, _), (7, _), (4, _), (6, _), (5, _), (0, _), (1, _), (2, _), (3, _)]) dX4_chooseLine_83 rfl rfl ?_
          exact j_locR (fin _ rfl) (by repeat' (first | exact True.intro | refine And.intro rfl ?_))
  refine j_body (by decide +kernel) ⟨rfl, rfl⟩ rfl ?_
  refine j_iload_n 1 dX4_chooseLine_0 rfl rfl ?_
  refine J_if_lt 10 dX4_chooseLine_1 (by decide) (fun c1 => absurd c1 (by omega)) (fun c1 => ?_) 
  refine j_iload_n 1 dX4_chooseLine_4 rfl rfl ?_
  refine J_bipush dX4_chooseLine_5 (by decide) ?_
  refine J_icmp_lt 11 dX4_chooseLine_7 (by decide) (fun c7 => ?_) (fun c7 => absurd c7 (by omega)) 
  refine J_iconst dX4_chooseLine_11 ?_
  refine j_istore (L' := [(4, _), (0, _), (1, _), (2, _), (3, _)]) dX4_chooseLine_12 rfl rfl ?_
  refine J_iconst dX4_chooseLine_14 ?_
  refine j_istore (L' := [(5, _), (4, _), (0, _), (1, _), (2, _), (3, _)]) dX4_chooseLine_15 rfl rfl ?_
  refine j_iload_n 1 dX4_chooseLine_17 rfl rfl ?_
  refine J_iconst dX4_chooseLine_18 ?_
  refine J_iadd dX4_chooseLine_19 ?_
  refine j_istore (L' := [(6, _), (5, _), (4, _), (0, _), (1, _), (2, _), (3, _)]) dX4_chooseLine_20 rfl rfl ?_
  exact j_locR (loop (s - first).toNat 0 h (by omega) (by rw [show (chN (p.2 0) (p.2 1) s w first (p.2 2 first) 0).2.2 = p.2 2 first from rfl, upI_id, oA_id]; exact hP) Fr.rf) (by rw [show first + ((0 : Nat) : Int) + 1 = first + 1 by omega]; repeat' (first | exact True.intro | refine And.intro rfl ?_))
