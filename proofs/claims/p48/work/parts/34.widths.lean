/-- the moments of one bar that ends at e: moment, width, last tick -/
def msrM (T : Int → Int) (e : Int) : Nat → Int → Int → Int → Int × Int × Int
  | 0, m, w, l => (m, w, l)
  | n + 1, m, w, l => if T m < e then (if l < T m then msrM T e n (m + 1) (w + gapW (T m - l)) (T m) else msrM T e n (m + 1) w l) else (m, w, l)
def msrB (K : Int → Int) (k : Int) : Int := 3 + (((K k).natAbs : Int) + 3).tdiv 4
/-- the first bars: moment and widths -/
def msr (L K T : Int → Int) (cnt : Int) (F : Int → Int) : Nat → Int × (Int → Int)
  | 0 => (0, F)
  | k + 1 => let s := msr L K T cnt F k
    let r := msrM T (sumN L k + L k) (cnt - s.1).toNat s.1 (msrB K k) (sumN L k)
    (r.1, upI s.2 k (r.2.1 + gapW (sumN L k + L k - r.2.2)))
theorem msrM_rg {T : Int → Int} {e : Int} : ∀ (n : Nat) (m w l : Int), (l ≤ (msrM T e n m w l).2.2 ∧ (l < e → (msrM T e n m w l).2.2 < e)) ∧ m ≤ (msrM T e n m w l).1 ∧ (msrM T e n m w l).1 ≤ m + n
  | 0, m, w, l => ⟨⟨Int.le_refl _, fun h => h⟩, Int.le_refl _, by simp [msrM]⟩
  | n + 1, m, w, l => by
    unfold msrM
    split
    · rename_i c
      split
      · have ih := msrM_rg (T := T) (e := e) n (m + 1) (w + gapW (T m - l)) (T m)
        refine ⟨⟨by omega, fun _ => ih.1.2 c⟩, by omega, by omega⟩
      · have ih := msrM_rg (T := T) (e := e) n (m + 1) w l
        refine ⟨⟨by omega, ih.1.2⟩, by omega, by omega⟩
    · exact ⟨⟨Int.le_refl _, fun h => h⟩, Int.le_refl _, by show m ≤ m + ((n + 1 : Nat) : Int); omega⟩
theorem msr_rg {L K T : Int → Int} {cnt : Int} {F : Int → Int} (h0 : 0 ≤ cnt) : ∀ k : Nat, 0 ≤ (msr L K T cnt F k).1 ∧ (msr L K T cnt F k).1 ≤ cnt
  | 0 => ⟨Int.le_refl _, h0⟩
  | k + 1 => by
    have ih := msr_rg (L := L) (K := K) (T := T) (cnt := cnt) (F := F) h0 k
    have e := msrM_rg (T := T) (e := sumN L k + L k) (cnt - (msr L K T cnt F k).1).toNat (msr L K T cnt F k).1 (msrB K k) (sumN L k)
    show 0 ≤ (msrM T (sumN L k + L k) (cnt - (msr L K T cnt F k).1).toNat (msr L K T cnt F k).1 (msrB K k) (sumN L k)).1 ∧ _ ≤ _
    constructor
    · omega
    · show (msrM T (sumN L k + L k) (cnt - (msr L K T cnt F k).1).toNat (msr L K T cnt F k).1 (msrB K k) (sumN L k)).1 ≤ cnt
      omega
set_option maxRecDepth 100000 in
theorem c_X4_measureWidths {l : Launch} {G : jG} {h : jH} {a : Nat} {q : Nat → Nat} {p : OS} {a0 : Nat} {q0 : Nat → Nat} {p0 : OS} {a3 : Nat} {q3 : Nat → Nat} {p3 : OS} (hP : AtX4 G h a q p) (hP0 : AtX0 G h a0 q0 p0) (hL : lenZ (p0.2 2)) (hK : ∀ i : Int, 0 ≤ i → i < 24 → -7 ≤ p0.2 3 i ∧ p0.2 3 i ≤ 7) (hP3 : AtX3 G h a3 q3 p3) (hn3 : hN p3) (hT : ∀ i : Int, 0 ≤ i → i < p3.1 3 → 0 ≤ p3.2 0 i ∧ p3.2 0 i ≤ 20000)
    (hd0 : ∀ b, ft AX0 a0 q0 b → ¬ ft AX4 a q b) (hd3 : ∀ b, ft AX3 a3 q3 b → ¬ ft AX4 a q b) : jC l G yX4_measureWidths mX4_measureWidths [.ref a, .ref a0, .ref a3] h (jW oN (fun h' => AtX4 G h' a q (oA p 0 (msr (p0.2 2) (p0.2 3) (p3.2 0) (p3.1 3) (p.2 0) 24).2) ∧ Fr (ft AX4 a q) h h')) := by
  have hn := hn3
  unfold hN at hn
  have loop : ∀ (n k : Nat) (h2 : jH), k + n = 24 → AtX4 G h2 a q (oA p 0 (msr (p0.2 2) (p0.2 3) (p3.2 0) (p3.1 3) (p.2 0) k).2) → Fr (ft AX4 a q) h h2 → AtX0 G h2 a0 q0 p0 → AtX3 G h2 a3 q3 p3 → J l G mX4_measureWidths (jQ G mX4_measureWidths (jW oN (fun h' => AtX4 G h' a q (oA p 0 (msr (p0.2 2) (p0.2 3) (p3.2 0) (p3.1 3) (p.2 0) 24).2) ∧ Fr (ft AX4 a q) h h'))) 0 0 5 [(4, vI (k : Int)), (3, vI (msr (p0.2 2) (p0.2 3) (p3.2 0) (p3.1 3) (p.2 0) k).1), (0, .ref a), (1, .ref a0), (2, .ref a3)] [] h2 := by
    intro n
    induction n with
    | zero =>
      intro k h2 hk hP hF hP0 hP3
      obtain rfl : k = 24 := by omega
      refine j_iload dX4_measureWidths_5 rfl ?_
      refine J_bipush dX4_measureWidths_7 (by decide) ?_
      refine J_icmp_ge 127 dX4_measureWidths_9 (by decide) (fun c9 => ?_) (fun c9 => absurd c9 (by omega)) 
      refine j_vret rfl dX4_measureWidths_127 ?_
      exact ⟨rfl, hP, hF⟩
    | succ n ih =>
      intro k h2 hk hP hF hP0 hP3
      have hk4 : k < 24 := by omega
      have hS := lenZ_sum hL k (by omega)
      have hLk := hL k (by omega) (by omega)
      have hKk := hK k (by omega) (by omega)
      have hm := msr_rg (L := p0.2 2) (K := p0.2 3) (T := p3.2 0) (cnt := p3.1 3) (F := p.2 0) hn.1 k
      have hr := msrM_rg (T := p3.2 0) (e := sumN (p0.2 2) k + p0.2 2 k) (p3.1 3 - (msr (p0.2 2) (p0.2 3) (p3.2 0) (p3.1 3) (p.2 0) k).1).toNat (msr (p0.2 2) (p0.2 3) (p3.2 0) (p3.1 3) (p.2 0) k).1 (msrB (p0.2 3) k) (sumN (p0.2 2) k)
      have hE : (msr (p0.2 2) (p0.2 3) (p3.2 0) (p3.1 3) (p.2 0) (k + 1)) = ((msrM (p3.2 0) (sumN (p0.2 2) k + p0.2 2 k) (p3.1 3 - (msr (p0.2 2) (p0.2 3) (p3.2 0) (p3.1 3) (p.2 0) k).1).toNat (msr (p0.2 2) (p0.2 3) (p3.2 0) (p3.1 3) (p.2 0) k).1 (msrB (p0.2 3) k) (sumN (p0.2 2) k)).1, upI (msr (p0.2 2) (p0.2 3) (p3.2 0) (p3.1 3) (p.2 0) k).2 k ((msrM (p3.2 0) (sumN (p0.2 2) k + p0.2 2 k) (p3.1 3 - (msr (p0.2 2) (p0.2 3) (p3.2 0) (p3.1 3) (p.2 0) k).1).toNat (msr (p0.2 2) (p0.2 3) (p3.2 0) (p3.1 3) (p.2 0) k).1 (msrB (p0.2 3) k) (sumN (p0.2 2) k)).2.1 + gapW (sumN (p0.2 2) k + p0.2 2 k - (msrM (p3.2 0) (sumN (p0.2 2) k + p0.2 2 k) (p3.1 3 - (msr (p0.2 2) (p0.2 3) (p3.2 0) (p3.1 3) (p.2 0) k).1).toNat (msr (p0.2 2) (p0.2 3) (p3.2 0) (p3.1 3) (p.2 0) k).1 (msrB (p0.2 3) k) (sumN (p0.2 2) k)).2.2))) := rfl
      obtain ⟨s, hs⟩ : ∃ s, s = (msr (p0.2 2) (p0.2 3) (p3.2 0) (p3.1 3) (p.2 0) k) := ⟨_, rfl⟩
      obtain ⟨b, hb⟩ : ∃ b, b = sumN (p0.2 2) k := ⟨_, rfl⟩
      obtain ⟨ln, hln⟩ : ∃ ln, ln = p0.2 2 k := ⟨_, rfl⟩
      rw [← hs] at hE hP hm hr
      rw [← hb, ← hln] at hE hr
      rw [← hb] at hS
      rw [← hln] at hLk
      obtain ⟨r, hrr⟩ : ∃ r, r = msrM (p3.2 0) (b + ln) (p3.1 3 - s.1).toNat s.1 (msrB (p0.2 3) k) b := ⟨_, rfl⟩
      rw [← hrr] at hE hr
      have fin : J l G mX4_measureWidths (jQ G mX4_measureWidths (jW oN (fun h' => AtX4 G h' a q (oA p 0 (msr (p0.2 2) (p0.2 3) (p3.2 0) (p3.1 3) (p.2 0) 24).2) ∧ Fr (ft AX4 a q) h h'))) 0 0 103 [(7, vI r.2.1), (6, vI (b + ln)), (5, vI r.2.2), (4, vI (k : Int)), (3, vI r.1), (0, .ref a), (1, .ref a0), (2, .ref a3)] [] h2 := by
        refine j_aload_n 0 dX4_measureWidths_103 rfl rfl ?_
        refine j_get fX4_9 dX4_measureWidths_104 hP.1 rfl ?_
        refine j_iload dX4_measureWidths_107 rfl ?_
        refine j_iload dX4_measureWidths_109 rfl ?_
        refine j_iload dX4_measureWidths_111 rfl ?_
        refine j_iload dX4_measureWidths_113 rfl ?_
        refine J_isub dX4_measureWidths_115 ?_
        refine J_callS1 kX4_54 csX4_widthOfGap (c_X4_widthOfGap (by omega)) rfl rfl rfl rfl rfl dX4_measureWidths_116 rfl rfl ?_
        refine J_iadd dX4_measureWidths_119 ?_
        refine J_iastA 0 hP rfl (fun _ => rfl) (fun _ => rfl) dX4_measureWidths_120 (fun h hP hF120 => ?_) 
        have hF := hF.tr hF120
        have hP0 := hP0.keep hF120 hd0
        have hP3 := hP3.keep hF120 hd3
        refine J_iinc (L' := [(4, _), (7, _), (6, _), (5, _), (3, _), (0, _), (1, _), (2, _)]) dX4_measureWidths_121 rfl rfl rfl ?_
        refine j_goto 5 dX4_measureWidths_124 (by decide) ?_
        have g := ih (k + 1) h (by omega) (by rw [hE]; rw [oA_oA] at hP; exact hP) hF hP0 hP3
        rw [hE] at g
        exact j_locR g (by repeat' (first | exact True.intro | refine And.intro rfl ?_))
      have inner : ∀ (n : Nat) (m w l0 : Int), m + n = p3.1 3 → 0 ≤ m → 0 ≤ l0 → l0 < b + ln → msrM (p3.2 0) (b + ln) n m w l0 = r → J l G mX4_measureWidths (jQ G mX4_measureWidths (jW oN (fun h' => AtX4 G h' a q (oA p 0 (msr (p0.2 2) (p0.2 3) (p3.2 0) (p3.1 3) (p.2 0) 24).2) ∧ Fr (ft AX4 a q) h h'))) 0 0 48 [(7, vI w), (6, vI (b + ln)), (5, vI l0), (4, vI (k : Int)), (3, vI m), (0, .ref a), (1, .ref a0), (2, .ref a3)] [] h2 := by
        intro n
        induction n with
        | zero =>
          intro m w l0 hmn h0 hl0 hle he
          rw [← he] at fin
          refine j_iload_n 3 dX4_measureWidths_48 rfl rfl ?_
          refine j_aload_n 2 dX4_measureWidths_49 rfl rfl ?_
          refine J_callV1 kX4_45 cvX3_size hP3.1 (c_X3_size hP3) rfl rfl rfl rfl rfl dX4_measureWidths_50 rfl rfl ?_
          refine J_icmp_ge 103 dX4_measureWidths_53 (by decide) (fun c53 => ?_) (fun c53 => absurd c53 (by omega)) 
          exact fin
        | succ n ih2 =>
          intro m w l0 hmn h0 hl0 hle he
          have hTm := hT m h0 (by omega)
          have hee : msrM (p3.2 0) (b + ln) (n + 1) m w l0 = if p3.2 0 m < b + ln then (if l0 < p3.2 0 m then msrM (p3.2 0) (b + ln) n (m + 1) (w + gapW (p3.2 0 m - l0)) (p3.2 0 m) else msrM (p3.2 0) (b + ln) n (m + 1) w l0) else (m, w, l0) := rfl
          rw [hee] at he
          refine j_iload_n 3 dX4_measureWidths_48 rfl rfl ?_
          refine j_aload_n 2 dX4_measureWidths_49 rfl rfl ?_
          refine J_callV1 kX4_45 cvX3_size hP3.1 (c_X3_size hP3) rfl rfl rfl rfl rfl dX4_measureWidths_50 rfl rfl ?_
          refine J_icmp_ge 103 dX4_measureWidths_53 (by decide) (fun c53 => absurd c53 (by omega)) (fun c53 => ?_) 
          refine j_aload_n 2 dX4_measureWidths_56 rfl rfl ?_
          refine j_iload_n 3 dX4_measureWidths_57 rfl rfl ?_
          refine J_callV1 kX4_51 cvX3_tickAt hP3.1 (c_X3_tickAt hP3 hn3 (by omega)) rfl rfl rfl rfl rfl dX4_measureWidths_58 rfl rfl ?_
          refine J_top (p3.2 0 m) ?_ (by exact if_pos ⟨h0, by omega⟩)
          refine j_iload dX4_measureWidths_61 rfl ?_
          refine J_icmp_ge 103 dX4_measureWidths_63 (by decide) (fun c63 => ?_) (fun c63 => ?_) 
          · rw [if_neg (by omega)] at he
            rw [← he] at fin
            exact fin
          · refine j_aload_n 2 dX4_measureWidths_66 rfl rfl ?_
            refine j_iload_n 3 dX4_measureWidths_67 rfl rfl ?_
            refine J_callV1 kX4_51 cvX3_tickAt hP3.1 (c_X3_tickAt hP3 hn3 (by omega)) rfl rfl rfl rfl rfl dX4_measureWidths_68 rfl rfl ?_
            refine J_top (p3.2 0 m) ?_ (by exact if_pos ⟨h0, by omega⟩)
            refine j_istore (L' := [(8, _), (7, _), (6, _), (5, _), (4, _), (3, _), (0, _), (1, _), (2, _)]) dX4_measureWidths_71 rfl rfl ?_
            refine j_iload dX4_measureWidths_73 rfl ?_
            refine j_iload dX4_measureWidths_75 rfl ?_
            refine J_icmp_le 97 dX4_measureWidths_77 (by decide) (fun c77 => ?_) (fun c77 => ?_) 
            · refine J_iinc (L' := [(3, _), (8, _), (7, _), (6, _), (5, _), (4, _), (0, _), (1, _), (2, _)]) dX4_measureWidths_97 rfl rfl rfl ?_
              refine j_goto 48 dX4_measureWidths_100 (by decide) ?_
              first | exact j_locR (ih2 (m + 1) (w + gapW (p3.2 0 m - l0)) (p3.2 0 m) (by omega) (by omega) (by omega) (by omega) (by rw [if_pos c63, if_pos c77] at he; exact he)) (by repeat' (first | exact True.intro | refine And.intro rfl ?_)) | exact j_locR (ih2 (m + 1) w l0 (by omega) (by omega) (by omega) (by omega) (by rw [if_pos c63, if_neg (by omega)] at he; exact he)) (by repeat' (first | exact True.intro | refine And.intro rfl ?_))
            · refine j_iload dX4_measureWidths_80 rfl ?_
              refine j_iload dX4_measureWidths_82 rfl ?_
              refine j_iload dX4_measureWidths_84 rfl ?_
              refine J_isub dX4_measureWidths_86 ?_
              refine J_callS1 kX4_54 csX4_widthOfGap (c_X4_widthOfGap (by omega)) rfl rfl rfl rfl rfl dX4_measureWidths_87 rfl rfl ?_
              refine J_iadd dX4_measureWidths_90 ?_
              refine j_istore (L' := [(7, _), (8, _), (6, _), (5, _), (4, _), (3, _), (0, _), (1, _), (2, _)]) dX4_measureWidths_91 rfl rfl ?_
              refine j_iload dX4_measureWidths_93 rfl ?_
              refine j_istore (L' := [(5, _), (7, _), (8, _), (6, _), (4, _), (3, _), (0, _), (1, _), (2, _)]) dX4_measureWidths_95 rfl rfl ?_
              refine J_iinc (L' := [(3, _), (5, _), (7, _), (8, _), (6, _), (4, _), (0, _), (1, _), (2, _)]) dX4_measureWidths_97 rfl rfl rfl ?_
              refine j_goto 48 dX4_measureWidths_100 (by decide) ?_
              first | exact j_locR (ih2 (m + 1) (w + gapW (p3.2 0 m - l0)) (p3.2 0 m) (by omega) (by omega) (by omega) (by omega) (by rw [if_pos c63, if_pos c77] at he; exact he)) (by repeat' (first | exact True.intro | refine And.intro rfl ?_)) | exact j_locR (ih2 (m + 1) w l0 (by omega) (by omega) (by omega) (by omega) (by rw [if_pos c63, if_neg (by omega)] at he; exact he)) (by repeat' (first | exact True.intro | refine And.intro rfl ?_))
      rw [← hs]
      refine j_iload dX4_measureWidths_5 rfl ?_
      refine J_bipush dX4_measureWidths_7 (by decide) ?_
      refine J_icmp_ge 127 dX4_measureWidths_9 (by decide) (fun c9 => absurd c9 (by omega)) (fun c9 => ?_) 
      refine j_aload_n 1 dX4_measureWidths_12 rfl rfl ?_
      refine j_iload dX4_measureWidths_13 rfl ?_
      refine J_callV1 kX4_28 cvX0_beginAt hP0.1 (c_X0_beginAt hP0 (by omega)) rfl rfl rfl rfl rfl dX4_measureWidths_15 rfl rfl ?_
      refine J_top (b) ?_ (by (rw [hb]; rw [show (min (k : Int) 24).toNat = k by omega]))
      refine j_istore (L' := [(5, _), (4, _), (3, _), (0, _), (1, _), (2, _)]) dX4_measureWidths_18 rfl rfl ?_
      refine j_iload dX4_measureWidths_20 rfl ?_
      refine j_aload_n 1 dX4_measureWidths_22 rfl rfl ?_
      refine j_iload dX4_measureWidths_23 rfl ?_
      refine J_callV1 kX4_34 cvX0_lengthAt hP0.1 (c_X0_lengthAt hP0 (by omega)) rfl rfl rfl rfl rfl dX4_measureWidths_25 rfl rfl ?_
      refine J_top (ln) ?_ (by (rw [hln]; exact if_pos ⟨by omega, by omega⟩))
      refine J_iadd dX4_measureWidths_28 ?_
      refine j_istore (L' := [(6, _), (5, _), (4, _), (3, _), (0, _), (1, _), (2, _)]) dX4_measureWidths_29 rfl rfl ?_
      refine J_iconst dX4_measureWidths_31 ?_
      refine j_aload_n 1 dX4_measureWidths_32 rfl rfl ?_
      refine j_iload dX4_measureWidths_33 rfl ?_
      refine J_callV1 kX4_37 cvX0_keyAt hP0.1 (c_X0_keyAt hP0 (by omega)) rfl rfl rfl rfl rfl dX4_measureWidths_35 rfl rfl ?_
      refine J_top (p0.2 3 k) ?_ (by exact if_pos ⟨by omega, by omega⟩)
      refine J_mabs kX4_40 rfl rfl dX4_measureWidths_38 ?_ 
      refine J_iconst dX4_measureWidths_41 ?_
      refine J_iadd dX4_measureWidths_42 ?_
      refine J_iconst dX4_measureWidths_43 ?_
      refine J_idiv dX4_measureWidths_44 ?_ 
      refine J_iadd dX4_measureWidths_45 ?_
      refine j_istore (L' := [(7, _), (6, _), (5, _), (4, _), (3, _), (0, _), (1, _), (2, _)]) dX4_measureWidths_46 rfl rfl ?_
      exact inner (p3.1 3 - s.1).toNat s.1 (msrB (p0.2 3) k) b (by omega) (by omega) (by omega) (by omega) hrr.symm
  refine j_body (by decide +kernel) ⟨rfl, rfl⟩ rfl ?_
  refine J_iconst dX4_measureWidths_0 ?_
  refine j_istore_n 3 (L' := [(3, _), (0, _), (1, _), (2, _)]) dX4_measureWidths_1 rfl rfl rfl ?_
  refine J_iconst dX4_measureWidths_2 ?_
  refine j_istore (L' := [(4, _), (3, _), (0, _), (1, _), (2, _)]) dX4_measureWidths_3 rfl rfl ?_
  exact loop 24 0 h (by omega) (by rw [show (msr (p0.2 2) (p0.2 3) (p3.2 0) (p3.1 3) (p.2 0) 0).2 = p.2 0 from rfl, oA_id]; exact hP) Fr.rf hP0 hP3
