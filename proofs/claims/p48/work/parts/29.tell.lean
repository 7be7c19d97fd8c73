theorem frM_s (cl : Nat) (lc : Int) (n : Nat) (p : OS) : frM cl lc (n + 1) p = if p.1 0 = -1 then frM cl lc n (if cl / 2 ^ (11 - n) % 2 = 1 then fkK cl ((11 - n : Nat) : Int) lc p 4 else p) else p := rfl
/-- the root is told only in range -/
def rtZ (p : OS) : Prop := -1 ≤ p.1 0 ∧ p.1 0 < 12
theorem fkS_rt {cl : Nat} {r lc : Int} {p : OS} {k : Int} (hr : 0 ≤ r ∧ r < 12) (h : rtZ p) : rtZ (fkS cl r lc p k) := by
  unfold fkS
  split
  · show -1 ≤ r ∧ r < 12
    omega
  · exact h
theorem fkK_rt {cl : Nat} {r lc : Int} {p : OS} (hr : 0 ≤ r ∧ r < 12) (h : rtZ p) : ∀ k, rtZ (fkK cl r lc p k)
  | 0 => h
  | k + 1 => fkS_rt hr (fkK_rt hr h k)
def evH (p3 : OS) (m : Int) (k : Nat) : Int := if (0 ≤ m ∧ m < p3.1 3) ∧ 0 ≤ (k : Int) ∧ (k : Int) < 4 then p3.2 1 (m * 4 + k) else -1
def htH (P : Nat → OS) (p3 : OS) (m : Int) (k : Nat) : Int := if inP (P k) (evH p3 m k) then (P k).2 2 (evH p3 m k) else -1
/-- the classes that sound, among the first parts; the lowest height -/
def clsN (H : Nat → Int) : Nat → Nat
  | 0 => 0
  | k + 1 => if H k < 0 then clsN H k else clsN H k ||| 2 ^ (H k % 12).toNat
def lowN (H : Nat → Int) : Nat → Int
  | 0 => -1
  | k + 1 => if H k < 0 then lowN H k else if lowN H k = -1 then H k else min (lowN H k) (H k)
theorem clsN_s (H : Nat → Int) (k : Nat) : clsN H (k + 1) = if H k < 0 then clsN H k else clsN H k ||| 2 ^ (H k % 12).toNat := rfl
theorem lowN_s (H : Nat → Int) (k : Nat) : lowN H (k + 1) = if H k < 0 then lowN H k else if lowN H k = -1 then H k else min (lowN H k) (H k) := rfl
theorem clsN_lt (H : Nat → Int) : ∀ k, clsN H k < 4096
  | 0 => by show (0 : Nat) < 4096; decide
  | k + 1 => by
    rw [clsN_s]
    split
    · exact clsN_lt H k
    · have h1 : (H k % 12).toNat < 12 := by omega
      have h2 : 2 ^ (H k % 12).toNat < 2 ^ 12 := Nat.pow_lt_pow_right (by decide) h1
      exact Nat.or_lt_two_pow (n := 12) (clsN_lt H k) h2
def telP (P : Nat → OS) (p3 : OS) (m : Int) (p : OS) : OS := if popN (clsN (htH P p3 m) 4) = 3 then frM (clsN (htH P p3 m) 4) ((lowN (htH P p3 m) 4).tmod 12) 12 (fgP p) else fgP p
set_option maxRecDepth 100000 in
theorem c_X1_findRoot {l : Launch} {G : jG} {h : jH} {a : Nat} {q : Nat → Nat} {p : OS} {cl : Nat} {lc : Int} (hP : AtX1 G h a q p) (hcl : cl < 4096) (hlc : -1 ≤ lc ∧ lc < 12) (hrt : rtZ p) : jC l G yX1_findRoot mX1_findRoot [.ref a, vI (cl : Int), vI lc] h (jW oN (fun h' => AtX1 G h' a q (frM cl lc 12 p) ∧ Fr (ft AX1 a q) h h')) := by
  obtain ⟨R, hR⟩ : ∃ R, R = frM cl lc 12 p := ⟨_, rfl⟩
  rw [← hR]
  have loop : ∀ (n r : Nat) (p2 : OS) (h2 : jH), r + n = 12 → AtX1 G h2 a q p2 → Fr (ft AX1 a q) h h2 → rtZ p2 → frM cl lc n p2 = R → J l G mX1_findRoot (jQ G mX1_findRoot (jW oN (fun h' => AtX1 G h' a q R ∧ Fr (ft AX1 a q) h h'))) 0 0 2 [(3, vI r), (0, .ref a), (1, vI (cl : Int)), (2, vI lc)] [] h2 := by
    intro n
    induction n with
    | zero =>
      intro r p2 h2 hk hP hF hrt hr
      obtain rfl : r = 12 := by omega
      refine j_iload_n 3 dX1_findRoot_2 rfl rfl ?_
      refine J_bipush dX1_findRoot_3 (by decide) ?_
      refine J_icmp_ge 38 dX1_findRoot_5 (by decide) (fun c5 => ?_) (fun c5 => absurd c5 (by omega)) 
      refine j_vret rfl dX1_findRoot_38 ?_
      exact ⟨rfl, by rw [← hr]; exact hP, hF⟩
    | succ n ih =>
      intro r p2 h2 hk hP hF hrt hr
      have hrt2 : -1 ≤ p2.1 0 ∧ p2.1 0 < 12 := hrt
      obtain rfl : r = 11 - n := by omega
      rw [frM_s] at hr
      have e11 : (((11 - n : Nat) : Int)).toNat = 11 - n := Int.toNat_natCast _
      refine j_iload_n 3 dX1_findRoot_2 rfl rfl ?_
      refine J_bipush dX1_findRoot_3 (by decide) ?_
      refine J_icmp_ge 38 dX1_findRoot_5 (by decide) (fun c5 => absurd c5 (by omega)) (fun c5 => ?_) 
      refine j_aload_n 0 dX1_findRoot_8 rfl rfl ?_
      refine j_get fX1_9 dX1_findRoot_9 hP.1 rfl ?_
      refine J_iconst dX1_findRoot_12 ?_
      refine J_icmp_ne 38 dX1_findRoot_13 (by decide) (fun c13 => ?_) (fun c13 => ?_) 
      · refine j_vret rfl dX1_findRoot_38 ?_
        exact ⟨rfl, by rw [if_neg c13] at hr; rw [← hr]; exact hP, hF⟩
      · refine j_iload_n 1 dX1_findRoot_16 rfl rfl ?_
        refine j_iload_n 3 dX1_findRoot_17 rfl rfl ?_
        refine J_bit dX1_findRoot_18 dX1_findRoot_19 dX1_findRoot_20 ?_
        rw [e11]
        rw [if_pos c13] at hr
        refine J_iconst dX1_findRoot_21 ?_
        refine J_icmp_ne 32 dX1_findRoot_22 (by decide) (fun c22 => ?_) (fun c22 => ?_)
        · refine J_iinc (L' := [(3, _), (0, _), (1, _), (2, _)]) dX1_findRoot_32 rfl rfl rfl ?_
          refine j_goto 2 dX1_findRoot_35 (by decide) ?_
          rw [if_neg (by omega)] at hr
          exact j_locR (ih (11 - n + 1) p2 _ (by omega) hP hF hrt hr) (by repeat' (first | exact True.intro | refine And.intro rfl ?_))
        · refine j_aload_n 0 dX1_findRoot_25 rfl rfl ?_
          refine j_iload_n 1 dX1_findRoot_26 rfl rfl ?_
          refine j_iload_n 3 dX1_findRoot_27 rfl rfl ?_
          refine j_iload_n 2 dX1_findRoot_28 rfl rfl ?_
          refine J_callVW0 kX1_50 cvX1_findKind hP.1 (c_X1_findKind hP hcl (by omega) hlc) rfl rfl rfl rfl rfl dX1_findRoot_29 rfl rfl (fun h hp => ?_)
          obtain ⟨hP, hF9⟩ := hp
          have hF := hF.tr hF9
          refine J_iinc (L' := [(3, _), (0, _), (1, _), (2, _)]) dX1_findRoot_32 rfl rfl rfl ?_
          refine j_goto 2 dX1_findRoot_35 (by decide) ?_
          rw [if_pos (by omega)] at hr
          exact j_locR (ih (11 - n + 1) _ h (by omega) hP hF (fkK_rt (by omega) hrt 4) hr) (by repeat' (first | exact True.intro | refine And.intro rfl ?_))
  refine j_body (by decide +kernel) ⟨rfl, rfl⟩ rfl ?_
  refine J_iconst dX1_findRoot_0 ?_
  refine j_istore_n 3 (L' := [(3, _), (0, _), (1, _), (2, _)]) dX1_findRoot_1 rfl rfl rfl ?_
  exact loop 12 0 p h (by omega) hP Fr.rf hrt hR.symm
theorem htH_rg {P : Nat → OS} {p3 : OS} {m : Int} (hZ : PsZ P) {k : Nat} (hk : k < 4) : -1 ≤ htH P p3 m k ∧ htH P p3 m k ≤ 200 := by
  unfold htH
  split
  · rename_i c
    exact ((hZ k hk).2.1 _ c.1 c.2).2.2.1
  · omega
theorem lowN_rg {H : Nat → Int} (h : ∀ k, k < 4 → -1 ≤ H k ∧ H k ≤ 200) : ∀ k, k ≤ 4 → -1 ≤ lowN H k ∧ lowN H k ≤ 200
  | 0, _ => by simp [lowN]
  | k + 1, hk => by
    have ih := lowN_rg h k (by omega)
    have := h k (by omega)
    rw [lowN_s]
    split
    · exact ih
    · split <;> omega
theorem tel_t {G : jG} {h : jH} {a : Nat} {q : Nat → Nat} {P : Nat → OS} {p3 : OS} {m : Int} {p : OS} {H : Nat → Int} (hH : H = htH P p3 m) (c : ((popN (clsN H 4) : Nat) : Int) = 3) (hP : AtX1 G h a q (frM (clsN H 4) ((lowN H 4).tmod 12) 12 (fgP p))) : AtX1 G h a q (telP P p3 m p) := by
  unfold telP; rw [← hH, if_pos (by omega)]; exact hP
theorem tel_f {G : jG} {h : jH} {a : Nat} {q : Nat → Nat} {P : Nat → OS} {p3 : OS} {m : Int} {p : OS} {H : Nat → Int} (hH : H = htH P p3 m) (c : ¬ ((popN (clsN H 4) : Nat) : Int) = 3) (hP : AtX1 G h a q (fgP p)) : AtX1 G h a q (telP P p3 m p) := by
  unfold telP; rw [← hH, if_neg (by omega)]; exact hP
set_option maxRecDepth 100000 in
theorem c_X1_tell {l : Launch} {G : jG} {h : jH} {a : Nat} {q : Nat → Nat} {p : OS} {pa : Nat} {pad : Nat → Nat} {pq : Nat → Nat → Nat} {P : Nat → OS} {a3 : Nat} {q3 : Nat → Nat} {p3 : OS} {m : Int} (hP : AtX1 G h a q p) (hPs : PartsAt G h pa pad pq P) (hZ : PsZ P) (hP3 : AtX3 G h a3 q3 p3) (hn3 : hN p3) (hm : rg m) (hE : ∀ k : Nat, k < 4 → rg (evH p3 m k)) : jC l G yX1_tell mX1_tell [.ref a, .ref pa, .ref a3, vI m] h (jW oN (fun h' => AtX1 G h' a q (telP P p3 m p) ∧ Fr (ft AX1 a q) h h')) := by
  obtain ⟨H, hH⟩ : ∃ H, H = htH P p3 m := ⟨_, rfl⟩
  have hHr : ∀ k, k < 4 → -1 ≤ H k ∧ H k ≤ 200 := fun k hk => by rw [hH]; exact htH_rg hZ hk
  have hlow := lowN_rg hHr 4 (by omega)
  obtain ⟨⟨F, hpa, hF4⟩, hP6⟩ := hPs
  have loop : ∀ (n k : Nat), k + n = 4 → J l G mX1_tell (jQ G mX1_tell (jW oN (fun h' => AtX1 G h' a q (telP P p3 m p) ∧ Fr (ft AX1 a q) h h'))) 0 0 9 [(6, vI k), (5, vI (lowN H k)), (4, vI (clsN H k : Int)), (0, .ref a), (1, .ref pa), (2, .ref a3), (3, vI m)] [] h := by
    intro n
    induction n with
    | zero =>
      intro k hk
      obtain rfl : k = 4 := by omega
      have hc4 := clsN_lt H 4
      have hlt := tmod_pos_rg (x := lowN H 4) (y := 12) (by decide) (by decide)
      have hlb : -1 ≤ (lowN H 4).tmod 12 ∧ (lowN H 4).tmod 12 < 12 := by
        by_cases c : lowN H 4 = -1
        · rw [c]; decide
        · rw [Int.tmod_eq_emod_of_nonneg (by omega)]; omega
      have hpop : popN (clsN H 4) < 100 := by
        have : ∀ m : Fin 64, ∀ n : Fin 64, popN (64 * m.val + n.val) < 100 := by decide +kernel
        have e := this ⟨clsN H 4 / 64, by omega⟩ ⟨clsN H 4 % 64, by omega⟩
        have e1 : 64 * (clsN H 4 / 64) + clsN H 4 % 64 = clsN H 4 := by omega
        simp only [e1] at e
        exact e
      refine j_iload dX1_tell_9 rfl ?_
      refine j_aload_n 1 dX1_tell_11 rfl rfl ?_
      refine J_alenq 3 dX1_tell_12 hpa rfl ?_
      refine J_icmp_ge 75 dX1_tell_13 (by decide) (fun c13 => ?_) (fun c13 => absurd c13 (by omega)) 
      refine j_aload_n 0 dX1_tell_75 rfl rfl ?_
      refine J_callVW0 kX1_38 cvX1_forget hP.1 (c_X1_forget hP) rfl rfl rfl rfl rfl dX1_tell_76 rfl rfl (fun h hp => ?_)
      obtain ⟨hP, hF9⟩ := hp
      refine j_iload dX1_tell_79 rfl ?_
      refine J_callS1 kX1_41 csJ6_bitCount_0f7a4 (c_J6_bitCount_0f7a4 hc4) rfl rfl rfl rfl rfl dX1_tell_81 rfl rfl ?_
      refine J_iconst dX1_tell_84 ?_
      refine J_icmp_ne 99 dX1_tell_85 (by decide) (fun c85 => ?_) (fun c85 => ?_) 
      · refine j_vret rfl dX1_tell_99 ?_
        exact ⟨rfl, by first | exact tel_t hH (by omega) hP | exact tel_f hH (by omega) hP, hF9⟩
      · refine j_aload_n 0 dX1_tell_88 rfl rfl ?_
        refine j_iload dX1_tell_89 rfl ?_
        refine j_iload dX1_tell_91 rfl ?_
        refine J_bipush dX1_tell_93 (by decide) ?_
        refine J_irem dX1_tell_95 ?_ 
        refine J_callVW0 kX1_46 cvX1_findRoot hP.1 (c_X1_findRoot hP hc4 hlb (by unfold rtZ fgP; simp [oU])) rfl rfl rfl rfl rfl dX1_tell_96 rfl rfl (fun h hp => ?_)
        obtain ⟨hP, hF8⟩ := hp
        have hF9 := hF9.tr hF8
        refine j_vret rfl dX1_tell_99 ?_
        exact ⟨rfl, by first | exact tel_t hH (by omega) hP | exact tel_f hH (by omega) hP, hF9⟩
    | succ n ih =>
      intro k hk
      have hk4 : k < 4 := by omega
      have hPk := hP6 k hk4
      have hZk := hZ k hk4
      have hFk : F ((k : Int)).toNat = some (pad k) := by rw [Int.toNat_natCast]; exact hF4 k hk4
      have hHk := hHr k hk4
      have hlk := lowN_rg hHr k (by omega)
      have hek := hE k hk4
      refine j_iload dX1_tell_9 rfl ?_
      refine j_aload_n 1 dX1_tell_11 rfl rfl ?_
      refine J_alenq 3 dX1_tell_12 hpa rfl ?_
      refine J_icmp_ge 75 dX1_tell_13 (by decide) (fun c13 => absurd c13 (by omega)) (fun c13 => ?_) 
      refine j_aload_n 1 dX1_tell_16 rfl rfl ?_
      refine j_iload dX1_tell_17 rfl ?_
      refine J_qald dX1_tell_19 hpa hFk ?_ 
      refine j_aload_n 2 dX1_tell_20 rfl rfl ?_
      refine j_iload_n 3 dX1_tell_21 rfl rfl ?_
      refine j_iload dX1_tell_22 rfl ?_
      refine J_callV1 kX1_21 cvX3_eventAt hP3.1 (c_X3_eventAt hP3 hn3 hm (by omega)) rfl rfl rfl rfl rfl dX1_tell_24 rfl rfl ?_
      refine J_top (evH p3 m k) ?_ (by rfl)
      refine J_callV1 kX1_27 cvX6_heightAt hPk.1 (c_X6_heightAt hPk hZk.1 hek) rfl rfl rfl rfl rfl dX1_tell_27 rfl rfl ?_
      refine J_top (H k) ?_ (by (rw [hH]; rfl))
      refine j_istore (L' := [(7, _), (6, _), (5, _), (4, _), (0, _), (1, _), (2, _), (3, _)]) dX1_tell_30 rfl rfl ?_
      refine j_iload dX1_tell_32 rfl ?_
      refine J_if_lt 69 dX1_tell_34 (by decide) (fun c34 => ?_) (fun c34 => ?_) 
      · refine J_iinc (L' := [(6, _), (7, _), (5, _), (4, _), (0, _), (1, _), (2, _), (3, _)]) dX1_tell_69 rfl rfl rfl ?_
        refine j_goto 9 dX1_tell_72 (by decide) ?_
        have ihk := ih (k + 1) (by omega)
        rw [clsN_s, lowN_s] at ihk
        first | rw [if_pos c34, if_pos c34] at ihk | rw [if_neg (show ¬ H k < 0 by omega), if_neg (show ¬ H k < 0 by omega), if_pos c52] at ihk | rw [if_neg (show ¬ H k < 0 by omega), if_neg (show ¬ H k < 0 by omega), if_neg c52] at ihk
        exact j_locR ihk (by repeat' (first | exact True.intro | refine And.intro rfl ?_))
      · refine j_iload dX1_tell_37 rfl ?_
        refine J_iconst dX1_tell_39 ?_
        refine j_iload dX1_tell_40 rfl ?_
        refine J_bipush dX1_tell_42 (by decide) ?_
        refine J_irem dX1_tell_44 ?_ 
        refine J_top (H k % 12) ?_ (by (rw [Int.tmod_eq_emod_of_nonneg (by omega)]))
        refine J_ishl dX1_tell_45 ?_ 
        refine J_ior dX1_tell_46 ?_ 
        refine j_istore (L' := [(4, _), (7, _), (6, _), (5, _), (0, _), (1, _), (2, _), (3, _)]) dX1_tell_47 rfl rfl ?_
        refine j_iload dX1_tell_49 rfl ?_
        refine J_iconst dX1_tell_51 ?_
        refine J_icmp_ne 60 dX1_tell_52 (by decide) (fun c52 => ?_) (fun c52 => ?_) 
        · refine j_iload dX1_tell_60 rfl ?_
          refine j_iload dX1_tell_62 rfl ?_
          refine J_mmin kX1_33 rfl rfl dX1_tell_64 ?_ 
          refine j_istore (L' := [(5, _), (4, _), (7, _), (6, _), (0, _), (1, _), (2, _), (3, _)]) dX1_tell_67 rfl rfl ?_
          refine J_iinc (L' := [(6, _), (5, _), (4, _), (7, _), (0, _), (1, _), (2, _), (3, _)]) dX1_tell_69 rfl rfl rfl ?_
          refine j_goto 9 dX1_tell_72 (by decide) ?_
          have ihk := ih (k + 1) (by omega)
          rw [clsN_s, lowN_s] at ihk
          first | rw [if_pos c34, if_pos c34] at ihk | rw [if_neg (show ¬ H k < 0 by omega), if_neg (show ¬ H k < 0 by omega), if_pos c52] at ihk | rw [if_neg (show ¬ H k < 0 by omega), if_neg (show ¬ H k < 0 by omega), if_neg c52] at ihk
          exact j_locR ihk (by repeat' (first | exact True.intro | refine And.intro rfl ?_))
        · refine j_iload dX1_tell_55 rfl ?_
          refine j_goto 67 dX1_tell_57 (by decide) ?_
          refine j_istore (L' := [(5, _), (4, _), (7, _), (6, _), (0, _), (1, _), (2, _), (3, _)]) dX1_tell_67 rfl rfl ?_
          refine J_iinc (L' := [(6, _), (5, _), (4, _), (7, _), (0, _), (1, _), (2, _), (3, _)]) dX1_tell_69 rfl rfl rfl ?_
          refine j_goto 9 dX1_tell_72 (by decide) ?_
          have ihk := ih (k + 1) (by omega)
          rw [clsN_s, lowN_s] at ihk
          first | rw [if_pos c34, if_pos c34] at ihk | rw [if_neg (show ¬ H k < 0 by omega), if_neg (show ¬ H k < 0 by omega), if_pos c52] at ihk | rw [if_neg (show ¬ H k < 0 by omega), if_neg (show ¬ H k < 0 by omega), if_neg c52] at ihk
          exact j_locR ihk (by repeat' (first | exact True.intro | refine And.intro rfl ?_))
  refine j_body (by decide +kernel) ⟨rfl, rfl⟩ rfl ?_
  refine J_iconst dX1_tell_0 ?_
  refine j_istore (L' := [(4, _), (0, _), (1, _), (2, _), (3, _)]) dX1_tell_1 rfl rfl ?_
  refine J_iconst dX1_tell_3 ?_
  refine j_istore (L' := [(5, _), (4, _), (0, _), (1, _), (2, _), (3, _)]) dX1_tell_4 rfl rfl ?_
  refine J_iconst dX1_tell_6 ?_
  refine j_istore (L' := [(6, _), (5, _), (4, _), (0, _), (1, _), (2, _), (3, _)]) dX1_tell_7 rfl rfl ?_
  exact loop 4 0 (by omega)
