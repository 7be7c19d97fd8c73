theorem lisK_s (P : Nat → OS) (t m : Int) (p : OS) (k : Nat) : lisK P t m p (k + 1) = oA (oA (lisK P t m p k) 2 (upI ((lisK P t m p k).2 2) k (egN (P k) ((lisK P t m p k).2 2 k) t))) 1 (upI ((lisK P t m p k).2 1) (m * 4 + k) (egE (P k) (egN (P k) ((lisK P t m p k).2 2 k) t) t)) := rfl
theorem lisM_s (P : Nat → OS) (n : Nat) (m : Int) (p : OS) : lisM P (n + 1) m p = if nbF P (p.2 2) 4 = -1 then p else lisM P n (m + 1) (lisK P (nbF P (p.2 2) 4) m (oU (oA p 0 (upI (p.2 0) m (nbF P (p.2 2) 4))) 3 (m + 1)) 4) := rfl
/-- the numbers begun so far are in range -/
def bgZ (p : OS) : Prop := ∀ k : Nat, k < 4 → 0 ≤ p.2 2 k ∧ p.2 2 k ≤ 512
theorem bgZ_up {p : OS} {k : Nat} {x : Int} {F : Int → Int} (hb : bgZ p) (hx : 0 ≤ x ∧ x ≤ 512) : bgZ (oA (oA p 2 (upI (p.2 2) k x)) 1 F) := by
  intro j hj
  show 0 ≤ upI (p.2 2) k x j ∧ upI (p.2 2) k x j ≤ 512
  unfold upI
  split
  · exact hx
  · exact hb j hj
set_option maxRecDepth 100000 in
theorem c_X3_listen {l : Launch} {G : jG} {h : jH} {a : Nat} {q : Nat → Nat} {p : OS} {pa : Nat} {pad : Nat → Nat} {pq : Nat → Nat → Nat} {P : Nat → OS} (hP : AtX3 G h a q p) (hPs : PartsAt G h pa pad pq P) (hZ : PsZ P) (hdis : ∀ b, ftP pa pad pq b → ¬ ft AX3 a q b) : jC l G yX3_listen mX3_listen [.ref a, .ref pa] h (jW oN (fun h' => AtX3 G h' a q (listenP P p) ∧ Fr (ft AX3 a q) h h')) := by
  obtain ⟨R, hR⟩ : ∃ R, R = listenP P p := ⟨_, rfl⟩
  rw [← hR]
  have outer : ∀ (n m : Nat) (r : OS) (h2 : jH), m + n = 512 → AtX3 G h2 a q r → Fr (ft AX3 a q) h h2 → PartsAt G h2 pa pad pq P → bgZ r → lisM P n m r = R → J l G mX3_listen (jQ G mX3_listen (jW oN (fun h' => AtX3 G h' a q (R) ∧ Fr (ft AX3 a q) h h'))) 0 0 15 [(2, vI m), (0, .ref a), (1, .ref pa)] [] h2 := by
    intro n
    induction n with
    | zero =>
      intro m r h2 hm hP hF hPs hb hr
      obtain rfl : m = 512 := by omega
      refine j_iload_n 2 dX3_listen_15 rfl rfl ?_
      refine J_sipush dX3_listen_16 (by decide) ?_
      refine J_icmp_ge 98 dX3_listen_19 (by decide) (fun c19 => ?_) (fun c19 => absurd c19 (by omega)) 
      refine j_vret rfl dX3_listen_98 ?_
      exact ⟨rfl, by rw [← hr]; exact hP, hF⟩
    | succ n ih =>
      intro m r h2 hm hP hF hPs hb hr
      have hnr := nbF_rg (bg := r.2 2) hZ 4 (by omega)
      rw [lisM_s] at hr
      obtain ⟨t, ht⟩ : ∃ t, nbF P (r.2 2) 4 = t := ⟨_, rfl⟩
      rw [ht] at hnr hr
      have inner : ∀ (n2 k : Nat) (h3 : jH), k + n2 = 4 → 0 ≤ t → AtX3 G h3 a q (lisK P t m (oU (oA r 0 (upI (r.2 0) m t)) 3 ((m : Int) + 1)) k) → Fr (ft AX3 a q) h h3 → PartsAt G h3 pa pad pq P → bgZ (lisK P t m (oU (oA r 0 (upI (r.2 0) m t)) 3 ((m : Int) + 1)) k) → J l G mX3_listen (jQ G mX3_listen (jW oN (fun h' => AtX3 G h' a q (R) ∧ Fr (ft AX3 a q) h h'))) 0 0 51 [(4, vI k), (3, vI t), (2, vI m), (0, .ref a), (1, .ref pa)] [] h3 := by
        intro n2
        induction n2 with
        | zero =>
          intro k h3 hk ht0 hP hF hPs hb
          obtain rfl : k = 4 := by omega
          obtain ⟨F, hpa, hF4⟩ := hPs.1
          refine j_iload dX3_listen_51 rfl ?_
          refine j_aload_n 1 dX3_listen_53 rfl rfl ?_
          refine J_alenq 3 dX3_listen_54 hpa rfl ?_
          refine J_icmp_ge 92 dX3_listen_55 (by decide) (fun c55 => ?_) (fun c55 => absurd c55 (by omega)) 
          refine J_iinc (L' := [(2, _), (4, _), (3, _), (0, _), (1, _)]) dX3_listen_92 rfl rfl rfl ?_
          refine j_goto 15 dX3_listen_95 (by decide) ?_
          refine j_locR (ih (m + 1) _ h3 (by omega) hP hF hPs hb ?_) (by repeat' (first | exact True.intro | refine And.intro rfl ?_))
          rw [if_neg (by omega)] at hr
          exact hr
        | succ n2 ih2 =>
          intro k h3 hk ht0 hP hF hPs hb
          have hk4 : k < 4 := by omega
          obtain ⟨F, hpa, hF4⟩ := hPs.1
          have hPk := hPs.2 k hk4
          have hbk := hb k hk4
          have hZk := hZ k hk4
          have hFk : F ((k : Int)).toNat = some (pad k) := by rw [Int.toNat_natCast]; exact hF4 k hk4
          have hdk : ∀ x, ft AX6 (pad k) (pq k) x → ¬ ft AX3 a q x := fun x hx => hdis x (Or.inr ⟨k, hk4, hx⟩)
          refine j_iload dX3_listen_51 rfl ?_
          refine j_aload_n 1 dX3_listen_53 rfl rfl ?_
          refine J_alenq 3 dX3_listen_54 hpa rfl ?_
          refine J_icmp_ge 92 dX3_listen_55 (by decide) (fun c55 => absurd c55 (by omega)) (fun c55 => ?_) 
          refine j_iload dX3_listen_58 rfl ?_
          refine J_iconst dX3_listen_60 ?_
          refine J_icmp_ge 92 dX3_listen_61 (by decide) (fun c61 => absurd c61 (by omega)) (fun c61 => ?_) 
          refine j_aload_n 0 dX3_listen_64 rfl rfl ?_
          refine j_get fX3_15 dX3_listen_65 hP.1 rfl ?_
          refine j_iload_n 2 dX3_listen_68 rfl rfl ?_
          refine J_iconst dX3_listen_69 ?_
          refine J_imul dX3_listen_70 ?_
          refine j_iload dX3_listen_71 rfl ?_
          refine J_iadd dX3_listen_73 ?_
          refine j_aload_n 0 dX3_listen_74 rfl rfl ?_
          refine j_aload_n 1 dX3_listen_75 rfl rfl ?_
          refine j_iload dX3_listen_76 rfl ?_
          refine J_qald dX3_listen_78 hpa hFk ?_ 
          refine j_iload dX3_listen_79 rfl ?_
          refine j_iload_n 3 dX3_listen_81 rfl rfl ?_
          refine J_callVW1 kX3_39 cvX3_eventGoingOn hP.1 (c_X3_eventGoingOn hP hPk hdk hZk.1 hZk.2.1 (by omega) (by omega) hbk) rfl rfl rfl rfl rfl dX3_listen_82 rfl rfl (fun h hp => ?_)
          obtain ⟨hP, hF9⟩ := hp
          have hF := hF.tr hF9
          have hPs := hPs.keep hF9 hdis
          refine J_iastA 1 hP rfl (fun _ => rfl) (fun _ => rfl) dX3_listen_85 (fun h hP hF85 => ?_) 
          have hF := hF.tr hF85
          have hPs := hPs.keep hF85 hdis
          refine J_iinc (L' := [(4, _), (3, _), (2, _), (0, _), (1, _)]) dX3_listen_86 rfl rfl rfl ?_
          refine j_goto 51 dX3_listen_89 (by decide) ?_
          exact ih2 (k + 1) h (by omega) ht0 hP hF hPs (bgZ_up hb (egN_rg hZk.1 hbk))
      refine j_iload_n 2 dX3_listen_15 rfl rfl ?_
      refine J_sipush dX3_listen_16 (by decide) ?_
      refine J_icmp_ge 98 dX3_listen_19 (by decide) (fun c19 => absurd c19 (by omega)) (fun c19 => ?_) 
      refine j_aload_n 0 dX3_listen_22 rfl rfl ?_
      refine j_aload_n 1 dX3_listen_23 rfl rfl ?_
      refine J_callV1 kX3_35 cvX3_nextBegin hP.1 (c_X3_nextBegin hP hPs hZ hb) rfl rfl rfl rfl rfl dX3_listen_24 rfl rfl ?_
      rw [ht]
      refine j_istore_n 3 (L' := [(3, _), (2, _), (0, _), (1, _)]) dX3_listen_27 rfl rfl rfl ?_
      refine j_iload_n 3 dX3_listen_28 rfl rfl ?_
      refine J_iconst dX3_listen_29 ?_
      refine J_icmp_ne 34 dX3_listen_30 (by decide) (fun c30 => ?_) (fun c30 => ?_) 
      · refine j_aload_n 0 dX3_listen_34 rfl rfl ?_
        refine j_get fX3_9 dX3_listen_35 hP.1 rfl ?_
        refine j_iload_n 2 dX3_listen_38 rfl rfl ?_
        refine j_iload_n 3 dX3_listen_39 rfl rfl ?_
        refine J_iastA 0 hP rfl (fun _ => rfl) (fun _ => rfl) dX3_listen_40 (fun h hP hF40 => ?_) 
        have hF := hF.tr hF40
        have hPs := hPs.keep hF40 hdis
        refine j_aload_n 0 dX3_listen_41 rfl rfl ?_
        refine j_iload_n 2 dX3_listen_42 rfl rfl ?_
        refine J_iconst dX3_listen_43 ?_
        refine J_iadd dX3_listen_44 ?_
        refine J_putA hP fX3_21 tyX3_count dX3_listen_45 rfl rfl (fun h hP hF45 => ?_)
        have hF := hF.tr hF45
        have hPs := hPs.keep hF45 hdis
        refine J_iconst dX3_listen_48 ?_
        refine j_istore (L' := [(4, _), (3, _), (2, _), (0, _), (1, _)]) dX3_listen_49 rfl rfl ?_
        exact inner 4 0 h (by omega) (by omega) hP hF hPs hb
      · refine j_vret rfl dX3_listen_33 ?_
        exact ⟨rfl, by rw [if_pos c30] at hr; rw [← hr]; exact hP, hF⟩
  refine j_body (by decide +kernel) ⟨rfl, rfl⟩ rfl ?_
  refine j_aload_n 0 dX3_listen_0 rfl rfl ?_
  refine j_get fX3_18 dX3_listen_1 hP.1 rfl ?_
  refine J_iconst dX3_listen_4 ?_
  refine J_callSW0 kX3_29 csJ7_fill_53178 (c_J7_fill_53178 (hP.2.1 2 rfl) (by decide)) rfl rfl rfl rfl rfl dX3_listen_5 rfl rfl (fun h hp => ?_)
  subst hp
  have hF5 : Fr (ft AX3 a q) h _ := Fr.set (e := ai G 4 (rng (p.2 2) 0 4 0)) (Or.inr ⟨2, rfl, rfl⟩)
  have hP := hP.arrw (k := 2) rfl (rng (p.2 2) 0 4 0) rfl
  have hPs := hPs.keep hF5 hdis
  have hF := hF5
  refine j_aload_n 0 dX3_listen_8 rfl rfl ?_
  refine J_iconst dX3_listen_9 ?_
  refine J_putA hP fX3_21 tyX3_count dX3_listen_10 rfl rfl (fun h hP hF10 => ?_)
  have hF := hF.tr hF10
  have hPs := hPs.keep hF10 hdis
  refine J_iconst dX3_listen_13 ?_
  refine j_istore_n 2 (L' := [(2, _), (0, _), (1, _)]) dX3_listen_14 rfl rfl rfl ?_
  refine outer 512 0 _ h (by omega) hP hF hPs ?_ hR.symm
  intro k hk
  show 0 ≤ rng (p.2 2) 0 4 0 k ∧ rng (p.2 2) 0 4 0 k ≤ 512
  unfold rng
  rw [if_pos (by omega)]
  omega
