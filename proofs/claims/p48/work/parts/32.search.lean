abbrev htE (pk : OS) (e : Int) : Int := if inP pk e then pk.2 2 e else -1
abbrev bgE (pk : OS) (e : Int) : Int := if inP pk e then pk.2 3 e else pk.1 8
abbrev ntE (pk : OS) (e : Int) : Prop := inP pk e ∧ pk.2 0 e ≠ 0
def nteS (pk : OS) (k e : Int) (p : OS) : OS :=
  if inP pk e ∧ pk.2 0 e ≠ 0 ∧ (pk.2 0 e < pk.1 9 ∨ pk.1 10 < pk.2 0 e) then addP (if ntE pk (e - 1) ∧ 12 < ((htE pk e - htE pk (e - 1)).natAbs : Int) then addP p 3 (bgE pk e) k else p) 4 (bgE pk e) k
  else (if ntE pk (e - 1) ∧ 12 < ((htE pk e - htE pk (e - 1)).natAbs : Int) then addP p 3 (bgE pk e) k else p)
theorem fZ_nte {pk : OS} {k e : Int} {p : OS} (h : fZ p) : fZ (nteS pk k e p) := by
  unfold nteS
  (repeat' split) <;> first | exact fZ_add (fZ_add h) | exact fZ_add h | exact h
def nteK (P : Nat → OS) (p3 : OS) (m : Int) (p : OS) : Nat → OS
  | 0 => p
  | k + 1 => if (nteK P p3 m p k).2 5 k ≠ 0 then nteS (P k) k (evH p3 m k) (nteK P p3 m p k) else nteK P p3 m p k
theorem nteK_s (P : Nat → OS) (p3 : OS) (m : Int) (p : OS) (k : Nat) : nteK P p3 m p (k + 1) = if (nteK P p3 m p k).2 5 k ≠ 0 then nteS (P k) k (evH p3 m k) (nteK P p3 m p k) else nteK P p3 m p k := rfl
theorem fZ_nteK {P : Nat → OS} {p3 : OS} {m : Int} {p : OS} (h : fZ p) : ∀ k : Nat, fZ (nteK P p3 m p k)
  | 0 => h
  | k + 1 => by
    rw [nteK_s]
    split
    · exact fZ_nte (fZ_nteK h k)
    · exact fZ_nteK h k
def momS (P : Nat → OS) (p3 : OS) (m : Int) (p : OS) : OS := nteK P p3 m (prI (crsS (tkH p3 m)) 4 (prI (parS (tkH p3 m)) 4 (goK P p3 m p 4))) 4
theorem fZ_mom {P : Nat → OS} (hZ : PsZ P) {p3 : OS} {m : Int} {p : OS} (h : fZ p) : fZ (momS P p3 m p) :=
  fZ_nteK (fZ_prI (fun _ _ _ => fZ_crs) 4 _ (fZ_prI (fun _ _ _ => fZ_par) 4 _ (fZ_goK hZ h 4 (Nat.le_refl 4)))) 4
def srM (P : Nat → OS) (p3 : OS) (p : OS) : Nat → OS
  | 0 => p
  | m + 1 => momS P p3 m (srM P p3 p m)
theorem srM_s (P : Nat → OS) (p3 p : OS) (m : Nat) : srM P p3 p (m + 1) = momS P p3 m (srM P p3 p m) := rfl
theorem fZ_srM {P : Nat → OS} (hZ : PsZ P) {p3 : OS} {p : OS} (h : fZ p) : ∀ m : Nat, fZ (srM P p3 p m)
  | 0 => h
  | m + 1 => fZ_mom hZ (fZ_srM hZ h m)
def seaP (P : Nat → OS) (p3 p : OS) : OS := srM P p3 (oA (oU p 7 0) 4 (rng (p.2 4) 0 4 (-1))) (p3.1 3).toNat
set_option maxRecDepth 100000 in
theorem c_X2_searchNote {l : Launch} {G : jG} {h : jH} {a : Nat} {q : Nat → Nat} {p : OS} {b : Nat} {qk : Nat → Nat} {pk : OS} {k e : Int} (hP : AtX2 G h a q p) (hz : fZ p) (hPk : AtX6 G h b qk pk) (hdis : ∀ x, ft AX6 b qk x → ¬ ft AX2 a q x) (hn : pN pk) (hzk : eA pk) (hzz : pZ pk) (he : rg e) (he1 : rg (e - 1)) : jC l G yX2_searchNote mX2_searchNote [.ref a, .ref b, vI k, vI e] h (jW oN (fun h' => AtX2 G h' a q (nteS pk k e p) ∧ Fr (ft AX2 a q) h h')) := by
  have hh1 : -1 ≤ htE pk e ∧ htE pk e ≤ 200 := by
    unfold htE
    split
    · rename_i c; exact (hzk e c.1 c.2).2.2.1
    · omega
  have hh2 : -1 ≤ htE pk (e - 1) ∧ htE pk (e - 1) ≤ 200 := by
    unfold htE
    split
    · rename_i c; exact (hzk (e - 1) c.1 c.2).2.2.1
    · omega
  obtain ⟨t, ht⟩ : ∃ t, t = bgE pk e := ⟨_, rfl⟩
  obtain ⟨p1, hp1⟩ : ∃ p1, p1 = (if ntE pk (e - 1) ∧ 12 < ((htE pk e - htE pk (e - 1)).natAbs : Int) then addP p 3 (bgE pk e) k else p) := ⟨_, rfl⟩
  have K46 : ∀ h9 : jH, AtX2 G h9 a q p1 → Fr (ft AX2 a q) h h9 → AtX6 G h9 b qk pk → J l G mX2_searchNote (jQ G mX2_searchNote (jW oN (fun h' => AtX2 G h' a q (nteS pk k e p) ∧ Fr (ft AX2 a q) h h'))) 0 0 46 [(4, vI t), (0, .ref a), (1, .ref b), (2, vI k), (3, vI e)] [] h9 := by
    intro h9 hP hF hPk
    have hz1 : fZ p1 := by rw [hp1]; split; exact fZ_add hz; exact hz
    have hN : nteS pk k e p = if inP pk e ∧ pk.2 0 e ≠ 0 ∧ (pk.2 0 e < pk.1 9 ∨ pk.1 10 < pk.2 0 e) then addP p1 4 t k else p1 := by rw [hp1, ht]; rfl
    refine j_aload_n 1 dX2_searchNote_46 rfl rfl ?_
    refine j_iload_n 3 dX2_searchNote_47 rfl rfl ?_
    refine J_callVZ kX2_105 cvX6_isOutOfRange hPk.1 (c_X6_isOutOfRange hPk hn hzk hzz he) rfl rfl rfl rfl rfl dX2_searchNote_48 rfl rfl (fun z48 => ?_) (fun z48 => ?_)
    · refine J_if_eq 62 dX2_searchNote_51 (by decide) (fun c51 => absurd c51 (by decide)) (fun c51 => ?_) 
      refine j_aload_n 0 dX2_searchNote_54 rfl rfl ?_
      refine J_iconst dX2_searchNote_55 ?_
      refine j_iload dX2_searchNote_56 rfl ?_
      refine j_iload_n 2 dX2_searchNote_58 rfl rfl ?_
      refine J_callVW0 kX2_98 cvX2_add hP.1 (c_X2_add hP hz1.1) rfl rfl rfl rfl rfl dX2_searchNote_59 rfl rfl (fun h hp => ?_)
      obtain ⟨hP, hF9⟩ := hp
      have hF := hF.tr hF9
      refine j_vret rfl dX2_searchNote_62 ?_
      first | exact ⟨rfl, by rw [hN, if_pos z48]; exact hP, hF⟩ | exact ⟨rfl, by rw [hN, if_neg z48]; exact hP, hF⟩
    · refine J_if_eq 62 dX2_searchNote_51 (by decide) (fun c51 => ?_) (fun c51 => absurd c51 (by decide)) 
      refine j_vret rfl dX2_searchNote_62 ?_
      first | exact ⟨rfl, by rw [hN, if_pos z48]; exact hP, hF⟩ | exact ⟨rfl, by rw [hN, if_neg z48]; exact hP, hF⟩
  refine j_body (by decide +kernel) ⟨rfl, rfl⟩ rfl ?_
  refine j_aload_n 1 dX2_searchNote_0 rfl rfl ?_
  refine j_iload_n 3 dX2_searchNote_1 rfl rfl ?_
  refine J_callV1 kX2_85 cvX6_beginAt hPk.1 (c_X6_beginAt hPk hn he) rfl rfl rfl rfl rfl dX2_searchNote_2 rfl rfl ?_
  refine J_top (t) ?_ (by exact ht.symm)
  refine j_istore (L' := [(4, _), (0, _), (1, _), (2, _), (3, _)]) dX2_searchNote_5 rfl rfl ?_
  refine j_aload_n 1 dX2_searchNote_7 rfl rfl ?_
  refine j_iload_n 3 dX2_searchNote_8 rfl rfl ?_
  refine J_iconst dX2_searchNote_9 ?_
  refine J_isub dX2_searchNote_10 ?_
  refine J_callVZ kX2_82 cvX6_isNote hPk.1 (c_X6_isNote hPk hn hzk he1) rfl rfl rfl rfl rfl dX2_searchNote_11 rfl rfl (fun z11 => ?_) (fun z11 => ?_)
  · refine J_if_eq 46 dX2_searchNote_14 (by decide) (fun c14 => absurd c14 (by decide)) (fun c14 => ?_) 
    refine j_aload_n 1 dX2_searchNote_17 rfl rfl ?_
    refine j_iload_n 3 dX2_searchNote_18 rfl rfl ?_
    refine J_callV1 kX2_77 cvX6_heightAt hPk.1 (c_X6_heightAt hPk hn he) rfl rfl rfl rfl rfl dX2_searchNote_19 rfl rfl ?_
    refine J_top (htE pk e) ?_ (by rfl)
    refine j_aload_n 1 dX2_searchNote_22 rfl rfl ?_
    refine j_iload_n 3 dX2_searchNote_23 rfl rfl ?_
    refine J_iconst dX2_searchNote_24 ?_
    refine J_isub dX2_searchNote_25 ?_
    refine J_callV1 kX2_77 cvX6_heightAt hPk.1 (c_X6_heightAt hPk hn he1) rfl rfl rfl rfl rfl dX2_searchNote_26 rfl rfl ?_
    refine J_top (htE pk (e - 1)) ?_ (by rfl)
    refine J_isub dX2_searchNote_29 ?_
    refine J_mabs kX2_102 rfl rfl dX2_searchNote_30 ?_ 
    refine J_bipush dX2_searchNote_33 (by decide) ?_
    refine J_icmp_le 46 dX2_searchNote_35 (by decide) (fun c35 => ?_) (fun c35 => ?_) 
    · first | exact K46 _ (by rw [hp1, if_pos ⟨z11, c35⟩, ← ht]; exact hP) hF9 hPk | exact K46 _ (by rw [hp1, if_neg (fun z => z11 z.1)]; exact hP) Fr.rf hPk | exact K46 _ (by rw [hp1, if_neg (by omega)]; exact hP) Fr.rf hPk
    · refine j_aload_n 0 dX2_searchNote_38 rfl rfl ?_
      refine J_iconst dX2_searchNote_39 ?_
      refine j_iload dX2_searchNote_40 rfl ?_
      refine j_iload_n 2 dX2_searchNote_42 rfl rfl ?_
      refine J_callVW0 kX2_98 cvX2_add hP.1 (c_X2_add hP hz.1) rfl rfl rfl rfl rfl dX2_searchNote_43 rfl rfl (fun h hp => ?_)
      obtain ⟨hP, hF9⟩ := hp
      have hPk := hPk.keep hF9 hdis
      first | exact K46 _ (by rw [hp1, if_pos ⟨z11, c35⟩, ← ht]; exact hP) hF9 hPk | exact K46 _ (by rw [hp1, if_neg (fun z => z11 z.1)]; exact hP) Fr.rf hPk | exact K46 _ (by rw [hp1, if_neg (by omega)]; exact hP) Fr.rf hPk
  · refine J_if_eq 46 dX2_searchNote_14 (by decide) (fun c14 => ?_) (fun c14 => absurd c14 (by decide)) 
    first | exact K46 _ (by rw [hp1, if_pos ⟨z11, c35⟩, ← ht]; exact hP) hF9 hPk | exact K46 _ (by rw [hp1, if_neg (fun z => z11 z.1)]; exact hP) Fr.rf hPk | exact K46 _ (by rw [hp1, if_neg (by omega)]; exact hP) Fr.rf hPk
set_option maxRecDepth 100000 in
theorem c_X2_search {l : Launch} {G : jG} {h : jH} {a : Nat} {q : Nat → Nat} {p : OS} {pa : Nat} {pad : Nat → Nat} {pq : Nat → Nat → Nat} {P : Nat → OS} {a3 : Nat} {q3 : Nat → Nat} {p3 : OS} (hP : AtX2 G h a q p) (hz : fZ p) (hPs : PartsAt G h pa pad pq P) (hZ : PsZ P) (hP3 : AtX3 G h a3 q3 p3) (hn3 : hN p3) (hE : ∀ (m : Int) (k : Nat), k < 4 → -1 ≤ evH p3 m k ∧ evH p3 m k ≤ 1000) (ht : ∀ m, rg (tkH p3 m)) (hdis : ∀ b, ftP pa pad pq b → ¬ ft AX2 a q b) (hdis3 : ∀ b, ft AX3 a3 q3 b → ¬ ft AX2 a q b) : jC l G yX2_search mX2_search [.ref a, .ref pa, .ref a3] h (jW oN (fun h' => AtX2 G h' a q (seaP P p3 p) ∧ Fr (ft AX2 a q) h h')) := by
  have hn32 : 0 ≤ p3.1 3 ∧ p3.1 3 ≤ 512 := hn3
  have hz0 : fZ (oA (oU p 7 0) 4 (rng (p.2 4) 0 4 (-1))) := by
    refine ⟨by show (0 : Int) ≤ 0 ∧ (0 : Int) ≤ 2560; omega, fun j h0 h4 => ?_⟩
    have := hz.2 j h0 h4
    refine ⟨this.1, ?_, this.2.2⟩
    show -1 ≤ rng (p.2 4) 0 4 (-1) j ∧ rng (p.2 4) 0 4 (-1) j ≤ 200
    unfold rng
    rw [if_pos ⟨h0, h4⟩]
    omega
  have outer : ∀ (n m : Nat) (h2 : jH), m + n = (p3.1 3).toNat → AtX2 G h2 a q (srM P p3 (oA (oU p 7 0) 4 (rng (p.2 4) 0 4 (-1))) m) → Fr (ft AX2 a q) h h2 → PartsAt G h2 pa pad pq P → AtX3 G h2 a3 q3 p3 → J l G mX2_search (jQ G mX2_search (jW oN (fun h' => AtX2 G h' a q (seaP P p3 p) ∧ Fr (ft AX2 a q) h h'))) 0 0 15 [(3, vI m), (0, .ref a), (1, .ref pa), (2, .ref a3)] [] h2 := by
    intro n
    induction n with
    | zero =>
      intro m h2 hm hP hF hPs hP3
      obtain rfl : m = (p3.1 3).toNat := by omega
      refine j_iload_n 3 dX2_search_15 rfl rfl ?_
      refine j_aload_n 2 dX2_search_16 rfl rfl ?_
      refine J_callV1 kX2_48 cvX3_size hP3.1 (c_X3_size hP3) rfl rfl rfl rfl rfl dX2_search_17 rfl rfl ?_
      refine J_icmp_ge 104 dX2_search_20 (by decide) (fun c20 => ?_) (fun c20 => absurd c20 (by omega)) 
      refine j_vret rfl dX2_search_104 ?_
      exact ⟨rfl, hP, hF⟩
    | succ n ih =>
      intro m h2 hm hP hF hPs hP3
      have hzm := fZ_srM hZ (p3 := p3) hz0 m
      obtain ⟨r, hr⟩ : ∃ r, r = prI (crsS (tkH p3 m)) 4 (prI (parS (tkH p3 m)) 4 (goK P p3 m (srM P p3 (oA (oU p 7 0) 4 (rng (p.2 4) 0 4 (-1))) m) 4)) := ⟨_, rfl⟩
      have hzr : fZ r := by rw [hr]; exact fZ_prI (fun _ _ _ => fZ_crs) 4 _ (fZ_prI (fun _ _ _ => fZ_par) 4 _ (fZ_goK hZ hzm 4 (Nat.le_refl 4)))
      have hsr : srM P p3 (oA (oU p 7 0) 4 (rng (p.2 4) 0 4 (-1))) (m + 1) = nteK P p3 m r 4 := by rw [srM_s, hr]; rfl
      have inner : ∀ (n2 k : Nat) (h3 : jH), k + n2 = 4 → AtX2 G h3 a q (nteK P p3 m r k) → Fr (ft AX2 a q) h h3 → PartsAt G h3 pa pad pq P → AtX3 G h3 a3 q3 p3 → J l G mX2_search (jQ G mX2_search (jW oN (fun h' => AtX2 G h' a q (seaP P p3 p) ∧ Fr (ft AX2 a q) h h'))) 0 0 52 [(5, vI k), (4, vI (tkH p3 m)), (3, vI m), (0, .ref a), (1, .ref pa), (2, .ref a3)] [] h3 := by
        intro n2
        induction n2 with
        | zero =>
          intro k h3 hk hP hF hPs hP3
          obtain rfl : k = 4 := by omega
          obtain ⟨F, hpa, hF4⟩ := hPs.1
          refine j_iload dX2_search_52 rfl ?_
          refine j_aload_n 1 dX2_search_54 rfl rfl ?_
          refine J_alenq 3 dX2_search_55 hpa rfl ?_
          refine J_icmp_ge 98 dX2_search_56 (by decide) (fun c56 => ?_) (fun c56 => absurd c56 (by omega)) 
          refine J_iinc (L' := [(3, _), (5, _), (4, _), (0, _), (1, _), (2, _)]) dX2_search_98 rfl rfl rfl ?_
          refine j_goto 15 dX2_search_101 (by decide) ?_
          exact j_locR (ih (m + 1) h3 (by omega) (by rw [hsr]; exact hP) hF hPs hP3) (by repeat' (first | exact True.intro | refine And.intro rfl ?_))
        | succ n2 ih2 =>
          intro k h3 hk hP hF hPs hP3
          have hk4 : k < 4 := by omega
          obtain ⟨F, hpa, hF4⟩ := hPs.1
          have hPk := hPs.2 k hk4
          have hZk := hZ k hk4
          have hFk : F ((k : Int)).toNat = some (pad k) := by rw [Int.toNat_natCast]; exact hF4 k hk4
          have hek := hE m k hk4
          have hzk := fZ_nteK (P := P) (p3 := p3) (m := m) hzr k
          have hbk := (hzk.2 k (by omega) (by omega)).2.2.1
          have hdk : ∀ x, ft AX6 (pad k) (pq k) x → ¬ ft AX2 a q x := fun x hx => hdis x (Or.inr ⟨k, hk4, hx⟩)
          refine j_iload dX2_search_52 rfl ?_
          refine j_aload_n 1 dX2_search_54 rfl rfl ?_
          refine J_alenq 3 dX2_search_55 hpa rfl ?_
          refine J_icmp_ge 98 dX2_search_56 (by decide) (fun c56 => absurd c56 (by omega)) (fun c56 => ?_) 
          refine j_iload dX2_search_59 rfl ?_
          refine J_iconst dX2_search_61 ?_
          refine J_icmp_ge 98 dX2_search_62 (by decide) (fun c62 => absurd c62 (by omega)) (fun c62 => ?_) 
          refine j_aload_n 0 dX2_search_65 rfl rfl ?_
          refine j_get fX2_27 dX2_search_66 hP.1 rfl ?_
          refine j_iload dX2_search_69 rfl ?_
          refine J_zald dX2_search_71 (hP.2.1 5 rfl) ?_ 
          refine J_if_eq 92 dX2_search_72 (by decide) (fun c72 => ?_) (fun c72 => ?_) (by omega)
          · refine J_iinc (L' := [(5, _), (4, _), (3, _), (0, _), (1, _), (2, _)]) dX2_search_92 rfl rfl rfl ?_
            refine j_goto 52 dX2_search_95 (by decide) ?_
            first | exact ih2 (k + 1) _ (by omega) (by rw [nteK_s, if_pos c72]; exact hP) hF hPs hP3 | exact ih2 (k + 1) _ (by omega) (by rw [nteK_s, if_neg (fun z => z c72)]; exact hP) hF hPs hP3
          · refine j_aload_n 0 dX2_search_75 rfl rfl ?_
            refine j_aload_n 1 dX2_search_76 rfl rfl ?_
            refine j_iload dX2_search_77 rfl ?_
            refine J_qald dX2_search_79 hpa hFk ?_ 
            refine j_iload dX2_search_80 rfl ?_
            refine j_aload_n 2 dX2_search_82 rfl rfl ?_
            refine j_iload_n 3 dX2_search_83 rfl rfl ?_
            refine j_iload dX2_search_84 rfl ?_
            refine J_callV1 kX2_69 cvX3_eventAt hP3.1 (c_X3_eventAt hP3 hn3 (by omega) (by omega)) rfl rfl rfl rfl rfl dX2_search_86 rfl rfl ?_
            refine J_top (evH p3 m k) ?_ (by rfl)
            refine J_callVW0 kX2_73 cvX2_searchNote hP.1 (c_X2_searchNote hP hzk hPk hdk hZk.1 hZk.2.1 hZk.2.2 (by omega) (by omega)) rfl rfl rfl rfl rfl dX2_search_89 rfl rfl (fun h hp => ?_)
            obtain ⟨hP, hF9⟩ := hp
            have hF := hF.tr hF9
            have hPs := hPs.keep hF9 hdis
            have hP3 := hP3.keep hF9 hdis3
            refine J_iinc (L' := [(5, _), (4, _), (3, _), (0, _), (1, _), (2, _)]) dX2_search_92 rfl rfl rfl ?_
            refine j_goto 52 dX2_search_95 (by decide) ?_
            first | exact ih2 (k + 1) _ (by omega) (by rw [nteK_s, if_pos c72]; exact hP) hF hPs hP3 | exact ih2 (k + 1) _ (by omega) (by rw [nteK_s, if_neg (fun z => z c72)]; exact hP) hF hPs hP3
      refine j_iload_n 3 dX2_search_15 rfl rfl ?_
      refine j_aload_n 2 dX2_search_16 rfl rfl ?_
      refine J_callV1 kX2_48 cvX3_size hP3.1 (c_X3_size hP3) rfl rfl rfl rfl rfl dX2_search_17 rfl rfl ?_
      refine J_icmp_ge 104 dX2_search_20 (by decide) (fun c20 => absurd c20 (by omega)) (fun c20 => ?_) 
      refine j_aload_n 2 dX2_search_23 rfl rfl ?_
      refine j_iload_n 3 dX2_search_24 rfl rfl ?_
      refine J_callV1 kX2_54 cvX3_tickAt hP3.1 (c_X3_tickAt hP3 hn3 (by omega)) rfl rfl rfl rfl rfl dX2_search_25 rfl rfl ?_
      refine J_top (tkH p3 m) ?_ (by rfl)
      refine j_istore (L' := [(4, _), (3, _), (0, _), (1, _), (2, _)]) dX2_search_28 rfl rfl ?_
      refine j_aload_n 0 dX2_search_30 rfl rfl ?_
      refine j_aload_n 1 dX2_search_31 rfl rfl ?_
      refine j_aload_n 2 dX2_search_32 rfl rfl ?_
      refine j_iload_n 3 dX2_search_33 rfl rfl ?_
      refine J_callVW0 kX2_58 cvX2_goOn hP.1 (c_X2_goOn hP hzm hPs hZ hP3 hn3 (by omega) (fun k hk => by have := hE m k hk; omega) (ht m) hdis hdis3) rfl rfl rfl rfl rfl dX2_search_34 rfl rfl (fun h hp => ?_)
      obtain ⟨hP, hF9⟩ := hp
      have hF := hF.tr hF9
      have hPs := hPs.keep hF9 hdis
      have hP3 := hP3.keep hF9 hdis3
      refine j_aload_n 0 dX2_search_37 rfl rfl ?_
      refine j_iload dX2_search_38 rfl ?_
      refine J_callVW0 kX2_62 cvX2_searchParallels hP.1 (c_X2_searchParallels hP (fZ_goK hZ hzm 4 (Nat.le_refl 4))) rfl rfl rfl rfl rfl dX2_search_40 rfl rfl (fun h hp => ?_)
      obtain ⟨hP, hF9⟩ := hp
      have hF := hF.tr hF9
      have hPs := hPs.keep hF9 hdis
      have hP3 := hP3.keep hF9 hdis3
      refine j_aload_n 0 dX2_search_43 rfl rfl ?_
      refine j_iload dX2_search_44 rfl ?_
      refine J_callVW0 kX2_66 cvX2_searchCrossings hP.1 (c_X2_searchCrossings hP (fZ_prI (fun _ _ _ => fZ_par) 4 _ (fZ_goK hZ hzm 4 (Nat.le_refl 4)))) rfl rfl rfl rfl rfl dX2_search_46 rfl rfl (fun h hp => ?_)
      obtain ⟨hP, hF9⟩ := hp
      have hF := hF.tr hF9
      have hPs := hPs.keep hF9 hdis
      have hP3 := hP3.keep hF9 hdis3
      refine J_iconst dX2_search_49 ?_
      refine j_istore (L' := [(5, _), (4, _), (3, _), (0, _), (1, _), (2, _)]) dX2_search_50 rfl rfl ?_
      rw [← hr] at hP
      exact inner 4 0 h (by omega) hP hF hPs hP3
  refine j_body (by decide +kernel) ⟨rfl, rfl⟩ rfl ?_
  refine j_aload_n 0 dX2_search_0 rfl rfl ?_
  refine J_iconst dX2_search_1 ?_
  refine J_putA hP fX2_34 tyX2_count dX2_search_2 rfl rfl (fun h hP hF2 => ?_)
  have hF := hF2
  have hPs := hPs.keep hF2 hdis
  have hP3 := hP3.keep hF2 hdis3
  refine j_aload_n 0 dX2_search_5 rfl rfl ?_
  refine j_get fX2_24 dX2_search_6 hP.1 rfl ?_
  refine J_iconst dX2_search_9 ?_
  refine J_callSW0 kX2_42 csJ7_fill_53178 (c_J7_fill_53178 (hP.2.1 4 rfl) (by decide)) rfl rfl rfl rfl rfl dX2_search_10 rfl rfl (fun h hp => ?_)
  subst hp
  have hF5 : Fr (ft AX2 a q) h (hset h (q 4) (ai G 4 (rng (p.2 4) 0 4 (-1)))) := Fr.set (Or.inr ⟨4, rfl, rfl⟩)
  have hP := hP.arrw (k := 4) rfl (rng (p.2 4) 0 4 (-1)) rfl
  have hPs := hPs.keep hF5 hdis
  have hP3 := hP3.keep hF5 hdis3
  have hF := hF.tr hF5
  refine J_iconst dX2_search_13 ?_
  refine j_istore_n 3 (L' := [(3, _), (0, _), (1, _), (2, _)]) dX2_search_14 rfl rfl rfl ?_
  exact outer (p3.1 3).toNat 0 _ (by omega) hP hF hPs hP3
