/-! ChoraleDesk.Part -/
abbrev oX6 : oO := fun q p => (6, [.ref (q 0), .ref (q 1), .ref (q 2), .ref (q 3), .ref (q 4), .ref (q 5), .ref (q 6), vI (p.1 7), vI (p.1 8), vI (p.1 9), vI (p.1 10), vI (p.1 11), vI (p.1 12)])
abbrev caX6 (G : jG) : oC := fun _ F => ai G 512 F
abbrev AX6 : Nat → Bool := fun k => Nat.blt k 7
abbrev AtX6 (G : jG) (h : jH) (a : Nat) (q : Nat → Nat) (p : OS) : Prop := At oX6 (caX6 G) AX6 h a q p
/-- the height of a pitch; -1 of a rest -/
def hgt (pl al : Int) : Int := if pl = 0 then -1 else plain pl + al
/-- the written pitch of event e is laid anew -/
abbrev wPc (p : OS) (e : Int) : Int := p.2 0 e + 4 * p.1 11 + 7 * p.1 12
abbrev wAc (p : OS) (e : Int) : Int := p.2 2 e + 7 * p.1 11 + 12 * p.1 12 - plain (wPc p e)
abbrev isWr (p : OS) (e : Int) : Prop := p.2 0 e ≠ 0 ∧ isPit (wPc p e) (wAc p e)
def wfi (p : OS) (e : Int) : OS := oA (oA p 5 (upI (p.2 5) e (if isWr p e then wPc p e else -1))) 6 (upI (p.2 6) e (if isWr p e then wAc p e else -3))
def givP (p : OS) (e pl al : Int) : OS := wfi (oA (oA (oA p 0 (upI (p.2 0) e pl)) 1 (upI (p.2 1) e al)) 2 (upI (p.2 2) e (hgt pl al))) e
def appP (p : OS) (pl al le : Int) : OS := givP (oU (oU (oA (oA p 3 (upI (p.2 3) (p.1 7) (p.1 8))) 4 (upI (p.2 4) (p.1 7) le)) 7 (p.1 7 + 1)) 8 (p.1 8 + le)) (p.1 7) pl al
def wfiN (p : OS) : Nat → OS
  | 0 => p
  | k + 1 => wfi (wfiN p k) k
def sumN (f : Int → Int) : Nat → Int
  | 0 => 0
  | k + 1 => sumN f k + f k
/-- numbers that are small enough -/
def pN (p : OS) : Prop := 0 ≤ p.1 7 ∧ p.1 7 ≤ 512
def pZ (p : OS) : Prop := (0 ≤ p.1 8 ∧ p.1 8 ≤ 20000) ∧ (-6 ≤ p.1 11 ∧ p.1 11 ≤ 6) ∧ (-2 ≤ p.1 12 ∧ p.1 12 ≤ 2) ∧ (0 ≤ p.1 9 ∧ p.1 9 ≤ 62) ∧ (0 ≤ p.1 10 ∧ p.1 10 ≤ 62)
def eZ (p : OS) (i : Int) : Prop := (0 ≤ p.2 0 i ∧ p.2 0 i ≤ 62) ∧ (-2 ≤ p.2 1 i ∧ p.2 1 i ≤ 2) ∧ (-1 ≤ p.2 2 i ∧ p.2 2 i ≤ 200) ∧ (0 ≤ p.2 3 i ∧ p.2 3 i ≤ 20000) ∧ (0 ≤ p.2 4 i ∧ p.2 4 i ≤ 96) ∧ (-1 ≤ p.2 5 i ∧ p.2 5 i ≤ 62) ∧ (-3 ≤ p.2 6 i ∧ p.2 6 i ≤ 2)
def eA (p : OS) : Prop := ∀ i : Int, 0 ≤ i → i < p.1 7 → eZ p i
abbrev inP (p : OS) (e : Int) : Prop := 0 ≤ e ∧ e < p.1 7
theorem hgt_rg {pl al : Int} (h : 0 ≤ pl ∧ pl ≤ 62) (h2 : -2 ≤ al ∧ al ≤ 2) : -1 - 2 ≤ hgt pl al ∧ hgt pl al ≤ 200 := by
  have := plain_rg (p := pl) ⟨by omega, by omega⟩
  unfold hgt
  split <;> omega
set_option maxRecDepth 100000 in
theorem c_X6_size {l : Launch} {G : jG} {h : jH} {a : Nat} {q : Nat → Nat} {p : OS} (hP : AtX6 G h a q p) : jC l G yX6_size mX6_size [.ref a] h (jE (oI (p.1 7)) h) := by
  refine j_body (by decide +kernel) ⟨rfl, rfl⟩ rfl ?_
  refine j_aload_n 0 dX6_size_0 rfl rfl ?_
  refine j_get fX6_40 dX6_size_1 hP.1 rfl ?_
  refine j_iret rfl dX6_size_4 ⟨oIe ?_, rfl⟩
  (first | omega | (simp only [bI]; (repeat' split) <;> omega))
set_option maxRecDepth 100000 in
theorem c_X6_end {l : Launch} {G : jG} {h : jH} {a : Nat} {q : Nat → Nat} {p : OS} (hP : AtX6 G h a q p) : jC l G yX6_end mX6_end [.ref a] h (jE (oI (p.1 8)) h) := by
  refine j_body (by decide +kernel) ⟨rfl, rfl⟩ rfl ?_
  refine j_aload_n 0 dX6_end_0 rfl rfl ?_
  refine j_get fX6_43 dX6_end_1 hP.1 rfl ?_
  refine j_iret rfl dX6_end_4 ⟨oIe ?_, rfl⟩
  (first | omega | (simp only [bI]; (repeat' split) <;> omega))
set_option maxRecDepth 100000 in
theorem c_X6_has {l : Launch} {G : jG} {h : jH} {a : Nat} {q : Nat → Nat} {p : OS}{e : Int} (hP : AtX6 G h a q p) (hn : pN p) (he : rg e) : jC l G yX6_has mX6_has [.ref a, vI e] h (jE (oI (bI (inP p e))) h) := by
  refine j_body (by decide +kernel) ⟨rfl, rfl⟩ rfl ?_
  unfold pN at hn
  refine j_iload_n 1 dX6_has_0 rfl rfl ?_
  refine J_if_lt 23 dX6_has_1 (by decide) (fun c1 => ?_) (fun c1 => ?_) 
  · refine J_iconst dX6_has_23 ?_
    refine j_zret rfl rfl dX6_has_24 ⟨oIe ?_, rfl⟩
    (first | omega | (simp only [bI]; (repeat' split) <;> omega))
  · refine j_iload_n 1 dX6_has_4 rfl rfl ?_
    refine j_aload_n 0 dX6_has_5 rfl rfl ?_
    refine j_get fX6_40 dX6_has_6 hP.1 rfl ?_
    refine J_icmp_ge 23 dX6_has_9 (by decide) (fun c9 => ?_) (fun c9 => ?_) 
    · refine J_iconst dX6_has_23 ?_
      refine j_zret rfl rfl dX6_has_24 ⟨oIe ?_, rfl⟩
      (first | omega | (simp only [bI]; (repeat' split) <;> omega))
    · refine j_iload_n 1 dX6_has_12 rfl rfl ?_
      refine J_sipush dX6_has_13 (by decide) ?_
      refine J_icmp_ge 23 dX6_has_16 (by decide) (fun c16 => ?_) (fun c16 => ?_) 
      · refine J_iconst dX6_has_23 ?_
        refine j_zret rfl rfl dX6_has_24 ⟨oIe ?_, rfl⟩
        (first | omega | (simp only [bI]; (repeat' split) <;> omega))
      · refine J_iconst dX6_has_19 ?_
        refine j_goto 24 dX6_has_20 (by decide) ?_
        refine j_zret rfl rfl dX6_has_24 ⟨oIe ?_, rfl⟩
        (first | omega | (simp only [bI]; (repeat' split) <;> omega))
set_option maxRecDepth 100000 in
theorem c_X6_placeAt {l : Launch} {G : jG} {h : jH} {a : Nat} {q : Nat → Nat} {p : OS}{e : Int} (hP : AtX6 G h a q p) (hn : pN p) (he : rg e) : jC l G yX6_placeAt mX6_placeAt [.ref a, vI e] h (jE (oI (if inP p e then p.2 0 e else 0)) h) := by
  refine j_body (by decide +kernel) ⟨rfl, rfl⟩ rfl ?_
  have hn2 : 0 ≤ p.1 7 ∧ p.1 7 ≤ 512 := hn
  refine j_aload_n 0 dX6_placeAt_0 rfl rfl ?_
  refine j_iload_n 1 dX6_placeAt_1 rfl rfl ?_
  refine J_callVZ kX6_50 cvX6_has hP.1 (c_X6_has hP hn he) rfl rfl rfl rfl rfl dX6_placeAt_2 rfl rfl (fun z2 => ?_) (fun z2 => ?_)
  · refine J_if_eq 17 dX6_placeAt_5 (by decide) (fun c5 => absurd c5 (by decide)) (fun c5 => ?_) 
    refine j_aload_n 0 dX6_placeAt_8 rfl rfl ?_
    refine j_get fX6_9 dX6_placeAt_9 hP.1 rfl ?_
    refine j_iload_n 1 dX6_placeAt_12 rfl rfl ?_
    refine J_iald dX6_placeAt_13 (hP.2.1 0 rfl) ?_ 
    refine j_goto 18 dX6_placeAt_14 (by decide) ?_
    refine j_iret rfl dX6_placeAt_18 ⟨oIe ?_, rfl⟩
    (first | omega | (simp only [bI]; (repeat' split) <;> omega))
  · refine J_if_eq 17 dX6_placeAt_5 (by decide) (fun c5 => ?_) (fun c5 => absurd c5 (by decide)) 
    refine J_iconst dX6_placeAt_17 ?_
    refine j_iret rfl dX6_placeAt_18 ⟨oIe ?_, rfl⟩
    (first | omega | (simp only [bI]; (repeat' split) <;> omega))
set_option maxRecDepth 100000 in
theorem c_X6_alterAt {l : Launch} {G : jG} {h : jH} {a : Nat} {q : Nat → Nat} {p : OS}{e : Int} (hP : AtX6 G h a q p) (hn : pN p) (he : rg e) : jC l G yX6_alterAt mX6_alterAt [.ref a, vI e] h (jE (oI (if inP p e then p.2 1 e else 0)) h) := by
  refine j_body (by decide +kernel) ⟨rfl, rfl⟩ rfl ?_
  have hn2 : 0 ≤ p.1 7 ∧ p.1 7 ≤ 512 := hn
  refine j_aload_n 0 dX6_alterAt_0 rfl rfl ?_
  refine j_iload_n 1 dX6_alterAt_1 rfl rfl ?_
  refine J_callVZ kX6_50 cvX6_has hP.1 (c_X6_has hP hn he) rfl rfl rfl rfl rfl dX6_alterAt_2 rfl rfl (fun z2 => ?_) (fun z2 => ?_)
  · refine J_if_eq 17 dX6_alterAt_5 (by decide) (fun c5 => absurd c5 (by decide)) (fun c5 => ?_) 
    refine j_aload_n 0 dX6_alterAt_8 rfl rfl ?_
    refine j_get fX6_15 dX6_alterAt_9 hP.1 rfl ?_
    refine j_iload_n 1 dX6_alterAt_12 rfl rfl ?_
    refine J_iald dX6_alterAt_13 (hP.2.1 1 rfl) ?_ 
    refine j_goto 18 dX6_alterAt_14 (by decide) ?_
    refine j_iret rfl dX6_alterAt_18 ⟨oIe ?_, rfl⟩
    (first | omega | (simp only [bI]; (repeat' split) <;> omega))
  · refine J_if_eq 17 dX6_alterAt_5 (by decide) (fun c5 => ?_) (fun c5 => absurd c5 (by decide)) 
    refine J_iconst dX6_alterAt_17 ?_
    refine j_iret rfl dX6_alterAt_18 ⟨oIe ?_, rfl⟩
    (first | omega | (simp only [bI]; (repeat' split) <;> omega))
set_option maxRecDepth 100000 in
theorem c_X6_heightAt {l : Launch} {G : jG} {h : jH} {a : Nat} {q : Nat → Nat} {p : OS}{e : Int} (hP : AtX6 G h a q p) (hn : pN p) (he : rg e) : jC l G yX6_heightAt mX6_heightAt [.ref a, vI e] h (jE (oI (if inP p e then p.2 2 e else -1)) h) := by
  refine j_body (by decide +kernel) ⟨rfl, rfl⟩ rfl ?_
  have hn2 : 0 ≤ p.1 7 ∧ p.1 7 ≤ 512 := hn
  refine j_aload_n 0 dX6_heightAt_0 rfl rfl ?_
  refine j_iload_n 1 dX6_heightAt_1 rfl rfl ?_
  refine J_callVZ kX6_50 cvX6_has hP.1 (c_X6_has hP hn he) rfl rfl rfl rfl rfl dX6_heightAt_2 rfl rfl (fun z2 => ?_) (fun z2 => ?_)
  · refine J_if_eq 17 dX6_heightAt_5 (by decide) (fun c5 => absurd c5 (by decide)) (fun c5 => ?_) 
    refine j_aload_n 0 dX6_heightAt_8 rfl rfl ?_
    refine j_get fX6_18 dX6_heightAt_9 hP.1 rfl ?_
    refine j_iload_n 1 dX6_heightAt_12 rfl rfl ?_
    refine J_iald dX6_heightAt_13 (hP.2.1 2 rfl) ?_ 
    refine j_goto 18 dX6_heightAt_14 (by decide) ?_
    refine j_iret rfl dX6_heightAt_18 ⟨oIe ?_, rfl⟩
    (first | omega | (simp only [bI]; (repeat' split) <;> omega))
  · refine J_if_eq 17 dX6_heightAt_5 (by decide) (fun c5 => ?_) (fun c5 => absurd c5 (by decide)) 
    refine J_iconst dX6_heightAt_17 ?_
    refine j_iret rfl dX6_heightAt_18 ⟨oIe ?_, rfl⟩
    (first | omega | (simp only [bI]; (repeat' split) <;> omega))
set_option maxRecDepth 100000 in
theorem c_X6_writtenPlaceAt {l : Launch} {G : jG} {h : jH} {a : Nat} {q : Nat → Nat} {p : OS}{e : Int} (hP : AtX6 G h a q p) (hn : pN p) (he : rg e) : jC l G yX6_writtenPlaceAt mX6_writtenPlaceAt [.ref a, vI e] h (jE (oI (if inP p e then p.2 5 e else -1)) h) := by
  refine j_body (by decide +kernel) ⟨rfl, rfl⟩ rfl ?_
  have hn2 : 0 ≤ p.1 7 ∧ p.1 7 ≤ 512 := hn
  refine j_aload_n 0 dX6_writtenPlaceAt_0 rfl rfl ?_
  refine j_iload_n 1 dX6_writtenPlaceAt_1 rfl rfl ?_
  refine J_callVZ kX6_50 cvX6_has hP.1 (c_X6_has hP hn he) rfl rfl rfl rfl rfl dX6_writtenPlaceAt_2 rfl rfl (fun z2 => ?_) (fun z2 => ?_)
  · refine J_if_eq 17 dX6_writtenPlaceAt_5 (by decide) (fun c5 => absurd c5 (by decide)) (fun c5 => ?_) 
    refine j_aload_n 0 dX6_writtenPlaceAt_8 rfl rfl ?_
    refine j_get fX6_27 dX6_writtenPlaceAt_9 hP.1 rfl ?_
    refine j_iload_n 1 dX6_writtenPlaceAt_12 rfl rfl ?_
    refine J_iald dX6_writtenPlaceAt_13 (hP.2.1 5 rfl) ?_ 
    refine j_goto 18 dX6_writtenPlaceAt_14 (by decide) ?_
    refine j_iret rfl dX6_writtenPlaceAt_18 ⟨oIe ?_, rfl⟩
    (first | omega | (simp only [bI]; (repeat' split) <;> omega))
  · refine J_if_eq 17 dX6_writtenPlaceAt_5 (by decide) (fun c5 => ?_) (fun c5 => absurd c5 (by decide)) 
    refine J_iconst dX6_writtenPlaceAt_17 ?_
    refine j_iret rfl dX6_writtenPlaceAt_18 ⟨oIe ?_, rfl⟩
    (first | omega | (simp only [bI]; (repeat' split) <;> omega))
set_option maxRecDepth 100000 in
theorem c_X6_writtenAlterAt {l : Launch} {G : jG} {h : jH} {a : Nat} {q : Nat → Nat} {p : OS}{e : Int} (hP : AtX6 G h a q p) (hn : pN p) (he : rg e) : jC l G yX6_writtenAlterAt mX6_writtenAlterAt [.ref a, vI e] h (jE (oI (if inP p e then p.2 6 e else -3)) h) := by
  refine j_body (by decide +kernel) ⟨rfl, rfl⟩ rfl ?_
  have hn2 : 0 ≤ p.1 7 ∧ p.1 7 ≤ 512 := hn
  refine j_aload_n 0 dX6_writtenAlterAt_0 rfl rfl ?_
  refine j_iload_n 1 dX6_writtenAlterAt_1 rfl rfl ?_
  refine J_callVZ kX6_50 cvX6_has hP.1 (c_X6_has hP hn he) rfl rfl rfl rfl rfl dX6_writtenAlterAt_2 rfl rfl (fun z2 => ?_) (fun z2 => ?_)
  · refine J_if_eq 17 dX6_writtenAlterAt_5 (by decide) (fun c5 => absurd c5 (by decide)) (fun c5 => ?_) 
    refine j_aload_n 0 dX6_writtenAlterAt_8 rfl rfl ?_
    refine j_get fX6_30 dX6_writtenAlterAt_9 hP.1 rfl ?_
    refine j_iload_n 1 dX6_writtenAlterAt_12 rfl rfl ?_
    refine J_iald dX6_writtenAlterAt_13 (hP.2.1 6 rfl) ?_ 
    refine j_goto 19 dX6_writtenAlterAt_14 (by decide) ?_
    refine j_iret rfl dX6_writtenAlterAt_19 ⟨oIe ?_, rfl⟩
    (first | omega | (simp only [bI]; (repeat' split) <;> omega))
  · refine J_if_eq 17 dX6_writtenAlterAt_5 (by decide) (fun c5 => ?_) (fun c5 => absurd c5 (by decide)) 
    refine J_bipush dX6_writtenAlterAt_17 (by decide) ?_
    refine j_iret rfl dX6_writtenAlterAt_19 ⟨oIe ?_, rfl⟩
    (first | omega | (simp only [bI]; (repeat' split) <;> omega))
set_option maxRecDepth 100000 in
theorem c_X6_beginAt {l : Launch} {G : jG} {h : jH} {a : Nat} {q : Nat → Nat} {p : OS}{e : Int} (hP : AtX6 G h a q p) (hn : pN p) (he : rg e) : jC l G yX6_beginAt mX6_beginAt [.ref a, vI e] h (jE (oI (if inP p e then p.2 3 e else p.1 8)) h) := by
  refine j_body (by decide +kernel) ⟨rfl, rfl⟩ rfl ?_
  have hn2 : 0 ≤ p.1 7 ∧ p.1 7 ≤ 512 := hn
  refine j_aload_n 0 dX6_beginAt_0 rfl rfl ?_
  refine j_iload_n 1 dX6_beginAt_1 rfl rfl ?_
  refine J_callVZ kX6_50 cvX6_has hP.1 (c_X6_has hP hn he) rfl rfl rfl rfl rfl dX6_beginAt_2 rfl rfl (fun z2 => ?_) (fun z2 => ?_)
  · refine J_if_eq 17 dX6_beginAt_5 (by decide) (fun c5 => absurd c5 (by decide)) (fun c5 => ?_) 
    refine j_aload_n 0 dX6_beginAt_8 rfl rfl ?_
    refine j_get fX6_21 dX6_beginAt_9 hP.1 rfl ?_
    refine j_iload_n 1 dX6_beginAt_12 rfl rfl ?_
    refine J_iald dX6_beginAt_13 (hP.2.1 3 rfl) ?_ 
    refine j_goto 21 dX6_beginAt_14 (by decide) ?_
    refine j_iret rfl dX6_beginAt_21 ⟨oIe ?_, rfl⟩
    (first | omega | (simp only [bI]; (repeat' split) <;> omega))
  · refine J_if_eq 17 dX6_beginAt_5 (by decide) (fun c5 => ?_) (fun c5 => absurd c5 (by decide)) 
    refine j_aload_n 0 dX6_beginAt_17 rfl rfl ?_
    refine j_get fX6_43 dX6_beginAt_18 hP.1 rfl ?_
    refine j_iret rfl dX6_beginAt_21 ⟨oIe ?_, rfl⟩
    (first | omega | (simp only [bI]; (repeat' split) <;> omega))
set_option maxRecDepth 100000 in
theorem c_X6_endAt {l : Launch} {G : jG} {h : jH} {a : Nat} {q : Nat → Nat} {p : OS}{e : Int} (hP : AtX6 G h a q p) (hn : pN p) (he : rg e) : jC l G yX6_endAt mX6_endAt [.ref a, vI e] h (jE (oI (if inP p e then p.2 3 e + p.2 4 e else p.1 8)) h) := by
  refine j_body (by decide +kernel) ⟨rfl, rfl⟩ rfl ?_
  have hn2 : 0 ≤ p.1 7 ∧ p.1 7 ≤ 512 := hn
  refine j_aload_n 0 dX6_endAt_0 rfl rfl ?_
  refine j_iload_n 1 dX6_endAt_1 rfl rfl ?_
  refine J_callVZ kX6_50 cvX6_has hP.1 (c_X6_has hP hn he) rfl rfl rfl rfl rfl dX6_endAt_2 rfl rfl (fun z2 => ?_) (fun z2 => ?_)
  · refine J_if_eq 24 dX6_endAt_5 (by decide) (fun c5 => absurd c5 (by decide)) (fun c5 => ?_) 
    refine j_aload_n 0 dX6_endAt_8 rfl rfl ?_
    refine j_get fX6_21 dX6_endAt_9 hP.1 rfl ?_
    refine j_iload_n 1 dX6_endAt_12 rfl rfl ?_
    refine J_iald dX6_endAt_13 (hP.2.1 3 rfl) ?_ 
    refine j_aload_n 0 dX6_endAt_14 rfl rfl ?_
    refine j_get fX6_24 dX6_endAt_15 hP.1 rfl ?_
    refine j_iload_n 1 dX6_endAt_18 rfl rfl ?_
    refine J_iald dX6_endAt_19 (hP.2.1 4 rfl) ?_ 
    refine J_iadd dX6_endAt_20 ?_
    refine j_goto 28 dX6_endAt_21 (by decide) ?_
    refine j_iret rfl dX6_endAt_28 ⟨oIe ?_, rfl⟩
    (first | omega | (simp only [bI]; (repeat' split) <;> omega))
  · refine J_if_eq 24 dX6_endAt_5 (by decide) (fun c5 => ?_) (fun c5 => absurd c5 (by decide)) 
    refine j_aload_n 0 dX6_endAt_24 rfl rfl ?_
    refine j_get fX6_43 dX6_endAt_25 hP.1 rfl ?_
    refine j_iret rfl dX6_endAt_28 ⟨oIe ?_, rfl⟩
    (first | omega | (simp only [bI]; (repeat' split) <;> omega))
set_option maxRecDepth 100000 in
theorem c_X6_isNote {l : Launch} {G : jG} {h : jH} {a : Nat} {q : Nat → Nat} {p : OS}{e : Int} (hP : AtX6 G h a q p) (hn : pN p) (hz : eA p) (he : rg e) : jC l G yX6_isNote mX6_isNote [.ref a, vI e] h (jE (oI (bI (inP p e ∧ p.2 0 e ≠ 0))) h) := by
  refine j_body (by decide +kernel) ⟨rfl, rfl⟩ rfl ?_
  have hn2 : 0 ≤ p.1 7 ∧ p.1 7 ≤ 512 := hn
  have hz2 : inP p e → (0 ≤ p.2 0 e ∧ p.2 0 e ≤ 62) := fun q => (hz e q.1 q.2).1
  refine j_aload_n 0 dX6_isNote_0 rfl rfl ?_
  refine j_iload_n 1 dX6_isNote_1 rfl rfl ?_
  refine J_callVZ kX6_50 cvX6_has hP.1 (c_X6_has hP hn he) rfl rfl rfl rfl rfl dX6_isNote_2 rfl rfl (fun z2 => ?_) (fun z2 => ?_)
  · refine J_if_eq 21 dX6_isNote_5 (by decide) (fun c5 => absurd c5 (by decide)) (fun c5 => ?_) 
    refine j_aload_n 0 dX6_isNote_8 rfl rfl ?_
    refine j_get fX6_9 dX6_isNote_9 hP.1 rfl ?_
    refine j_iload_n 1 dX6_isNote_12 rfl rfl ?_
    refine J_iald dX6_isNote_13 (hP.2.1 0 rfl) ?_ 
    refine J_if_eq 21 dX6_isNote_14 (by decide) (fun c14 => ?_) (fun c14 => ?_) (by have := hz2 z2; omega)
    · refine J_iconst dX6_isNote_21 ?_
      refine j_zret rfl rfl dX6_isNote_22 ⟨oIe ?_, rfl⟩
      (first | omega | (simp only [bI]; (repeat' split) <;> omega))
    · refine J_iconst dX6_isNote_17 ?_
      refine j_goto 22 dX6_isNote_18 (by decide) ?_
      refine j_zret rfl rfl dX6_isNote_22 ⟨oIe ?_, rfl⟩
      (first | omega | (simp only [bI]; (repeat' split) <;> omega))
  · refine J_if_eq 21 dX6_isNote_5 (by decide) (fun c5 => ?_) (fun c5 => absurd c5 (by decide)) 
    refine J_iconst dX6_isNote_21 ?_
    refine j_zret rfl rfl dX6_isNote_22 ⟨oIe ?_, rfl⟩
    (first | omega | (simp only [bI]; (repeat' split) <;> omega))
set_option maxRecDepth 100000 in
theorem c_X6_isOutOfRange {l : Launch} {G : jG} {h : jH} {a : Nat} {q : Nat → Nat} {p : OS}{e : Int} (hP : AtX6 G h a q p) (hn : pN p) (hz : eA p) (hzz : pZ p) (he : rg e) : jC l G yX6_isOutOfRange mX6_isOutOfRange [.ref a, vI e] h (jE (oI (bI (inP p e ∧ p.2 0 e ≠ 0 ∧ (p.2 0 e < p.1 9 ∨ p.1 10 < p.2 0 e)))) h) := by
  refine j_body (by decide +kernel) ⟨rfl, rfl⟩ rfl ?_
  have hn2 : 0 ≤ p.1 7 ∧ p.1 7 ≤ 512 := hn
  have hz2 : inP p e → (0 ≤ p.2 0 e ∧ p.2 0 e ≤ 62) := fun q => (hz e q.1 q.2).1
  obtain ⟨hq1, hq2, hq3, hq4, hq5⟩ := hzz
  refine j_aload_n 0 dX6_isOutOfRange_0 rfl rfl ?_
  refine j_iload_n 1 dX6_isOutOfRange_1 rfl rfl ?_
  refine J_callVZ kX6_50 cvX6_has hP.1 (c_X6_has hP hn he) rfl rfl rfl rfl rfl dX6_isOutOfRange_2 rfl rfl (fun z2 => ?_) (fun z2 => ?_)
  · refine J_if_eq 47 dX6_isOutOfRange_5 (by decide) (fun c5 => absurd c5 (by decide)) (fun c5 => ?_) 
    refine j_aload_n 0 dX6_isOutOfRange_8 rfl rfl ?_
    refine j_get fX6_9 dX6_isOutOfRange_9 hP.1 rfl ?_
    refine j_iload_n 1 dX6_isOutOfRange_12 rfl rfl ?_
    refine J_iald dX6_isOutOfRange_13 (hP.2.1 0 rfl) ?_ 
    refine J_if_eq 47 dX6_isOutOfRange_14 (by decide) (fun c14 => ?_) (fun c14 => ?_) (by have := hz2 z2; omega)
    · refine J_iconst dX6_isOutOfRange_47 ?_
      refine j_zret rfl rfl dX6_isOutOfRange_48 ⟨oIe ?_, rfl⟩
      (first | omega | (simp only [bI]; (repeat' split) <;> omega))
    · refine j_aload_n 0 dX6_isOutOfRange_17 rfl rfl ?_
      refine j_get fX6_9 dX6_isOutOfRange_18 hP.1 rfl ?_
      refine j_iload_n 1 dX6_isOutOfRange_21 rfl rfl ?_
      refine J_iald dX6_isOutOfRange_22 (hP.2.1 0 rfl) ?_ 
      refine j_aload_n 0 dX6_isOutOfRange_23 rfl rfl ?_
      refine j_get fX6_33 dX6_isOutOfRange_24 hP.1 rfl ?_
      refine J_icmp_lt 43 dX6_isOutOfRange_27 (by decide) (fun c27 => ?_) (fun c27 => ?_) (by have := hz2 z2; omega)
      · refine J_iconst dX6_isOutOfRange_43 ?_
        refine j_goto 48 dX6_isOutOfRange_44 (by decide) ?_
        refine j_zret rfl rfl dX6_isOutOfRange_48 ⟨oIe ?_, rfl⟩
        (first | omega | (simp only [bI]; (repeat' split) <;> omega))
      · refine j_aload_n 0 dX6_isOutOfRange_30 rfl rfl ?_
        refine j_get fX6_9 dX6_isOutOfRange_31 hP.1 rfl ?_
        refine j_iload_n 1 dX6_isOutOfRange_34 rfl rfl ?_
        refine J_iald dX6_isOutOfRange_35 (hP.2.1 0 rfl) ?_ 
        refine j_aload_n 0 dX6_isOutOfRange_36 rfl rfl ?_
        refine j_get fX6_37 dX6_isOutOfRange_37 hP.1 rfl ?_
        refine J_icmp_le 47 dX6_isOutOfRange_40 (by decide) (fun c40 => ?_) (fun c40 => ?_) (by have := hz2 z2; omega)
        · refine J_iconst dX6_isOutOfRange_47 ?_
          refine j_zret rfl rfl dX6_isOutOfRange_48 ⟨oIe ?_, rfl⟩
          (first | omega | (simp only [bI]; (repeat' split) <;> omega))
        · refine J_iconst dX6_isOutOfRange_43 ?_
          refine j_goto 48 dX6_isOutOfRange_44 (by decide) ?_
          refine j_zret rfl rfl dX6_isOutOfRange_48 ⟨oIe ?_, rfl⟩
          (first | omega | (simp only [bI]; (repeat' split) <;> omega))
  · refine J_if_eq 47 dX6_isOutOfRange_5 (by decide) (fun c5 => ?_) (fun c5 => absurd c5 (by decide)) 
    refine J_iconst dX6_isOutOfRange_47 ?_
    refine j_zret rfl rfl dX6_isOutOfRange_48 ⟨oIe ?_, rfl⟩
    (first | omega | (simp only [bI]; (repeat' split) <;> omega))
set_option maxRecDepth 100000 in
theorem c_X6_keyAsWritten {l : Launch} {G : jG} {h : jH} {a : Nat} {q : Nat → Nat} {p : OS}{k : Int} (hP : AtX6 G h a q p) (hzz : pZ p) (hk : -7 ≤ k ∧ k ≤ 7) : jC l G yX6_keyAsWritten mX6_keyAsWritten [.ref a, vI k] h (jE (oI (if 7 < k + p.1 11 then k + p.1 11 - 12 else if k + p.1 11 < -7 then k + p.1 11 + 12 else k + p.1 11)) h) := by
  refine j_body (by decide +kernel) ⟨rfl, rfl⟩ rfl ?_
  obtain ⟨hq1, hq2, hq3, hq4, hq5⟩ := hzz
  refine j_iload_n 1 dX6_keyAsWritten_0 rfl rfl ?_
  refine j_aload_n 0 dX6_keyAsWritten_1 rfl rfl ?_
  refine j_get fX6_64 dX6_keyAsWritten_2 hP.1 rfl ?_
  refine J_iadd dX6_keyAsWritten_5 ?_
  refine j_istore_n 2 (L' := [(2, _), (0, _), (1, _)]) dX6_keyAsWritten_6 rfl rfl rfl ?_
  refine j_iload_n 2 dX6_keyAsWritten_7 rfl rfl ?_
  refine J_bipush dX6_keyAsWritten_8 (by decide) ?_
  refine J_icmp_le 18 dX6_keyAsWritten_10 (by decide) (fun c10 => ?_) (fun c10 => ?_) 
  · refine j_iload_n 2 dX6_keyAsWritten_18 rfl rfl ?_
    refine J_bipush dX6_keyAsWritten_19 (by decide) ?_
    refine J_icmp_ge 31 dX6_keyAsWritten_21 (by decide) (fun c21 => ?_) (fun c21 => ?_) 
    · refine j_iload_n 2 dX6_keyAsWritten_31 rfl rfl ?_
      refine j_iret rfl dX6_keyAsWritten_32 ⟨oIe ?_, rfl⟩
      (first | omega | (simp only [bI]; (repeat' split) <;> omega))
    · refine j_iload_n 2 dX6_keyAsWritten_24 rfl rfl ?_
      refine J_bipush dX6_keyAsWritten_25 (by decide) ?_
      refine J_iadd dX6_keyAsWritten_27 ?_
      refine j_goto 32 dX6_keyAsWritten_28 (by decide) ?_
      refine j_iret rfl dX6_keyAsWritten_32 ⟨oIe ?_, rfl⟩
      (first | omega | (simp only [bI]; (repeat' split) <;> omega))
  · refine j_iload_n 2 dX6_keyAsWritten_13 rfl rfl ?_
    refine J_bipush dX6_keyAsWritten_14 (by decide) ?_
    refine J_isub dX6_keyAsWritten_16 ?_
    refine j_iret rfl dX6_keyAsWritten_17 ⟨oIe ?_, rfl⟩
    (first | omega | (simp only [bI]; (repeat' split) <;> omega))
set_option maxRecDepth 100000 in
theorem c_X6_changeRange {l : Launch} {G : jG} {h : jH} {a : Nat} {q : Nat → Nat} {p : OS}{lo hi : Int} (hP : AtX6 G h a q p) : jC l G yX6_changeRange mX6_changeRange [.ref a, vI lo, vI hi] h (jW oN (fun h' => AtX6 G h' a q (oU (oU p 9 lo) 10 hi) ∧ Fr (ft AX6 a q) h h')) := by
  refine j_body (by decide +kernel) ⟨rfl, rfl⟩ rfl ?_
  have hF : Fr (ft AX6 a q) h h := Fr.rf
  refine j_aload_n 0 dX6_changeRange_0 rfl rfl ?_
  refine j_iload_n 1 dX6_changeRange_1 rfl rfl ?_
  refine J_putA hP fX6_33 tyX6_lowest dX6_changeRange_2 rfl rfl (fun h hP hF2 => ?_)
  have hF := hF.tr hF2
  refine j_aload_n 0 dX6_changeRange_5 rfl rfl ?_
  refine j_iload_n 2 dX6_changeRange_6 rfl rfl ?_
  refine J_putA hP fX6_37 tyX6_highest dX6_changeRange_7 rfl rfl (fun h hP hF7 => ?_)
  have hF := hF.tr hF7
  refine j_vret rfl dX6_changeRange_10 ?_
  exact ⟨rfl, hP, hF⟩
theorem wfi_t {p : OS} {e : Int} (h : isWr p e) : wfi p e = oA (oA p 5 (upI (p.2 5) e (wPc p e))) 6 (upI (p.2 6) e (wAc p e)) := by unfold wfi; rw [if_pos h, if_pos h]
theorem wfi_f {p : OS} {e : Int} (h : ¬ isWr p e) : wfi p e = oA (oA p 5 (upI (p.2 5) e (-1))) 6 (upI (p.2 6) e (-3)) := by unfold wfi; rw [if_neg h, if_neg h]
set_option maxRecDepth 100000 in
theorem c_X6_writeForInstrument {l : Launch} {G : jG} {h : jH} {a : Nat} {q : Nat → Nat} {p : OS}{e : Int} (hP : AtX6 G h a q p) (hn : pN p) (hzz : pZ p) (hi : inP p e) (hz : 0 ≤ p.2 0 e ∧ p.2 0 e ≤ 62) (hz2 : -3 ≤ p.2 2 e ∧ p.2 2 e ≤ 200) : jC l G yX6_writeForInstrument mX6_writeForInstrument [.ref a, vI e] h (jW oN (fun h' => AtX6 G h' a q (wfi p e) ∧ Fr (ft AX6 a q) h h')) := by
  refine j_body (by decide +kernel) ⟨rfl, rfl⟩ rfl ?_
  have hF : Fr (ft AX6 a q) h h := Fr.rf
  have hn2 : 0 ≤ p.1 7 ∧ p.1 7 ≤ 512 := hn
  have he : rg e := by omega
  obtain ⟨hq1, hq2, hq3, hq4, hq5⟩ := hzz
  have hpr := plain_rg (p := p.2 0 e + 4 * p.1 11 + 7 * p.1 12) (by constructor <;> omega)
  refine j_aload_n 0 dX6_writeForInstrument_0 rfl rfl ?_
  refine j_iload_n 1 dX6_writeForInstrument_1 rfl rfl ?_
  refine J_callVZ kX6_50 cvX6_has hP.1 (c_X6_has hP hn he) rfl rfl rfl rfl rfl dX6_writeForInstrument_2 rfl rfl (fun z2 => ?_) (fun z2 => ?_)
  · refine J_if_ne 9 dX6_writeForInstrument_5 (by decide) (fun c5 => ?_) (fun c5 => absurd c5 (by decide)) 
    refine j_aload_n 0 dX6_writeForInstrument_9 rfl rfl ?_
    refine j_get fX6_9 dX6_writeForInstrument_10 hP.1 rfl ?_
    refine j_iload_n 1 dX6_writeForInstrument_13 rfl rfl ?_
    refine J_iald dX6_writeForInstrument_14 (hP.2.1 0 rfl) ?_ 
    refine J_iconst dX6_writeForInstrument_15 ?_
    refine j_aload_n 0 dX6_writeForInstrument_16 rfl rfl ?_
    refine j_get fX6_64 dX6_writeForInstrument_17 hP.1 rfl ?_
    refine J_imul dX6_writeForInstrument_20 ?_
    refine J_iadd dX6_writeForInstrument_21 ?_
    refine J_bipush dX6_writeForInstrument_22 (by decide) ?_
    refine j_aload_n 0 dX6_writeForInstrument_24 rfl rfl ?_
    refine j_get fX6_67 dX6_writeForInstrument_25 hP.1 rfl ?_
    refine J_imul dX6_writeForInstrument_28 ?_
    refine J_iadd dX6_writeForInstrument_29 ?_
    refine j_istore_n 2 (L' := [(2, _), (0, _), (1, _)]) dX6_writeForInstrument_30 rfl rfl rfl ?_
    refine j_aload_n 0 dX6_writeForInstrument_31 rfl rfl ?_
    refine j_get fX6_18 dX6_writeForInstrument_32 hP.1 rfl ?_
    refine j_iload_n 1 dX6_writeForInstrument_35 rfl rfl ?_
    refine J_iald dX6_writeForInstrument_36 (hP.2.1 2 rfl) ?_ 
    refine J_bipush dX6_writeForInstrument_37 (by decide) ?_
    refine j_aload_n 0 dX6_writeForInstrument_39 rfl rfl ?_
    refine j_get fX6_64 dX6_writeForInstrument_40 hP.1 rfl ?_
    refine J_imul dX6_writeForInstrument_43 ?_
    refine J_iadd dX6_writeForInstrument_44 ?_
    refine J_bipush dX6_writeForInstrument_45 (by decide) ?_
    refine j_aload_n 0 dX6_writeForInstrument_47 rfl rfl ?_
    refine j_get fX6_67 dX6_writeForInstrument_48 hP.1 rfl ?_
    refine J_imul dX6_writeForInstrument_51 ?_
    refine J_iadd dX6_writeForInstrument_52 ?_
    refine j_iload_n 2 dX6_writeForInstrument_53 rfl rfl ?_
    refine J_callS1 kX6_54 csX7_plainHeight (c_X7_plainHeight (by omega)) rfl rfl rfl rfl rfl dX6_writeForInstrument_54 rfl rfl ?_
    refine J_isub dX6_writeForInstrument_57 ?_
    refine j_istore_n 3 (L' := [(3, _), (2, _), (0, _), (1, _)]) dX6_writeForInstrument_58 rfl rfl rfl ?_
    refine j_aload_n 0 dX6_writeForInstrument_59 rfl rfl ?_
    refine j_get fX6_9 dX6_writeForInstrument_60 hP.1 rfl ?_
    refine j_iload_n 1 dX6_writeForInstrument_63 rfl rfl ?_
    refine J_iald dX6_writeForInstrument_64 (hP.2.1 0 rfl) ?_ 
    refine J_if_eq 80 dX6_writeForInstrument_65 (by decide) (fun c65 => ?_) (fun c65 => ?_) (by omega)
    · have hwr : ¬ isWr p e := fun z => by first | exact z.1 c65 | exact z70 z.2
      refine J_iconst dX6_writeForInstrument_80 ?_
      refine j_istore (L' := [(4, _), (3, _), (2, _), (0, _), (1, _)]) dX6_writeForInstrument_81 rfl rfl ?_
      refine j_aload_n 0 dX6_writeForInstrument_83 rfl rfl ?_
      refine j_get fX6_27 dX6_writeForInstrument_84 hP.1 rfl ?_
      refine j_iload_n 1 dX6_writeForInstrument_87 rfl rfl ?_
      refine j_iload dX6_writeForInstrument_88 rfl ?_
      refine J_if_eq 97 dX6_writeForInstrument_90 (by decide) (fun c90 => ?_) (fun c90 => absurd c90 (by decide)) 
      refine J_iconst dX6_writeForInstrument_97 ?_
      refine J_iastA 5 hP rfl (fun _ => rfl) (fun _ => rfl) dX6_writeForInstrument_98 (fun h hP hF98 => ?_) 
      have hF := hF.tr hF98
      refine j_aload_n 0 dX6_writeForInstrument_99 rfl rfl ?_
      refine j_get fX6_30 dX6_writeForInstrument_100 hP.1 rfl ?_
      refine j_iload_n 1 dX6_writeForInstrument_103 rfl rfl ?_
      refine j_iload dX6_writeForInstrument_104 rfl ?_
      refine J_if_eq 113 dX6_writeForInstrument_106 (by decide) (fun c106 => ?_) (fun c106 => absurd c106 (by decide)) 
      refine J_bipush dX6_writeForInstrument_113 (by decide) ?_
      refine J_iastA 6 hP rfl (fun _ => rfl) (fun _ => rfl) dX6_writeForInstrument_115 (fun h hP hF115 => ?_) 
      have hF := hF.tr hF115
      refine j_vret rfl dX6_writeForInstrument_116 ?_
      exact ⟨rfl, by first | (have e := wfi_t hwr; rw [e]; exact hP) | (have e := wfi_f hwr; rw [e]; exact hP), hF⟩
    · refine j_iload_n 2 dX6_writeForInstrument_68 rfl rfl ?_
      refine j_iload_n 3 dX6_writeForInstrument_69 rfl rfl ?_
      refine J_callSZ kX6_70 csX7_isPitch (c_X7_isPitch (by omega) (by omega)) rfl rfl rfl rfl rfl dX6_writeForInstrument_70 rfl rfl (fun z70 => ?_) (fun z70 => ?_)
      · refine J_if_eq 80 dX6_writeForInstrument_73 (by decide) (fun c73 => absurd c73 (by decide)) (fun c73 => ?_) 
        have hwr : isWr p e := ⟨c65, z70⟩
        refine J_iconst dX6_writeForInstrument_76 ?_
        refine j_goto 81 dX6_writeForInstrument_77 (by decide) ?_
        refine j_istore (L' := [(4, _), (3, _), (2, _), (0, _), (1, _)]) dX6_writeForInstrument_81 rfl rfl ?_
        refine j_aload_n 0 dX6_writeForInstrument_83 rfl rfl ?_
        refine j_get fX6_27 dX6_writeForInstrument_84 hP.1 rfl ?_
        refine j_iload_n 1 dX6_writeForInstrument_87 rfl rfl ?_
        refine j_iload dX6_writeForInstrument_88 rfl ?_
        refine J_if_eq 97 dX6_writeForInstrument_90 (by decide) (fun c90 => absurd c90 (by decide)) (fun c90 => ?_) 
        refine j_iload_n 2 dX6_writeForInstrument_93 rfl rfl ?_
        refine j_goto 98 dX6_writeForInstrument_94 (by decide) ?_
        refine J_iastA 5 hP rfl (fun _ => rfl) (fun _ => rfl) dX6_writeForInstrument_98 (fun h hP hF98 => ?_) 
        have hF := hF.tr hF98
        refine j_aload_n 0 dX6_writeForInstrument_99 rfl rfl ?_
        refine j_get fX6_30 dX6_writeForInstrument_100 hP.1 rfl ?_
        refine j_iload_n 1 dX6_writeForInstrument_103 rfl rfl ?_
        refine j_iload dX6_writeForInstrument_104 rfl ?_
        refine J_if_eq 113 dX6_writeForInstrument_106 (by decide) (fun c106 => absurd c106 (by decide)) (fun c106 => ?_) 
        refine j_iload_n 3 dX6_writeForInstrument_109 rfl rfl ?_
        refine j_goto 115 dX6_writeForInstrument_110 (by decide) ?_
        refine J_iastA 6 hP rfl (fun _ => rfl) (fun _ => rfl) dX6_writeForInstrument_115 (fun h hP hF115 => ?_) 
        have hF := hF.tr hF115
        refine j_vret rfl dX6_writeForInstrument_116 ?_
        exact ⟨rfl, by first | (have e := wfi_t hwr; rw [e]; exact hP) | (have e := wfi_f hwr; rw [e]; exact hP), hF⟩
      · refine J_if_eq 80 dX6_writeForInstrument_73 (by decide) (fun c73 => ?_) (fun c73 => absurd c73 (by decide)) 
        have hwr : ¬ isWr p e := fun z => by first | exact z.1 c65 | exact z70 z.2
        refine J_iconst dX6_writeForInstrument_80 ?_
        refine j_istore (L' := [(4, _), (3, _), (2, _), (0, _), (1, _)]) dX6_writeForInstrument_81 rfl rfl ?_
        refine j_aload_n 0 dX6_writeForInstrument_83 rfl rfl ?_
        refine j_get fX6_27 dX6_writeForInstrument_84 hP.1 rfl ?_
        refine j_iload_n 1 dX6_writeForInstrument_87 rfl rfl ?_
        refine j_iload dX6_writeForInstrument_88 rfl ?_
        refine J_if_eq 97 dX6_writeForInstrument_90 (by decide) (fun c90 => ?_) (fun c90 => absurd c90 (by decide)) 
        refine J_iconst dX6_writeForInstrument_97 ?_
        refine J_iastA 5 hP rfl (fun _ => rfl) (fun _ => rfl) dX6_writeForInstrument_98 (fun h hP hF98 => ?_) 
        have hF := hF.tr hF98
        refine j_aload_n 0 dX6_writeForInstrument_99 rfl rfl ?_
        refine j_get fX6_30 dX6_writeForInstrument_100 hP.1 rfl ?_
        refine j_iload_n 1 dX6_writeForInstrument_103 rfl rfl ?_
        refine j_iload dX6_writeForInstrument_104 rfl ?_
        refine J_if_eq 113 dX6_writeForInstrument_106 (by decide) (fun c106 => ?_) (fun c106 => absurd c106 (by decide)) 
        refine J_bipush dX6_writeForInstrument_113 (by decide) ?_
        refine J_iastA 6 hP rfl (fun _ => rfl) (fun _ => rfl) dX6_writeForInstrument_115 (fun h hP hF115 => ?_) 
        have hF := hF.tr hF115
        refine j_vret rfl dX6_writeForInstrument_116 ?_
        exact ⟨rfl, by first | (have e := wfi_t hwr; rw [e]; exact hP) | (have e := wfi_f hwr; rw [e]; exact hP), hF⟩
  · refine J_if_ne 9 dX6_writeForInstrument_5 (by decide) (fun c5 => absurd c5 (by decide)) (fun c5 => ?_) 
    refine j_vret rfl dX6_writeForInstrument_8 ?_
    exact absurd hi z2
