set_option maxRecDepth 100000 in
theorem c_X9_allEvents {l : Launch} {G : jG} {h : jH} {a : Nat} {d : DA} {s : DS} {Z : Nat → Nat}  (hD : Desk G h a d s) (hI : DI s) (hZ : Dz a d Z)  : jC l G yX9_allEvents mX9_allEvents [.ref a] h (jE (oI (evs s.1)) h) := by
  refine j_body (by decide +kernel) ⟨rfl, rfl⟩ rfl ?_
  obtain ⟨F, hpa, hF4⟩ := hD.2.1.1
  refine J_iconst dX9_allEvents_0 ?_
  refine j_istore_n 1 (L' := [(1, _), (0, _)]) dX9_allEvents_1 rfl rfl rfl ?_
  refine J_iconst dX9_allEvents_2 ?_
  refine j_istore_n 2 (L' := [(2, _), (1, _), (0, _)]) dX9_allEvents_3 rfl rfl rfl ?_
  refine j_iload_n 2 dX9_allEvents_4 rfl rfl ?_
  refine j_aload_n 0 dX9_allEvents_5 rfl rfl ?_
  refine j_get fX9_11 dX9_allEvents_6 hD.1 rfl ?_
  refine J_alenq 3 dX9_allEvents_9 hpa rfl ?_
  refine J_icmp_ge 31 dX9_allEvents_10 (by decide) (fun c10 => absurd c10 (by omega)) (fun c10 => ?_) 
  refine j_iload_n 1 dX9_allEvents_13 rfl rfl ?_
  refine j_aload_n 0 dX9_allEvents_14 rfl rfl ?_
  refine j_get fX9_11 dX9_allEvents_15 hD.1 rfl ?_
  refine j_iload_n 2 dX9_allEvents_18 rfl rfl ?_
  refine J_qald dX9_allEvents_19 hpa (hF4 0 (by omega)) ?_ 
  refine J_callV1 kX9_98 cvX6_size (hD.2.1.2 0 (by omega)).1 (c_X6_size (hD.2.1.2 0 (by omega))) rfl rfl rfl rfl rfl dX9_allEvents_20 rfl rfl ?_
  refine J_iadd dX9_allEvents_23 ?_
  refine j_istore_n 1 (L' := [(1, _), (2, _), (0, _)]) dX9_allEvents_24 rfl rfl rfl ?_
  refine J_iinc (L' := [(2, _), (1, _), (0, _)]) dX9_allEvents_25 rfl rfl rfl ?_
  refine j_goto 4 dX9_allEvents_28 (by decide) ?_
  refine j_iload_n 2 dX9_allEvents_4 rfl rfl ?_
  refine j_aload_n 0 dX9_allEvents_5 rfl rfl ?_
  refine j_get fX9_11 dX9_allEvents_6 hD.1 rfl ?_
  refine J_alenq 3 dX9_allEvents_9 hpa rfl ?_
  refine J_icmp_ge 31 dX9_allEvents_10 (by decide) (fun c10 => absurd c10 (by omega)) (fun c10 => ?_) 
  refine j_iload_n 1 dX9_allEvents_13 rfl rfl ?_
  refine j_aload_n 0 dX9_allEvents_14 rfl rfl ?_
  refine j_get fX9_11 dX9_allEvents_15 hD.1 rfl ?_
  refine j_iload_n 2 dX9_allEvents_18 rfl rfl ?_
  refine J_qald dX9_allEvents_19 hpa (hF4 1 (by omega)) ?_ 
  refine J_callV1 kX9_98 cvX6_size (hD.2.1.2 1 (by omega)).1 (c_X6_size (hD.2.1.2 1 (by omega))) rfl rfl rfl rfl rfl dX9_allEvents_20 rfl rfl ?_
  refine J_iadd dX9_allEvents_23 ?_
  refine j_istore_n 1 (L' := [(1, _), (2, _), (0, _)]) dX9_allEvents_24 rfl rfl rfl ?_
  refine J_iinc (L' := [(2, _), (1, _), (0, _)]) dX9_allEvents_25 rfl rfl rfl ?_
  refine j_goto 4 dX9_allEvents_28 (by decide) ?_
  refine j_iload_n 2 dX9_allEvents_4 rfl rfl ?_
  refine j_aload_n 0 dX9_allEvents_5 rfl rfl ?_
  refine j_get fX9_11 dX9_allEvents_6 hD.1 rfl ?_
  refine J_alenq 3 dX9_allEvents_9 hpa rfl ?_
  refine J_icmp_ge 31 dX9_allEvents_10 (by decide) (fun c10 => absurd c10 (by omega)) (fun c10 => ?_) 
  refine j_iload_n 1 dX9_allEvents_13 rfl rfl ?_
  refine j_aload_n 0 dX9_allEvents_14 rfl rfl ?_
  refine j_get fX9_11 dX9_allEvents_15 hD.1 rfl ?_
  refine j_iload_n 2 dX9_allEvents_18 rfl rfl ?_
  refine J_qald dX9_allEvents_19 hpa (hF4 2 (by omega)) ?_ 
  refine J_callV1 kX9_98 cvX6_size (hD.2.1.2 2 (by omega)).1 (c_X6_size (hD.2.1.2 2 (by omega))) rfl rfl rfl rfl rfl dX9_allEvents_20 rfl rfl ?_
  refine J_iadd dX9_allEvents_23 ?_
  refine j_istore_n 1 (L' := [(1, _), (2, _), (0, _)]) dX9_allEvents_24 rfl rfl rfl ?_
  refine J_iinc (L' := [(2, _), (1, _), (0, _)]) dX9_allEvents_25 rfl rfl rfl ?_
  refine j_goto 4 dX9_allEvents_28 (by decide) ?_
  refine j_iload_n 2 dX9_allEvents_4 rfl rfl ?_
  refine j_aload_n 0 dX9_allEvents_5 rfl rfl ?_
  refine j_get fX9_11 dX9_allEvents_6 hD.1 rfl ?_
  refine J_alenq 3 dX9_allEvents_9 hpa rfl ?_
  refine J_icmp_ge 31 dX9_allEvents_10 (by decide) (fun c10 => absurd c10 (by omega)) (fun c10 => ?_) 
  refine j_iload_n 1 dX9_allEvents_13 rfl rfl ?_
  refine j_aload_n 0 dX9_allEvents_14 rfl rfl ?_
  refine j_get fX9_11 dX9_allEvents_15 hD.1 rfl ?_
  refine j_iload_n 2 dX9_allEvents_18 rfl rfl ?_
  refine J_qald dX9_allEvents_19 hpa (hF4 3 (by omega)) ?_ 
  refine J_callV1 kX9_98 cvX6_size (hD.2.1.2 3 (by omega)).1 (c_X6_size (hD.2.1.2 3 (by omega))) rfl rfl rfl rfl rfl dX9_allEvents_20 rfl rfl ?_
  refine J_iadd dX9_allEvents_23 ?_
  refine j_istore_n 1 (L' := [(1, _), (2, _), (0, _)]) dX9_allEvents_24 rfl rfl rfl ?_
  refine J_iinc (L' := [(2, _), (1, _), (0, _)]) dX9_allEvents_25 rfl rfl rfl ?_
  refine j_goto 4 dX9_allEvents_28 (by decide) ?_
  refine j_iload_n 2 dX9_allEvents_4 rfl rfl ?_
  refine j_aload_n 0 dX9_allEvents_5 rfl rfl ?_
  refine j_get fX9_11 dX9_allEvents_6 hD.1 rfl ?_
  refine J_alenq 3 dX9_allEvents_9 hpa rfl ?_
  refine J_icmp_ge 31 dX9_allEvents_10 (by decide) (fun c10 => ?_) (fun c10 => absurd c10 (by omega)) 
  refine j_iload_n 1 dX9_allEvents_31 rfl rfl ?_
  refine j_iret rfl dX9_allEvents_32 ⟨oIe ?_, rfl⟩
  (unfold evs; omega)
set_option maxRecDepth 100000 in
theorem c_X9_lastEnd {l : Launch} {G : jG} {h : jH} {a : Nat} {d : DA} {s : DS} {Z : Nat → Nat}  (hD : Desk G h a d s) (hI : DI s) (hZ : Dz a d Z)  : jC l G yX9_lastEnd mX9_lastEnd [.ref a] h (jE (oI (lastE s.1)) h) := by
  refine j_body (by decide +kernel) ⟨rfl, rfl⟩ rfl ?_
  obtain ⟨F, hpa, hF4⟩ := hD.2.1.1
  have e0 := (hI.1 0 (by omega)).2.2.1.1
  have e1 := (hI.1 1 (by omega)).2.2.1.1
  have e2 := (hI.1 2 (by omega)).2.2.1.1
  have e3 := (hI.1 3 (by omega)).2.2.1.1
  refine J_iconst dX9_lastEnd_0 ?_
  refine j_istore_n 1 (L' := [(1, _), (0, _)]) dX9_lastEnd_1 rfl rfl rfl ?_
  refine J_iconst dX9_lastEnd_2 ?_
  refine j_istore_n 2 (L' := [(2, _), (1, _), (0, _)]) dX9_lastEnd_3 rfl rfl rfl ?_
  refine j_iload_n 2 dX9_lastEnd_4 rfl rfl ?_
  refine j_aload_n 0 dX9_lastEnd_5 rfl rfl ?_
  refine j_get fX9_11 dX9_lastEnd_6 hD.1 rfl ?_
  refine J_alenq 3 dX9_lastEnd_9 hpa rfl ?_
  refine J_icmp_ge 33 dX9_lastEnd_10 (by decide) (fun c10 => absurd c10 (by omega)) (fun c10 => ?_) 
  refine j_iload_n 1 dX9_lastEnd_13 rfl rfl ?_
  refine j_aload_n 0 dX9_lastEnd_14 rfl rfl ?_
  refine j_get fX9_11 dX9_lastEnd_15 hD.1 rfl ?_
  refine j_iload_n 2 dX9_lastEnd_18 rfl rfl ?_
  refine J_qald dX9_lastEnd_19 hpa (hF4 0 (by omega)) ?_ 
  refine J_callV1 kX9_219 cvX6_end (hD.2.1.2 0 (by omega)).1 (c_X6_end (hD.2.1.2 0 (by omega))) rfl rfl rfl rfl rfl dX9_lastEnd_20 rfl rfl ?_
  refine J_mmax kX9_348 rfl rfl dX9_lastEnd_23 ?_ 
  refine j_istore_n 1 (L' := [(1, _), (2, _), (0, _)]) dX9_lastEnd_26 rfl rfl rfl ?_
  refine J_iinc (L' := [(2, _), (1, _), (0, _)]) dX9_lastEnd_27 rfl rfl rfl ?_
  refine j_goto 4 dX9_lastEnd_30 (by decide) ?_
  refine j_iload_n 2 dX9_lastEnd_4 rfl rfl ?_
  refine j_aload_n 0 dX9_lastEnd_5 rfl rfl ?_
  refine j_get fX9_11 dX9_lastEnd_6 hD.1 rfl ?_
  refine J_alenq 3 dX9_lastEnd_9 hpa rfl ?_
  refine J_icmp_ge 33 dX9_lastEnd_10 (by decide) (fun c10 => absurd c10 (by omega)) (fun c10 => ?_) 
  refine j_iload_n 1 dX9_lastEnd_13 rfl rfl ?_
  refine j_aload_n 0 dX9_lastEnd_14 rfl rfl ?_
  refine j_get fX9_11 dX9_lastEnd_15 hD.1 rfl ?_
  refine j_iload_n 2 dX9_lastEnd_18 rfl rfl ?_
  refine J_qald dX9_lastEnd_19 hpa (hF4 1 (by omega)) ?_ 
  refine J_callV1 kX9_219 cvX6_end (hD.2.1.2 1 (by omega)).1 (c_X6_end (hD.2.1.2 1 (by omega))) rfl rfl rfl rfl rfl dX9_lastEnd_20 rfl rfl ?_
  refine J_mmax kX9_348 rfl rfl dX9_lastEnd_23 ?_ 
  refine j_istore_n 1 (L' := [(1, _), (2, _), (0, _)]) dX9_lastEnd_26 rfl rfl rfl ?_
  refine J_iinc (L' := [(2, _), (1, _), (0, _)]) dX9_lastEnd_27 rfl rfl rfl ?_
  refine j_goto 4 dX9_lastEnd_30 (by decide) ?_
  refine j_iload_n 2 dX9_lastEnd_4 rfl rfl ?_
  refine j_aload_n 0 dX9_lastEnd_5 rfl rfl ?_
  refine j_get fX9_11 dX9_lastEnd_6 hD.1 rfl ?_
  refine J_alenq 3 dX9_lastEnd_9 hpa rfl ?_
  refine J_icmp_ge 33 dX9_lastEnd_10 (by decide) (fun c10 => absurd c10 (by omega)) (fun c10 => ?_) 
  refine j_iload_n 1 dX9_lastEnd_13 rfl rfl ?_
  refine j_aload_n 0 dX9_lastEnd_14 rfl rfl ?_
  refine j_get fX9_11 dX9_lastEnd_15 hD.1 rfl ?_
  refine j_iload_n 2 dX9_lastEnd_18 rfl rfl ?_
  refine J_qald dX9_lastEnd_19 hpa (hF4 2 (by omega)) ?_ 
  refine J_callV1 kX9_219 cvX6_end (hD.2.1.2 2 (by omega)).1 (c_X6_end (hD.2.1.2 2 (by omega))) rfl rfl rfl rfl rfl dX9_lastEnd_20 rfl rfl ?_
  refine J_mmax kX9_348 rfl rfl dX9_lastEnd_23 ?_ 
  refine j_istore_n 1 (L' := [(1, _), (2, _), (0, _)]) dX9_lastEnd_26 rfl rfl rfl ?_
  refine J_iinc (L' := [(2, _), (1, _), (0, _)]) dX9_lastEnd_27 rfl rfl rfl ?_
  refine j_goto 4 dX9_lastEnd_30 (by decide) ?_
  refine j_iload_n 2 dX9_lastEnd_4 rfl rfl ?_
  refine j_aload_n 0 dX9_lastEnd_5 rfl rfl ?_
  refine j_get fX9_11 dX9_lastEnd_6 hD.1 rfl ?_
  refine J_alenq 3 dX9_lastEnd_9 hpa rfl ?_
  refine J_icmp_ge 33 dX9_lastEnd_10 (by decide) (fun c10 => absurd c10 (by omega)) (fun c10 => ?_) 
  refine j_iload_n 1 dX9_lastEnd_13 rfl rfl ?_
  refine j_aload_n 0 dX9_lastEnd_14 rfl rfl ?_
  refine j_get fX9_11 dX9_lastEnd_15 hD.1 rfl ?_
  refine j_iload_n 2 dX9_lastEnd_18 rfl rfl ?_
  refine J_qald dX9_lastEnd_19 hpa (hF4 3 (by omega)) ?_ 
  refine J_callV1 kX9_219 cvX6_end (hD.2.1.2 3 (by omega)).1 (c_X6_end (hD.2.1.2 3 (by omega))) rfl rfl rfl rfl rfl dX9_lastEnd_20 rfl rfl ?_
  refine J_mmax kX9_348 rfl rfl dX9_lastEnd_23 ?_ 
  refine j_istore_n 1 (L' := [(1, _), (2, _), (0, _)]) dX9_lastEnd_26 rfl rfl rfl ?_
  refine J_iinc (L' := [(2, _), (1, _), (0, _)]) dX9_lastEnd_27 rfl rfl rfl ?_
  refine j_goto 4 dX9_lastEnd_30 (by decide) ?_
  refine j_iload_n 2 dX9_lastEnd_4 rfl rfl ?_
  refine j_aload_n 0 dX9_lastEnd_5 rfl rfl ?_
  refine j_get fX9_11 dX9_lastEnd_6 hD.1 rfl ?_
  refine J_alenq 3 dX9_lastEnd_9 hpa rfl ?_
  refine J_icmp_ge 33 dX9_lastEnd_10 (by decide) (fun c10 => ?_) (fun c10 => absurd c10 (by omega)) 
  refine j_iload_n 1 dX9_lastEnd_33 rfl rfl ?_
  refine j_iret rfl dX9_lastEnd_34 ⟨oIe ?_, rfl⟩
  rfl
theorem evs_ge {P : Nat → OS} (h : scoOK P) : 0 ≤ evs P := by
  have h0 := (h 0 (by omega)).1.1
  have h1 := (h 1 (by omega)).1.1
  have h2 := (h 2 (by omega)).1.1
  have h3 := (h 3 (by omega)).1.1
  unfold evs
  omega
set_option maxRecDepth 100000 in
theorem c0_X9_checkRoom {l : Launch} {G : jG} {h : jH} {a : Nat} {d : DA} {s : DS} {Z : Nat → Nat} {b : Nat} {q6 : Nat → Nat} {p6 : OS} {v : Int} (hD : Desk G h a d s) (hI : DI s) (hZ : Dz a d Z) (hP : AtX6 G h b q6 p6) (he8 : 0 ≤ p6.1 8 ∧ p6.1 8 ≤ 20000) (hv : 0 ≤ v ∧ v ≤ 96) (hg : evs s.1 < 512 ∧ p6.1 8 + v ≤ (s.2.1 0).1 4) : jC l G yX9_checkRoom z9_checkRoom [.ref a, .ref b, vI v] h (jE oN h) := by
  refine j_body (by decide +kernel) ⟨rfl, rfl⟩ rfl ?_
  have hc4 := hI.2.2.1.1.2.1
  have hev : 0 ≤ evs s.1 ∧ evs s.1 ≤ 512 := ⟨evs_ge hI.1, hI.2.1⟩
  refine j_aload_n 0 dX9_checkRoom_0 rfl rfl ?_
  refine J_callV1 kX9_380 cvX9_allEvents hD.1 (c_X9_allEvents hD hI hZ) rfl rfl rfl rfl rfl dX9_checkRoom_1 rfl rfl ?_
  refine J_sipush dX9_checkRoom_4 (by decide) ?_
  refine J_icmp_ge 26 dX9_checkRoom_7 (by decide) (fun c7 => ?_) (fun c7 => ?_) 
  · exact absurd hg (by omega)
  · refine j_aload_n 1 dX9_checkRoom_10 rfl rfl ?_
    refine J_callV1 kX9_219 cvX6_end hP.1 (c_X6_end hP) rfl rfl rfl rfl rfl dX9_checkRoom_11 rfl rfl ?_
    refine j_iload_n 2 dX9_checkRoom_14 rfl rfl ?_
    refine J_iadd dX9_checkRoom_15 ?_
    refine j_aload_n 0 dX9_checkRoom_16 rfl rfl ?_
    refine j_get fX9_19 dX9_checkRoom_17 hD.1 rfl ?_
    refine J_callV1 kX9_383 cvX0_end (hD.2.2.1).1 (c_X0_end (hD.2.2.1)) rfl rfl rfl rfl rfl dX9_checkRoom_20 rfl rfl ?_
    refine J_icmp_le 37 dX9_checkRoom_23 (by decide) (fun c23 => ?_) (fun c23 => ?_) 
    · refine j_vret rfl dX9_checkRoom_37 ?_
      exact ⟨rfl, rfl⟩
    · exact absurd hg (by omega)
set_option maxRecDepth 100000 in
theorem c_X9_checkRoom {l : Launch} {G : jG} {h : jH} {a : Nat} {d : DA} {s : DS} {Z : Nat → Nat} {b : Nat} {q6 : Nat → Nat} {p6 : OS} {v : Int} (hl0 : l.stackTraces = false) (hD : Desk G h a d s) (hI : DI s) (hZ : Dz a d Z) (hP : AtX6 G h b q6 p6) (he8 : 0 ≤ p6.1 8 ∧ p6.1 8 ≤ 20000) (hv : 0 ≤ v ∧ v ≤ 96) (hg : ¬ (evs s.1 < 512 ∧ p6.1 8 + v ≤ (s.2.1 0).1 4)) : jC l G yX9_checkRoom mX9_checkRoom [.ref a, .ref b, vI v] h (jE (.inr "java/lang/IllegalStateException") h) := by
  refine j_body (by decide +kernel) ⟨rfl, rfl⟩ rfl ?_
  have hc4 := hI.2.2.1.1.2.1
  have hev : 0 ≤ evs s.1 ∧ evs s.1 ≤ 512 := ⟨evs_ge hI.1, hI.2.1⟩
  refine j_aload_n 0 dX9_checkRoom_0 rfl rfl ?_
  refine J_callV1 kX9_380 cvX9_allEvents hD.1 (c_X9_allEvents hD hI hZ) rfl rfl rfl rfl rfl dX9_checkRoom_1 rfl rfl ?_
  refine J_sipush dX9_checkRoom_4 (by decide) ?_
  refine J_icmp_ge 26 dX9_checkRoom_7 (by decide) (fun c7 => ?_) (fun c7 => ?_) 
  · refine j_throwSW (k := 4) hl0 rfl nX9_102 rfl rfl dX9_checkRoom_26 dX9_checkRoom_29 dX9_checkRoom_30 dX9_checkRoom_33 dX9_checkRoom_36 rfl rfl (by decide) (by decide) ?_
    exact ⟨rfl, rfl⟩
  · refine j_aload_n 1 dX9_checkRoom_10 rfl rfl ?_
    refine J_callV1 kX9_219 cvX6_end hP.1 (c_X6_end hP) rfl rfl rfl rfl rfl dX9_checkRoom_11 rfl rfl ?_
    refine j_iload_n 2 dX9_checkRoom_14 rfl rfl ?_
    refine J_iadd dX9_checkRoom_15 ?_
    refine j_aload_n 0 dX9_checkRoom_16 rfl rfl ?_
    refine j_get fX9_19 dX9_checkRoom_17 hD.1 rfl ?_
    refine J_callV1 kX9_383 cvX0_end (hD.2.2.1).1 (c_X0_end (hD.2.2.1)) rfl rfl rfl rfl rfl dX9_checkRoom_20 rfl rfl ?_
    refine J_icmp_le 37 dX9_checkRoom_23 (by decide) (fun c23 => ?_) (fun c23 => ?_) 
    · exact absurd (⟨by omega, by omega⟩ : evs s.1 < 512 ∧ p6.1 8 + v ≤ (s.2.1 0).1 4) hg
    · refine j_throwSW (k := 4) hl0 rfl nX9_102 rfl rfl dX9_checkRoom_26 dX9_checkRoom_29 dX9_checkRoom_30 dX9_checkRoom_33 dX9_checkRoom_36 rfl rfl (by decide) (by decide) ?_
      exact ⟨rfl, rfl⟩
set_option maxRecDepth 100000 in
theorem c_X9_forgetWhatFollows {l : Launch} {G : jG} {h : jH} {a : Nat} {d : DA} {s : DS} {Z : Nat → Nat}  (hD : Desk G h a d s) (hI : DI s) (hZ : Dz a d Z)  : jC l G yX9_forgetWhatFollows mX9_forgetWhatFollows [.ref a] h (jW oN (fun h' => Desk G h' a d (s.1, s.2.1, upN (upN (upN (upN (upN s.2.2 7 0) 8 0) 9 0) 10 (-1)) 11 (-1)) ∧ Fr (FtD a d) h h')) := by
  refine j_body (by decide +kernel) ⟨rfl, rfl⟩ rfl ?_
  have hF : Fr (FtD a d) h h := Fr.rf
  refine j_aload_n 0 dX9_forgetWhatFollows_0 rfl rfl ?_
  refine J_iconst dX9_forgetWhatFollows_1 ?_
  refine J_putZD hD hZ fX9_58 tyX9_heard dX9_forgetWhatFollows_2 ⟨rfl, rfl⟩ rfl rfl (fun h hD hF2 => ?_)
  have hF := hF.tr hF2
  refine j_aload_n 0 dX9_forgetWhatFollows_5 rfl rfl ?_
  refine J_iconst dX9_forgetWhatFollows_6 ?_
  refine J_putZD hD hZ fX9_62 tyX9_searched dX9_forgetWhatFollows_7 ⟨rfl, rfl⟩ rfl rfl (fun h hD hF7 => ?_)
  have hF := hF.tr hF7
  refine j_aload_n 0 dX9_forgetWhatFollows_10 rfl rfl ?_
  refine J_iconst dX9_forgetWhatFollows_11 ?_
  refine J_putZD hD hZ fX9_65 tyX9_widthsKnown dX9_forgetWhatFollows_12 ⟨rfl, rfl⟩ rfl rfl (fun h hD hF12 => ?_)
  have hF := hF.tr hF12
  refine j_aload_n 0 dX9_forgetWhatFollows_15 rfl rfl ?_
  refine J_iconst dX9_forgetWhatFollows_16 ?_
  refine J_putD hD hZ fX9_68 tyX9_laidPart dX9_forgetWhatFollows_17 rfl rfl (fun h hD hF17 => ?_)
  have hF := hF.tr hF17
  refine j_aload_n 0 dX9_forgetWhatFollows_20 rfl rfl ?_
  refine J_iconst dX9_forgetWhatFollows_21 ?_
  refine J_putD hD hZ fX9_72 tyX9_laidBar dX9_forgetWhatFollows_22 rfl rfl (fun h hD hF22 => ?_)
  have hF := hF.tr hF22
  refine j_vret rfl dX9_forgetWhatFollows_25 ?_
  exact ⟨rfl, hD, hF⟩
set_option maxRecDepth 100000 in
theorem c_X9_hear {l : Launch} {G : jG} {h : jH} {a : Nat} {d : DA} {s : DS} {Z : Nat → Nat}  (hD : Desk G h a d s) (hI : DI s) (hZ : Dz a d Z)  : jC l G yX9_hear mX9_hear [.ref a] h (jW oN (DP G a d s h (fun s' => s'.2.2 7 = 1 ∧ ∀ k, k ≠ 7 → s'.2.2 k = s.2.2 k))) := by
  refine j_body (by decide +kernel) ⟨rfl, rfl⟩ rfl ?_
  have hF : Fr (FtD a d) h h := Fr.rf
  refine j_aload_n 0 dX9_hear_0 rfl rfl ?_
  refine j_get fX9_58 dX9_hear_1 hD.1 rfl ?_
  have h7 := hI.rg7
  refine J_if_ne 23 dX9_hear_4 (by decide) (fun c4 => ?_) (fun c4 => ?_) 
  · refine j_vret rfl dX9_hear_23 ?_
    first | exact ⟨rfl, s, hD, hI, rfl, rfl, ⟨by omega, fun _ _ => rfl⟩, hF⟩ | exact ⟨rfl, _, hD, hI.set3 (listen_ok s.1 _), rfl, rfl, ⟨rfl, fun k hk => upN_n hk⟩, hF⟩
  · refine j_aload_n 0 dX9_hear_7 rfl rfl ?_
    refine j_get fX9_33 dX9_hear_8 hD.1 rfl ?_
    refine j_aload_n 0 dX9_hear_11 rfl rfl ?_
    refine j_get fX9_11 dX9_hear_12 hD.1 rfl ?_
    refine J_callVW0 kX9_338 cvX3_listen (hD.2.2.2.2.2.1).1 (c_X3_listen (hD.2.2.2.2.2.1) hD.2.1 hI.1.Z hZ.p3) rfl rfl rfl rfl rfl dX9_hear_15 rfl rfl (fun h hp => ?_)
    obtain ⟨hD, hF9⟩ := hD.w3 hZ hp.1 hp.2
    have hF := hF.tr hF9
    refine j_aload_n 0 dX9_hear_18 rfl rfl ?_
    refine J_iconst dX9_hear_19 ?_
    refine J_putZD hD hZ fX9_58 tyX9_heard dX9_hear_20 ⟨rfl, rfl⟩ rfl rfl (fun h hD hF20 => ?_)
    have hF := hF.tr hF20
    refine j_vret rfl dX9_hear_23 ?_
    first | exact ⟨rfl, s, hD, hI, rfl, rfl, ⟨by omega, fun _ _ => rfl⟩, hF⟩ | exact ⟨rfl, _, hD, hI.set3 (listen_ok s.1 _), rfl, rfl, ⟨rfl, fun k hk => upN_n hk⟩, hF⟩
theorem fZ_sea {P : Nat → OS} (hZ : PsZ P) {p3 p : OS} (h : fZ p) : fZ (seaP P p3 p) := by
  unfold seaP
  refine fZ_srM hZ ⟨⟨Int.le_refl _, by show (0 : Int) ≤ 2560; omega⟩, fun j h0 h4 => ?_⟩ _
  have hj := h.2 j h0 h4
  refine ⟨hj.1, ?_, hj.2.2.1, hj.2.2.2⟩
  show -1 ≤ rng (p.2 4) 0 4 (-1) j ∧ rng (p.2 4) 0 4 (-1) j ≤ 200
  unfold rng
  rw [if_pos ⟨h0, h4⟩]
  omega
set_option maxRecDepth 100000 in
theorem c_X9_searchFaults {l : Launch} {G : jG} {h : jH} {a : Nat} {d : DA} {s : DS} {Z : Nat → Nat}  (hD : Desk G h a d s) (hI : DI s) (hZ : Dz a d Z)  : jC l G yX9_searchFaults mX9_searchFaults [.ref a] h (jW oN (DP G a d s h (fun s' => s'.2.2 7 = 1 ∧ s'.2.2 8 = 1 ∧ ∀ k, k ≠ 7 → k ≠ 8 → s'.2.2 k = s.2.2 k))) := by
  refine j_body (by decide +kernel) ⟨rfl, rfl⟩ rfl ?_
  have hF : Fr (FtD a d) h h := Fr.rf
  refine j_aload_n 0 dX9_searchFaults_0 rfl rfl ?_
  refine J_callVW0 kX9_225 cvX9_hear hD.1 (c_X9_hear hD hI hZ) rfl rfl rfl rfl rfl dX9_searchFaults_1 rfl rfl (fun h hp => ?_)
  obtain ⟨s1, hD, hI, e1, e2, ⟨e3, e4⟩, hF9⟩ := hp
  have hF := hF.tr hF9
  have hH := hI.har (by omega)
  refine j_aload_n 0 dX9_searchFaults_4 rfl rfl ?_
  refine j_get fX9_62 dX9_searchFaults_5 hD.1 rfl ?_
  have h8 := hI.rg8
  refine J_if_ne 31 dX9_searchFaults_8 (by decide) (fun c8 => ?_) (fun c8 => ?_) 
  · refine j_vret rfl dX9_searchFaults_31 ?_
    first | exact ⟨rfl, s1, hD, hI, e1, e2, ⟨e3, by omega, fun k a _ => e4 k a⟩, hF⟩ | exact ⟨rfl, _, hD, hI.set2 (sea_ok hI.1 hI.2.1 _ hH) (fZ_sea hI.1.Z hI.2.2.2.2.1), e1, e2, ⟨e3, rfl, fun k a c => (upN_n c).trans (e4 k a)⟩, hF⟩
  · refine j_aload_n 0 dX9_searchFaults_11 rfl rfl ?_
    refine j_get fX9_47 dX9_searchFaults_12 hD.1 rfl ?_
    refine j_aload_n 0 dX9_searchFaults_15 rfl rfl ?_
    refine j_get fX9_11 dX9_searchFaults_16 hD.1 rfl ?_
    refine j_aload_n 0 dX9_searchFaults_19 rfl rfl ?_
    refine j_get fX9_33 dX9_searchFaults_20 hD.1 rfl ?_
    refine J_callVW0 kX9_270 cvX2_search (hD.2.2.2.2.1).1 (c_X2_search (hD.2.2.2.2.1) hI.2.2.2.2.1 hD.2.1 hI.1.Z (hD.2.2.2.2.2.1) (har_n hH) (har_E hI.1 hH) (har_T hI.1 hH) hZ.p2 hZ.d32) rfl rfl rfl rfl rfl dX9_searchFaults_23 rfl rfl (fun h hp => ?_)
    obtain ⟨hD, hF8⟩ := hD.w2 hZ hp.1 hp.2
    have hF := hF.tr hF8
    refine j_aload_n 0 dX9_searchFaults_26 rfl rfl ?_
    refine J_iconst dX9_searchFaults_27 ?_
    refine J_putZD hD hZ fX9_62 tyX9_searched dX9_searchFaults_28 ⟨rfl, rfl⟩ rfl rfl (fun h hD hF28 => ?_)
    have hF := hF.tr hF28
    refine j_vret rfl dX9_searchFaults_31 ?_
    first | exact ⟨rfl, s1, hD, hI, e1, e2, ⟨e3, by omega, fun k a _ => e4 k a⟩, hF⟩ | exact ⟨rfl, _, hD, hI.set2 (sea_ok hI.1 hI.2.1 _ hH) (fZ_sea hI.1.Z hI.2.2.2.2.1), e1, e2, ⟨e3, rfl, fun k a c => (upN_n c).trans (e4 k a)⟩, hF⟩
set_option maxRecDepth 100000 in
theorem c_X9_measureWidths {l : Launch} {G : jG} {h : jH} {a : Nat} {d : DA} {s : DS} {Z : Nat → Nat}  (hD : Desk G h a d s) (hI : DI s) (hZ : Dz a d Z)  : jC l G yX9_measureWidths mX9_measureWidths [.ref a] h (jW oN (DP G a d s h (fun s' => s'.2.2 7 = 1 ∧ s'.2.2 9 = 1 ∧ ∀ k, k ≠ 7 → k ≠ 9 → s'.2.2 k = s.2.2 k))) := by
  refine j_body (by decide +kernel) ⟨rfl, rfl⟩ rfl ?_
  have hF : Fr (FtD a d) h h := Fr.rf
  refine j_aload_n 0 dX9_measureWidths_0 rfl rfl ?_
  refine J_callVW0 kX9_225 cvX9_hear hD.1 (c_X9_hear hD hI hZ) rfl rfl rfl rfl rfl dX9_measureWidths_1 rfl rfl (fun h hp => ?_)
  obtain ⟨s1, hD, hI, e1, e2, ⟨e3, e4⟩, hF9⟩ := hp
  have hF := hF.tr hF9
  have hH := hI.har (by omega)
  refine j_aload_n 0 dX9_measureWidths_4 rfl rfl ?_
  refine j_get fX9_65 dX9_measureWidths_5 hD.1 rfl ?_
  have h9 := hI.rg9
  refine J_if_ne 31 dX9_measureWidths_8 (by decide) (fun c8 => ?_) (fun c8 => ?_) 
  · refine j_vret rfl dX9_measureWidths_31 ?_
    first | exact ⟨rfl, s1, hD, hI, e1, e2, ⟨e3, by omega, fun k a _ => e4 k a⟩, hF⟩ | exact ⟨rfl, _, hD, hI.set4 (wid_ok hH _), e1, e2, ⟨e3, rfl, fun k a c => (upN_n c).trans (e4 k a)⟩, hF⟩
  · refine j_aload_n 0 dX9_measureWidths_11 rfl rfl ?_
    refine j_get fX9_54 dX9_measureWidths_12 hD.1 rfl ?_
    refine j_aload_n 0 dX9_measureWidths_15 rfl rfl ?_
    refine j_get fX9_19 dX9_measureWidths_16 hD.1 rfl ?_
    refine j_aload_n 0 dX9_measureWidths_19 rfl rfl ?_
    refine j_get fX9_33 dX9_measureWidths_20 hD.1 rfl ?_
    refine J_callVW0 kX9_342 cvX4_measureWidths (hD.2.2.2.2.2.2.1).1 (c_X4_measureWidths (hD.2.2.2.2.2.2.1) (hD.2.2.1) hI.2.2.1.1.1 hI.2.2.1.1.K (hD.2.2.2.2.2.1) (har_n hH) (har_T2 hI.1 hH) hZ.d04 hZ.d34) rfl rfl rfl rfl rfl dX9_measureWidths_23 rfl rfl (fun h hp => ?_)
    obtain ⟨hD, hF8⟩ := hD.w4 hZ hp.1 hp.2
    have hF := hF.tr hF8
    refine j_aload_n 0 dX9_measureWidths_26 rfl rfl ?_
    refine J_iconst dX9_measureWidths_27 ?_
    refine J_putZD hD hZ fX9_65 tyX9_widthsKnown dX9_measureWidths_28 ⟨rfl, rfl⟩ rfl rfl (fun h hD hF28 => ?_)
    have hF := hF.tr hF28
    refine j_vret rfl dX9_measureWidths_31 ?_
    first | exact ⟨rfl, s1, hD, hI, e1, e2, ⟨e3, by omega, fun k a _ => e4 k a⟩, hF⟩ | exact ⟨rfl, _, hD, hI.set4 (wid_ok hH _), e1, e2, ⟨e3, rfl, fun k a c => (upN_n c).trans (e4 k a)⟩, hF⟩
theorem lastE_rg {P : Nat → OS} (h : scoOK P) : 0 ≤ lastE P ∧ lastE P ≤ 20000 := by
  have h0 := (h 0 (by omega)).2.2.1.1
  have h1 := (h 1 (by omega)).2.2.1.1
  have h2 := (h 2 (by omega)).2.2.1.1
  have h3 := (h 3 (by omega)).2.2.1.1
  unfold lastE
  omega
set_option maxRecDepth 100000 in
theorem c_X9_breakLines {l : Launch} {G : jG} {h : jH} {a : Nat} {d : DA} {s : DS} {Z : Nat → Nat} {w : Int} (hD : Desk G h a d s) (hI : DI s) (hZ : Dz a d Z) (hw : 10 ≤ w ∧ w ≤ 400) (h9 : s.2.2 9 = 1) : jC l G yX9_breakLines mX9_breakLines [.ref a, vI w] h (jW oN (DP G a d s h (fun s' => (∀ k, s'.2.2 k = s.2.2 k) ∧ BrkEq (s'.2.1 4) (lnP s.1 (s.2.1 0) (barsA s.1 (s.2.1 0)) w)))) := by
  refine j_body (by decide +kernel) ⟨rfl, rfl⟩ rfl ?_
  have hF : Fr (FtD a d) h h := Fr.rf
  have hW := hI.wid (by omega)
  have hb := barsA_rg s.1 (s.2.1 0)
  have hle := lastE_rg hI.1
  refine j_aload_n 0 dX9_breakLines_0 rfl rfl ?_
  refine j_get fX9_54 dX9_breakLines_1 hD.1 rfl ?_
  refine j_aload_n 0 dX9_breakLines_4 rfl rfl ?_
  refine j_get fX9_19 dX9_breakLines_5 hD.1 rfl ?_
  refine j_aload_n 0 dX9_breakLines_8 rfl rfl ?_
  refine J_callV1 kX9_274 cvX9_lastEnd hD.1 (c_X9_lastEnd hD hI hZ) rfl rfl rfl rfl rfl dX9_breakLines_9 rfl rfl ?_
  refine J_callV1 kX9_277 cvX0_barsUpTo (hD.2.2.1).1 (c_X0_barsUpTo (hD.2.2.1) hI.2.2.1.1.1 (by have := hI.2.2.1.1.2.1; omega) (by omega)) rfl rfl rfl rfl rfl dX9_breakLines_12 rfl rfl ?_
  refine J_top (barsA s.1 (s.2.1 0)) ?_ (by rfl)
  refine j_iload_n 1 dX9_breakLines_15 rfl rfl ?_
  refine J_callVW0 kX9_345 cvX4_breakUp (hD.2.2.2.2.2.2.1).1 (c_X4_breakUp (hD.2.2.2.2.2.2.1) (barsA_rg _ _) hw (hW.Z hI.2.2.1.1)) rfl rfl rfl rfl rfl dX9_breakLines_16 rfl rfl (fun h hp => ?_)
  obtain ⟨hD, hF8⟩ := hD.w4 hZ hp.1 hp.2
  have hF := hF.tr hF8
  refine j_vret rfl dX9_breakLines_19 ?_
  exact ⟨rfl, _, hD, hI.brk (fun _ => by unfold WidOK; rw [brk_wid]; exact hW), rfl, rfl, ⟨fun _ => rfl, by show BrkEq (upN s.2.1 4 _ 4) _; rw [upN_s]; exact lnP_eq hW hb.1 hb.2⟩, hF⟩
