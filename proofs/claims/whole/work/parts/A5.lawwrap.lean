/-! the law's own methods: a call, what it threw as a number -/
theorem kx13 : Cond.classLink RL 13 "java/lang/IndexOutOfBoundsException" ∈ WT := wt 808 (by decide +kernel) rfl
theorem kx15 : Cond.classLink RL 15 "java/lang/IllegalArgumentException" ∈ WT := wt 809 (by decide +kernel) rfl
theorem kx17 : Cond.classLink RL 17 "java/lang/IllegalStateException" ∈ WT := wt 810 (by decide +kernel) rfl
theorem cxIO : Cond.castable "java/lang/IndexOutOfBoundsException" "java/lang/IndexOutOfBoundsException" ∈ jNg := by decide +kernel
theorem cxIA : Cond.castable "java/lang/IllegalArgumentException" "java/lang/IllegalArgumentException" ∈ jNg := by decide +kernel
theorem cxIS : Cond.castable "java/lang/IllegalStateException" "java/lang/IllegalStateException" ∈ jNg := by decide +kernel
/-- what the call's answer leaves in the row -/
def WR (G : jG) (o : Nat) (P : jH → Prop) (t v : Int) : jH → Prop := fun h' => ∃ (h1 : jH) (f' : Nat → Int64), P h1 ∧ h' o = some (aJ G 1 f') ∧ (t = 0 → f' 0 = (Int32.ofInt v).toInt64) ∧ ∀ c, c ≠ o → h' c = h1 c
set_option maxRecDepth 100000 in
theorem c_L_addNote {l : Launch} {G : jG} {h : jH} {a o : Nat} {fs : List Value} {r : jO} {P : jH → Prop} {f : Nat → Int64} {t v : Int} {v0 v1 v2 v3 : Int} (ha : h a = some (.inr (7, fs))) (C : jC l G yX9_addNote mX9_addNote [.ref a, vI v0, vI v1, vI v2, vI v3] h (jW r P)) (hr : (t = 0 ∧ r = oI v) ∨ (t = 1 ∧ r = .inr "java/lang/IndexOutOfBoundsException") ∨ (t = 2 ∧ r = .inr "java/lang/IllegalArgumentException") ∨ (t = 3 ∧ r = .inr "java/lang/IllegalStateException")) (hP : ∀ h', P h' → h' o = some (aJ G 1 f)) : jC l G yL_addNote mL_addNote [.ref a, vI v0, vI v1, vI v2, vI v3, .ref o] h (jW (oI t) (WR G o P t v)) := by
  refine j_body (by decide +kernel) ⟨rfl, rfl⟩ rfl ?_
  refine j_aload dL_addNote_0 rfl ?_
  refine J_iconst dL_addNote_2 ?_
  refine j_aload_n 0 dL_addNote_3 rfl rfl ?_
  refine j_iload_n 1 dL_addNote_4 rfl rfl ?_
  refine j_iload_n 2 dL_addNote_5 rfl rfl ?_
  refine j_iload_n 3 dL_addNote_6 rfl rfl ?_
  refine j_iload dL_addNote_7 rfl ?_
  rcases hr with ⟨rfl, rfl⟩ | ⟨rfl, rfl⟩ | ⟨rfl, rfl⟩ | ⟨rfl, rfl⟩
  · refine j_callV (ck' := 0) (sk' := 0) kL_7 cvX9_addNote ha C rfl rfl rfl rfl rfl dL_addNote_9 (by decide) (by decide) (fun v9 h1 hp => ?_) (fun E h' hp => by cases hp.1)
    obtain ⟨e9, hp⟩ := hp
    cases e9
    refine j_i2l dL_addNote_12 ?_
    refine j_last dL_addNote_13 (hP _ hp) (I_vpin (by decide) (by decide)) ?_
    refine j_goto 29 dL_addNote_14 (by decide) ?_
    refine J_iconst dL_addNote_29 ?_
    refine j_iret rfl dL_addNote_30 ?_
    exact ⟨rfl, h1, _, hp, hset_s _ _ _, fun _ => rfl, fun c hc => hset_n hc⟩
  · refine j_callV (ck' := 0) (sk' := 0) kL_7 cvX9_addNote ha C rfl rfl rfl rfl rfl dL_addNote_9 (by decide) (by decide) (fun v9 h1 hp => by cases hp.1) (fun E h1 hp => ?_)
    obtain ⟨e9, hp⟩ := hp
    cases e9
    refine jX_catch [] ⟨0, 14, 17, 13⟩ [⟨0, 14, 21, 15⟩, ⟨0, 14, 25, 17⟩] rfl (fun _ h => absurd h List.not_mem_nil) (by decide) (by decide : (13 : Nat) ≠ 0) kx13 cxIO (fun q => ?_)
    refine j_astore (L' := [(6, _), (0, _), (1, _), (2, _), (3, _), (4, _), (5, _)]) dL_addNote_17 rfl rfl ?_
    refine J_iconst dL_addNote_19 ?_
    refine j_iret rfl dL_addNote_20 ?_
    exact ⟨rfl, h1, f, hp, hP _ hp, fun z => absurd z (by decide), fun _ _ => rfl⟩
  · refine j_callV (ck' := 0) (sk' := 0) kL_7 cvX9_addNote ha C rfl rfl rfl rfl rfl dL_addNote_9 (by decide) (by decide) (fun v9 h1 hp => by cases hp.1) (fun E h1 hp => ?_)
    obtain ⟨e9, hp⟩ := hp
    cases e9
    refine jX_catch [⟨0, 14, 17, 13⟩] ⟨0, 14, 21, 15⟩ [⟨0, 14, 25, 17⟩] rfl (List.forall_mem_cons.mpr ⟨⟨(by decide : (13 : Nat) ≠ 0), _, kx13, by decide +kernel⟩, fun _ h => absurd h List.not_mem_nil⟩) (by decide) (by decide : (15 : Nat) ≠ 0) kx15 cxIA (fun q => ?_)
    refine j_astore (L' := [(6, _), (0, _), (1, _), (2, _), (3, _), (4, _), (5, _)]) dL_addNote_21 rfl rfl ?_
    refine J_iconst dL_addNote_23 ?_
    refine j_iret rfl dL_addNote_24 ?_
    exact ⟨rfl, h1, f, hp, hP _ hp, fun z => absurd z (by decide), fun _ _ => rfl⟩
  · refine j_callV (ck' := 0) (sk' := 0) kL_7 cvX9_addNote ha C rfl rfl rfl rfl rfl dL_addNote_9 (by decide) (by decide) (fun v9 h1 hp => by cases hp.1) (fun E h1 hp => ?_)
    obtain ⟨e9, hp⟩ := hp
    cases e9
    refine jX_catch [⟨0, 14, 17, 13⟩, ⟨0, 14, 21, 15⟩] ⟨0, 14, 25, 17⟩ [] rfl (List.forall_mem_cons.mpr ⟨⟨(by decide : (13 : Nat) ≠ 0), _, kx13, by decide +kernel⟩, List.forall_mem_cons.mpr ⟨⟨(by decide : (15 : Nat) ≠ 0), _, kx15, by decide +kernel⟩, fun _ h => absurd h List.not_mem_nil⟩⟩) (by decide) (by decide : (17 : Nat) ≠ 0) kx17 cxIS (fun q => ?_)
    refine j_astore (L' := [(6, _), (0, _), (1, _), (2, _), (3, _), (4, _), (5, _)]) dL_addNote_25 rfl rfl ?_
    refine J_iconst dL_addNote_27 ?_
    refine j_iret rfl dL_addNote_28 ?_
    exact ⟨rfl, h1, f, hp, hP _ hp, fun z => absurd z (by decide), fun _ _ => rfl⟩
set_option maxRecDepth 100000 in
theorem c_L_addRest {l : Launch} {G : jG} {h : jH} {a o : Nat} {fs : List Value} {r : jO} {P : jH → Prop} {f : Nat → Int64} {t v : Int} {v0 v1 : Int} (ha : h a = some (.inr (7, fs))) (C : jC l G yX9_addRest mX9_addRest [.ref a, vI v0, vI v1] h (jW r P)) (hr : (t = 0 ∧ r = oI v) ∨ (t = 1 ∧ r = .inr "java/lang/IndexOutOfBoundsException") ∨ (t = 2 ∧ r = .inr "java/lang/IllegalArgumentException") ∨ (t = 3 ∧ r = .inr "java/lang/IllegalStateException")) (hP : ∀ h', P h' → h' o = some (aJ G 1 f)) : jC l G yL_addRest mL_addRest [.ref a, vI v0, vI v1, .ref o] h (jW (oI t) (WR G o P t v)) := by
  refine j_body (by decide +kernel) ⟨rfl, rfl⟩ rfl ?_
  refine j_aload_n 3 dL_addRest_0 rfl rfl ?_
  refine J_iconst dL_addRest_1 ?_
  refine j_aload_n 0 dL_addRest_2 rfl rfl ?_
  refine j_iload_n 1 dL_addRest_3 rfl rfl ?_
  refine j_iload_n 2 dL_addRest_4 rfl rfl ?_
  rcases hr with ⟨rfl, rfl⟩ | ⟨rfl, rfl⟩ | ⟨rfl, rfl⟩ | ⟨rfl, rfl⟩
  · refine j_callV (ck' := 0) (sk' := 0) kL_19 cvX9_addRest ha C rfl rfl rfl rfl rfl dL_addRest_5 (by decide) (by decide) (fun v9 h1 hp => ?_) (fun E h' hp => by cases hp.1)
    obtain ⟨e9, hp⟩ := hp
    cases e9
    refine j_i2l dL_addRest_8 ?_
    refine j_last dL_addRest_9 (hP _ hp) (I_vpin (by decide) (by decide)) ?_
    refine j_goto 25 dL_addRest_10 (by decide) ?_
    refine J_iconst dL_addRest_25 ?_
    refine j_iret rfl dL_addRest_26 ?_
    exact ⟨rfl, h1, _, hp, hset_s _ _ _, fun _ => rfl, fun c hc => hset_n hc⟩
  · refine j_callV (ck' := 0) (sk' := 0) kL_19 cvX9_addRest ha C rfl rfl rfl rfl rfl dL_addRest_5 (by decide) (by decide) (fun v9 h1 hp => by cases hp.1) (fun E h1 hp => ?_)
    obtain ⟨e9, hp⟩ := hp
    cases e9
    refine jX_catch [] ⟨0, 10, 13, 13⟩ [⟨0, 10, 17, 15⟩, ⟨0, 10, 21, 17⟩] rfl (fun _ h => absurd h List.not_mem_nil) (by decide) (by decide : (13 : Nat) ≠ 0) kx13 cxIO (fun q => ?_)
    refine j_astore (L' := [(4, _), (0, _), (1, _), (2, _), (3, _)]) dL_addRest_13 rfl rfl ?_
    refine J_iconst dL_addRest_15 ?_
    refine j_iret rfl dL_addRest_16 ?_
    exact ⟨rfl, h1, f, hp, hP _ hp, fun z => absurd z (by decide), fun _ _ => rfl⟩
  · refine j_callV (ck' := 0) (sk' := 0) kL_19 cvX9_addRest ha C rfl rfl rfl rfl rfl dL_addRest_5 (by decide) (by decide) (fun v9 h1 hp => by cases hp.1) (fun E h1 hp => ?_)
    obtain ⟨e9, hp⟩ := hp
    cases e9
    refine jX_catch [⟨0, 10, 13, 13⟩] ⟨0, 10, 17, 15⟩ [⟨0, 10, 21, 17⟩] rfl (List.forall_mem_cons.mpr ⟨⟨(by decide : (13 : Nat) ≠ 0), _, kx13, by decide +kernel⟩, fun _ h => absurd h List.not_mem_nil⟩) (by decide) (by decide : (15 : Nat) ≠ 0) kx15 cxIA (fun q => ?_)
    refine j_astore (L' := [(4, _), (0, _), (1, _), (2, _), (3, _)]) dL_addRest_17 rfl rfl ?_
    refine J_iconst dL_addRest_19 ?_
    refine j_iret rfl dL_addRest_20 ?_
    exact ⟨rfl, h1, f, hp, hP _ hp, fun z => absurd z (by decide), fun _ _ => rfl⟩
  · refine j_callV (ck' := 0) (sk' := 0) kL_19 cvX9_addRest ha C rfl rfl rfl rfl rfl dL_addRest_5 (by decide) (by decide) (fun v9 h1 hp => by cases hp.1) (fun E h1 hp => ?_)
    obtain ⟨e9, hp⟩ := hp
    cases e9
    refine jX_catch [⟨0, 10, 13, 13⟩, ⟨0, 10, 17, 15⟩] ⟨0, 10, 21, 17⟩ [] rfl (List.forall_mem_cons.mpr ⟨⟨(by decide : (13 : Nat) ≠ 0), _, kx13, by decide +kernel⟩, List.forall_mem_cons.mpr ⟨⟨(by decide : (15 : Nat) ≠ 0), _, kx15, by decide +kernel⟩, fun _ h => absurd h List.not_mem_nil⟩⟩) (by decide) (by decide : (17 : Nat) ≠ 0) kx17 cxIS (fun q => ?_)
    refine j_astore (L' := [(4, _), (0, _), (1, _), (2, _), (3, _)]) dL_addRest_21 rfl rfl ?_
    refine J_iconst dL_addRest_23 ?_
    refine j_iret rfl dL_addRest_24 ?_
    exact ⟨rfl, h1, f, hp, hP _ hp, fun z => absurd z (by decide), fun _ _ => rfl⟩
set_option maxRecDepth 100000 in
theorem c_L_takeLast {l : Launch} {G : jG} {h : jH} {a o : Nat} {fs : List Value} {r : jO} {P : jH → Prop} {f : Nat → Int64} {t v : Int} {v0 : Int} (ha : h a = some (.inr (7, fs))) (C : jC l G yX9_takeLast mX9_takeLast [.ref a, vI v0] h (jW r P)) (hr : (t = 0 ∧ r = oI v) ∨ (t = 1 ∧ r = .inr "java/lang/IndexOutOfBoundsException") ∨ (t = 2 ∧ r = .inr "java/lang/IllegalStateException")) (hP : ∀ h', P h' → h' o = some (aJ G 1 f)) : jC l G yL_takeLast mL_takeLast [.ref a, vI v0, .ref o] h (jW (oI t) (WR G o P t v)) := by
  refine j_body (by decide +kernel) ⟨rfl, rfl⟩ rfl ?_
  refine j_aload_n 2 dL_takeLast_0 rfl rfl ?_
  refine J_iconst dL_takeLast_1 ?_
  refine j_aload_n 0 dL_takeLast_2 rfl rfl ?_
  refine j_iload_n 1 dL_takeLast_3 rfl rfl ?_
  rcases hr with ⟨rfl, rfl⟩ | ⟨rfl, rfl⟩ | ⟨rfl, rfl⟩
  · refine j_callV (ck' := 0) (sk' := 0) kL_23 cvX9_takeLast ha C rfl rfl rfl rfl rfl dL_takeLast_4 (by decide) (by decide) (fun v9 h1 hp => ?_) (fun E h' hp => by cases hp.1)
    obtain ⟨e9, hp⟩ := hp
    cases e9
    refine j_i2l dL_takeLast_7 ?_
    refine j_last dL_takeLast_8 (hP _ hp) (I_vpin (by decide) (by decide)) ?_
    refine j_goto 18 dL_takeLast_9 (by decide) ?_
    refine J_iconst dL_takeLast_18 ?_
    refine j_iret rfl dL_takeLast_19 ?_
    exact ⟨rfl, h1, _, hp, hset_s _ _ _, fun _ => rfl, fun c hc => hset_n hc⟩
  · refine j_callV (ck' := 0) (sk' := 0) kL_23 cvX9_takeLast ha C rfl rfl rfl rfl rfl dL_takeLast_4 (by decide) (by decide) (fun v9 h1 hp => by cases hp.1) (fun E h1 hp => ?_)
    obtain ⟨e9, hp⟩ := hp
    cases e9
    refine jX_catch [] ⟨0, 9, 12, 13⟩ [⟨0, 9, 15, 17⟩] rfl (fun _ h => absurd h List.not_mem_nil) (by decide) (by decide : (13 : Nat) ≠ 0) kx13 cxIO (fun q => ?_)
    refine j_astore_n 3 (L' := [(3, _), (0, _), (1, _), (2, _)]) dL_takeLast_12 rfl rfl rfl ?_
    refine J_iconst dL_takeLast_13 ?_
    refine j_iret rfl dL_takeLast_14 ?_
    exact ⟨rfl, h1, f, hp, hP _ hp, fun z => absurd z (by decide), fun _ _ => rfl⟩
  · refine j_callV (ck' := 0) (sk' := 0) kL_23 cvX9_takeLast ha C rfl rfl rfl rfl rfl dL_takeLast_4 (by decide) (by decide) (fun v9 h1 hp => by cases hp.1) (fun E h1 hp => ?_)
    obtain ⟨e9, hp⟩ := hp
    cases e9
    refine jX_catch [⟨0, 9, 12, 13⟩] ⟨0, 9, 15, 17⟩ [] rfl (List.forall_mem_cons.mpr ⟨⟨(by decide : (13 : Nat) ≠ 0), _, kx13, by decide +kernel⟩, fun _ h => absurd h List.not_mem_nil⟩) (by decide) (by decide : (17 : Nat) ≠ 0) kx17 cxIS (fun q => ?_)
    refine j_astore_n 3 (L' := [(3, _), (0, _), (1, _), (2, _)]) dL_takeLast_15 rfl rfl rfl ?_
    refine J_iconst dL_takeLast_16 ?_
    refine j_iret rfl dL_takeLast_17 ?_
    exact ⟨rfl, h1, f, hp, hP _ hp, fun z => absurd z (by decide), fun _ _ => rfl⟩
set_option maxRecDepth 100000 in
theorem c_L_setPitch {l : Launch} {G : jG} {h : jH} {a o : Nat} {fs : List Value} {r : jO} {P : jH → Prop} {f : Nat → Int64} {t v : Int} {v0 v1 v2 v3 : Int} (ha : h a = some (.inr (7, fs))) (C : jC l G yX9_setPitch mX9_setPitch [.ref a, vI v0, vI v1, vI v2, vI v3] h (jW r P)) (hr : (t = 0 ∧ r = oI v) ∨ (t = 1 ∧ r = .inr "java/lang/IndexOutOfBoundsException") ∨ (t = 2 ∧ r = .inr "java/lang/IllegalArgumentException") ∨ (t = 3 ∧ r = .inr "java/lang/IllegalStateException")) (hP : ∀ h', P h' → h' o = some (aJ G 1 f)) : jC l G yL_setPitch mL_setPitch [.ref a, vI v0, vI v1, vI v2, vI v3, .ref o] h (jW (oI t) (WR G o P t v)) := by
  refine j_body (by decide +kernel) ⟨rfl, rfl⟩ rfl ?_
  refine j_aload dL_setPitch_0 rfl ?_
  refine J_iconst dL_setPitch_2 ?_
  refine j_aload_n 0 dL_setPitch_3 rfl rfl ?_
  refine j_iload_n 1 dL_setPitch_4 rfl rfl ?_
  refine j_iload_n 2 dL_setPitch_5 rfl rfl ?_
  refine j_iload_n 3 dL_setPitch_6 rfl rfl ?_
  refine j_iload dL_setPitch_7 rfl ?_
  rcases hr with ⟨rfl, rfl⟩ | ⟨rfl, rfl⟩ | ⟨rfl, rfl⟩ | ⟨rfl, rfl⟩
  · refine j_callV (ck' := 0) (sk' := 0) kL_27 cvX9_setPitch ha C rfl rfl rfl rfl rfl dL_setPitch_9 (by decide) (by decide) (fun v9 h1 hp => ?_) (fun E h' hp => by cases hp.1)
    obtain ⟨e9, hp⟩ := hp
    cases e9
    refine j_i2l dL_setPitch_12 ?_
    refine j_last dL_setPitch_13 (hP _ hp) (I_vpin (by decide) (by decide)) ?_
    refine j_goto 29 dL_setPitch_14 (by decide) ?_
    refine J_iconst dL_setPitch_29 ?_
    refine j_iret rfl dL_setPitch_30 ?_
    exact ⟨rfl, h1, _, hp, hset_s _ _ _, fun _ => rfl, fun c hc => hset_n hc⟩
  · refine j_callV (ck' := 0) (sk' := 0) kL_27 cvX9_setPitch ha C rfl rfl rfl rfl rfl dL_setPitch_9 (by decide) (by decide) (fun v9 h1 hp => by cases hp.1) (fun E h1 hp => ?_)
    obtain ⟨e9, hp⟩ := hp
    cases e9
    refine jX_catch [] ⟨0, 14, 17, 13⟩ [⟨0, 14, 21, 15⟩, ⟨0, 14, 25, 17⟩] rfl (fun _ h => absurd h List.not_mem_nil) (by decide) (by decide : (13 : Nat) ≠ 0) kx13 cxIO (fun q => ?_)
    refine j_astore (L' := [(6, _), (0, _), (1, _), (2, _), (3, _), (4, _), (5, _)]) dL_setPitch_17 rfl rfl ?_
    refine J_iconst dL_setPitch_19 ?_
    refine j_iret rfl dL_setPitch_20 ?_
    exact ⟨rfl, h1, f, hp, hP _ hp, fun z => absurd z (by decide), fun _ _ => rfl⟩
  · refine j_callV (ck' := 0) (sk' := 0) kL_27 cvX9_setPitch ha C rfl rfl rfl rfl rfl dL_setPitch_9 (by decide) (by decide) (fun v9 h1 hp => by cases hp.1) (fun E h1 hp => ?_)
    obtain ⟨e9, hp⟩ := hp
    cases e9
    refine jX_catch [⟨0, 14, 17, 13⟩] ⟨0, 14, 21, 15⟩ [⟨0, 14, 25, 17⟩] rfl (List.forall_mem_cons.mpr ⟨⟨(by decide : (13 : Nat) ≠ 0), _, kx13, by decide +kernel⟩, fun _ h => absurd h List.not_mem_nil⟩) (by decide) (by decide : (15 : Nat) ≠ 0) kx15 cxIA (fun q => ?_)
    refine j_astore (L' := [(6, _), (0, _), (1, _), (2, _), (3, _), (4, _), (5, _)]) dL_setPitch_21 rfl rfl ?_
    refine J_iconst dL_setPitch_23 ?_
    refine j_iret rfl dL_setPitch_24 ?_
    exact ⟨rfl, h1, f, hp, hP _ hp, fun z => absurd z (by decide), fun _ _ => rfl⟩
  · refine j_callV (ck' := 0) (sk' := 0) kL_27 cvX9_setPitch ha C rfl rfl rfl rfl rfl dL_setPitch_9 (by decide) (by decide) (fun v9 h1 hp => by cases hp.1) (fun E h1 hp => ?_)
    obtain ⟨e9, hp⟩ := hp
    cases e9
    refine jX_catch [⟨0, 14, 17, 13⟩, ⟨0, 14, 21, 15⟩] ⟨0, 14, 25, 17⟩ [] rfl (List.forall_mem_cons.mpr ⟨⟨(by decide : (13 : Nat) ≠ 0), _, kx13, by decide +kernel⟩, List.forall_mem_cons.mpr ⟨⟨(by decide : (15 : Nat) ≠ 0), _, kx15, by decide +kernel⟩, fun _ h => absurd h List.not_mem_nil⟩⟩) (by decide) (by decide : (17 : Nat) ≠ 0) kx17 cxIS (fun q => ?_)
    refine j_astore (L' := [(6, _), (0, _), (1, _), (2, _), (3, _), (4, _), (5, _)]) dL_setPitch_25 rfl rfl ?_
    refine J_iconst dL_setPitch_27 ?_
    refine j_iret rfl dL_setPitch_28 ?_
    exact ⟨rfl, h1, f, hp, hP _ hp, fun z => absurd z (by decide), fun _ _ => rfl⟩
set_option maxRecDepth 100000 in
theorem c_L_setMetre {l : Launch} {G : jG} {h : jH} {a o : Nat} {fs : List Value} {r : jO} {P : jH → Prop} {f : Nat → Int64} {t v : Int} {v0 v1 v2 : Int} (ha : h a = some (.inr (7, fs))) (C : jC l G yX9_setMetre mX9_setMetre [.ref a, vI v0, vI v1, vI v2] h (jW r P)) (hr : (t = 0 ∧ r = oI v) ∨ (t = 1 ∧ r = .inr "java/lang/IndexOutOfBoundsException") ∨ (t = 2 ∧ r = .inr "java/lang/IllegalArgumentException")) (hP : ∀ h', P h' → h' o = some (aJ G 1 f)) : jC l G yL_setMetre mL_setMetre [.ref a, vI v0, vI v1, vI v2, .ref o] h (jW (oI t) (WR G o P t v)) := by
  refine j_body (by decide +kernel) ⟨rfl, rfl⟩ rfl ?_
  refine j_aload dL_setMetre_0 rfl ?_
  refine J_iconst dL_setMetre_2 ?_
  refine j_aload_n 0 dL_setMetre_3 rfl rfl ?_
  refine j_iload_n 1 dL_setMetre_4 rfl rfl ?_
  refine j_iload_n 2 dL_setMetre_5 rfl rfl ?_
  refine j_iload_n 3 dL_setMetre_6 rfl rfl ?_
  rcases hr with ⟨rfl, rfl⟩ | ⟨rfl, rfl⟩ | ⟨rfl, rfl⟩
  · refine j_callV (ck' := 0) (sk' := 0) kL_30 cvX9_setMetre ha C rfl rfl rfl rfl rfl dL_setMetre_7 (by decide) (by decide) (fun v9 h1 hp => ?_) (fun E h' hp => by cases hp.1)
    obtain ⟨e9, hp⟩ := hp
    cases e9
    refine j_i2l dL_setMetre_10 ?_
    refine j_last dL_setMetre_11 (hP _ hp) (I_vpin (by decide) (by decide)) ?_
    refine j_goto 23 dL_setMetre_12 (by decide) ?_
    refine J_iconst dL_setMetre_23 ?_
    refine j_iret rfl dL_setMetre_24 ?_
    exact ⟨rfl, h1, _, hp, hset_s _ _ _, fun _ => rfl, fun c hc => hset_n hc⟩
  · refine j_callV (ck' := 0) (sk' := 0) kL_30 cvX9_setMetre ha C rfl rfl rfl rfl rfl dL_setMetre_7 (by decide) (by decide) (fun v9 h1 hp => by cases hp.1) (fun E h1 hp => ?_)
    obtain ⟨e9, hp⟩ := hp
    cases e9
    refine jX_catch [] ⟨0, 12, 15, 13⟩ [⟨0, 12, 19, 15⟩] rfl (fun _ h => absurd h List.not_mem_nil) (by decide) (by decide : (13 : Nat) ≠ 0) kx13 cxIO (fun q => ?_)
    refine j_astore (L' := [(5, _), (0, _), (1, _), (2, _), (3, _), (4, _)]) dL_setMetre_15 rfl rfl ?_
    refine J_iconst dL_setMetre_17 ?_
    refine j_iret rfl dL_setMetre_18 ?_
    exact ⟨rfl, h1, f, hp, hP _ hp, fun z => absurd z (by decide), fun _ _ => rfl⟩
  · refine j_callV (ck' := 0) (sk' := 0) kL_30 cvX9_setMetre ha C rfl rfl rfl rfl rfl dL_setMetre_7 (by decide) (by decide) (fun v9 h1 hp => by cases hp.1) (fun E h1 hp => ?_)
    obtain ⟨e9, hp⟩ := hp
    cases e9
    refine jX_catch [⟨0, 12, 15, 13⟩] ⟨0, 12, 19, 15⟩ [] rfl (List.forall_mem_cons.mpr ⟨⟨(by decide : (13 : Nat) ≠ 0), _, kx13, by decide +kernel⟩, fun _ h => absurd h List.not_mem_nil⟩) (by decide) (by decide : (15 : Nat) ≠ 0) kx15 cxIA (fun q => ?_)
    refine j_astore (L' := [(5, _), (0, _), (1, _), (2, _), (3, _), (4, _)]) dL_setMetre_19 rfl rfl ?_
    refine J_iconst dL_setMetre_21 ?_
    refine j_iret rfl dL_setMetre_22 ?_
    exact ⟨rfl, h1, f, hp, hP _ hp, fun z => absurd z (by decide), fun _ _ => rfl⟩
set_option maxRecDepth 100000 in
theorem c_L_setKey {l : Launch} {G : jG} {h : jH} {a o : Nat} {fs : List Value} {r : jO} {P : jH → Prop} {f : Nat → Int64} {t v : Int} {v0 v1 : Int} (ha : h a = some (.inr (7, fs))) (C : jC l G yX9_setKey mX9_setKey [.ref a, vI v0, vI v1] h (jW r P)) (hr : (t = 0 ∧ r = oI v) ∨ (t = 1 ∧ r = .inr "java/lang/IndexOutOfBoundsException") ∨ (t = 2 ∧ r = .inr "java/lang/IllegalArgumentException")) (hP : ∀ h', P h' → h' o = some (aJ G 1 f)) : jC l G yL_setKey mL_setKey [.ref a, vI v0, vI v1, .ref o] h (jW (oI t) (WR G o P t v)) := by
  refine j_body (by decide +kernel) ⟨rfl, rfl⟩ rfl ?_
  refine j_aload_n 3 dL_setKey_0 rfl rfl ?_
  refine J_iconst dL_setKey_1 ?_
  refine j_aload_n 0 dL_setKey_2 rfl rfl ?_
  refine j_iload_n 1 dL_setKey_3 rfl rfl ?_
  refine j_iload_n 2 dL_setKey_4 rfl rfl ?_
  rcases hr with ⟨rfl, rfl⟩ | ⟨rfl, rfl⟩ | ⟨rfl, rfl⟩
  · refine j_callV (ck' := 0) (sk' := 0) kL_34 cvX9_setKey ha C rfl rfl rfl rfl rfl dL_setKey_5 (by decide) (by decide) (fun v9 h1 hp => ?_) (fun E h' hp => by cases hp.1)
    obtain ⟨e9, hp⟩ := hp
    cases e9
    refine j_i2l dL_setKey_8 ?_
    refine j_last dL_setKey_9 (hP _ hp) (I_vpin (by decide) (by decide)) ?_
    refine j_goto 21 dL_setKey_10 (by decide) ?_
    refine J_iconst dL_setKey_21 ?_
    refine j_iret rfl dL_setKey_22 ?_
    exact ⟨rfl, h1, _, hp, hset_s _ _ _, fun _ => rfl, fun c hc => hset_n hc⟩
  · refine j_callV (ck' := 0) (sk' := 0) kL_34 cvX9_setKey ha C rfl rfl rfl rfl rfl dL_setKey_5 (by decide) (by decide) (fun v9 h1 hp => by cases hp.1) (fun E h1 hp => ?_)
    obtain ⟨e9, hp⟩ := hp
    cases e9
    refine jX_catch [] ⟨0, 10, 13, 13⟩ [⟨0, 10, 17, 15⟩] rfl (fun _ h => absurd h List.not_mem_nil) (by decide) (by decide : (13 : Nat) ≠ 0) kx13 cxIO (fun q => ?_)
    refine j_astore (L' := [(4, _), (0, _), (1, _), (2, _), (3, _)]) dL_setKey_13 rfl rfl ?_
    refine J_iconst dL_setKey_15 ?_
    refine j_iret rfl dL_setKey_16 ?_
    exact ⟨rfl, h1, f, hp, hP _ hp, fun z => absurd z (by decide), fun _ _ => rfl⟩
  · refine j_callV (ck' := 0) (sk' := 0) kL_34 cvX9_setKey ha C rfl rfl rfl rfl rfl dL_setKey_5 (by decide) (by decide) (fun v9 h1 hp => by cases hp.1) (fun E h1 hp => ?_)
    obtain ⟨e9, hp⟩ := hp
    cases e9
    refine jX_catch [⟨0, 10, 13, 13⟩] ⟨0, 10, 17, 15⟩ [] rfl (List.forall_mem_cons.mpr ⟨⟨(by decide : (13 : Nat) ≠ 0), _, kx13, by decide +kernel⟩, fun _ h => absurd h List.not_mem_nil⟩) (by decide) (by decide : (15 : Nat) ≠ 0) kx15 cxIA (fun q => ?_)
    refine j_astore (L' := [(4, _), (0, _), (1, _), (2, _), (3, _)]) dL_setKey_17 rfl rfl ?_
    refine J_iconst dL_setKey_19 ?_
    refine j_iret rfl dL_setKey_20 ?_
    exact ⟨rfl, h1, f, hp, hP _ hp, fun z => absurd z (by decide), fun _ _ => rfl⟩
set_option maxRecDepth 100000 in
theorem c_L_setRange {l : Launch} {G : jG} {h : jH} {a o : Nat} {fs : List Value} {r : jO} {P : jH → Prop} {f : Nat → Int64} {t v : Int} {v0 v1 v2 : Int} (ha : h a = some (.inr (7, fs))) (C : jC l G yX9_setRange mX9_setRange [.ref a, vI v0, vI v1, vI v2] h (jW r P)) (hr : (t = 0 ∧ r = oI v) ∨ (t = 1 ∧ r = .inr "java/lang/IndexOutOfBoundsException") ∨ (t = 2 ∧ r = .inr "java/lang/IllegalArgumentException")) (hP : ∀ h', P h' → h' o = some (aJ G 1 f)) : jC l G yL_setRange mL_setRange [.ref a, vI v0, vI v1, vI v2, .ref o] h (jW (oI t) (WR G o P t v)) := by
  refine j_body (by decide +kernel) ⟨rfl, rfl⟩ rfl ?_
  refine j_aload dL_setRange_0 rfl ?_
  refine J_iconst dL_setRange_2 ?_
  refine j_aload_n 0 dL_setRange_3 rfl rfl ?_
  refine j_iload_n 1 dL_setRange_4 rfl rfl ?_
  refine j_iload_n 2 dL_setRange_5 rfl rfl ?_
  refine j_iload_n 3 dL_setRange_6 rfl rfl ?_
  rcases hr with ⟨rfl, rfl⟩ | ⟨rfl, rfl⟩ | ⟨rfl, rfl⟩
  · refine j_callV (ck' := 0) (sk' := 0) kL_37 cvX9_setRange ha C rfl rfl rfl rfl rfl dL_setRange_7 (by decide) (by decide) (fun v9 h1 hp => ?_) (fun E h' hp => by cases hp.1)
    obtain ⟨e9, hp⟩ := hp
    cases e9
    refine j_i2l dL_setRange_10 ?_
    refine j_last dL_setRange_11 (hP _ hp) (I_vpin (by decide) (by decide)) ?_
    refine j_goto 23 dL_setRange_12 (by decide) ?_
    refine J_iconst dL_setRange_23 ?_
    refine j_iret rfl dL_setRange_24 ?_
    exact ⟨rfl, h1, _, hp, hset_s _ _ _, fun _ => rfl, fun c hc => hset_n hc⟩
  · refine j_callV (ck' := 0) (sk' := 0) kL_37 cvX9_setRange ha C rfl rfl rfl rfl rfl dL_setRange_7 (by decide) (by decide) (fun v9 h1 hp => by cases hp.1) (fun E h1 hp => ?_)
    obtain ⟨e9, hp⟩ := hp
    cases e9
    refine jX_catch [] ⟨0, 12, 15, 13⟩ [⟨0, 12, 19, 15⟩] rfl (fun _ h => absurd h List.not_mem_nil) (by decide) (by decide : (13 : Nat) ≠ 0) kx13 cxIO (fun q => ?_)
    refine j_astore (L' := [(5, _), (0, _), (1, _), (2, _), (3, _), (4, _)]) dL_setRange_15 rfl rfl ?_
    refine J_iconst dL_setRange_17 ?_
    refine j_iret rfl dL_setRange_18 ?_
    exact ⟨rfl, h1, f, hp, hP _ hp, fun z => absurd z (by decide), fun _ _ => rfl⟩
  · refine j_callV (ck' := 0) (sk' := 0) kL_37 cvX9_setRange ha C rfl rfl rfl rfl rfl dL_setRange_7 (by decide) (by decide) (fun v9 h1 hp => by cases hp.1) (fun E h1 hp => ?_)
    obtain ⟨e9, hp⟩ := hp
    cases e9
    refine jX_catch [⟨0, 12, 15, 13⟩] ⟨0, 12, 19, 15⟩ [] rfl (List.forall_mem_cons.mpr ⟨⟨(by decide : (13 : Nat) ≠ 0), _, kx13, by decide +kernel⟩, fun _ h => absurd h List.not_mem_nil⟩) (by decide) (by decide : (15 : Nat) ≠ 0) kx15 cxIA (fun q => ?_)
    refine j_astore (L' := [(5, _), (0, _), (1, _), (2, _), (3, _), (4, _)]) dL_setRange_19 rfl rfl ?_
    refine J_iconst dL_setRange_21 ?_
    refine j_iret rfl dL_setRange_22 ?_
    exact ⟨rfl, h1, f, hp, hP _ hp, fun z => absurd z (by decide), fun _ _ => rfl⟩
set_option maxRecDepth 100000 in
theorem c_L_setShift {l : Launch} {G : jG} {h : jH} {a o : Nat} {fs : List Value} {r : jO} {P : jH → Prop} {f : Nat → Int64} {t v : Int} {v0 v1 v2 : Int} (ha : h a = some (.inr (7, fs))) (C : jC l G yX9_setShift mX9_setShift [.ref a, vI v0, vI v1, vI v2] h (jW r P)) (hr : (t = 0 ∧ r = oI v) ∨ (t = 1 ∧ r = .inr "java/lang/IndexOutOfBoundsException") ∨ (t = 2 ∧ r = .inr "java/lang/IllegalArgumentException")) (hP : ∀ h', P h' → h' o = some (aJ G 1 f)) : jC l G yL_setShift mL_setShift [.ref a, vI v0, vI v1, vI v2, .ref o] h (jW (oI t) (WR G o P t v)) := by
  refine j_body (by decide +kernel) ⟨rfl, rfl⟩ rfl ?_
  refine j_aload dL_setShift_0 rfl ?_
  refine J_iconst dL_setShift_2 ?_
  refine j_aload_n 0 dL_setShift_3 rfl rfl ?_
  refine j_iload_n 1 dL_setShift_4 rfl rfl ?_
  refine j_iload_n 2 dL_setShift_5 rfl rfl ?_
  refine j_iload_n 3 dL_setShift_6 rfl rfl ?_
  rcases hr with ⟨rfl, rfl⟩ | ⟨rfl, rfl⟩ | ⟨rfl, rfl⟩
  · refine j_callV (ck' := 0) (sk' := 0) kL_40 cvX9_setShift ha C rfl rfl rfl rfl rfl dL_setShift_7 (by decide) (by decide) (fun v9 h1 hp => ?_) (fun E h' hp => by cases hp.1)
    obtain ⟨e9, hp⟩ := hp
    cases e9
    refine j_i2l dL_setShift_10 ?_
    refine j_last dL_setShift_11 (hP _ hp) (I_vpin (by decide) (by decide)) ?_
    refine j_goto 23 dL_setShift_12 (by decide) ?_
    refine J_iconst dL_setShift_23 ?_
    refine j_iret rfl dL_setShift_24 ?_
    exact ⟨rfl, h1, _, hp, hset_s _ _ _, fun _ => rfl, fun c hc => hset_n hc⟩
  · refine j_callV (ck' := 0) (sk' := 0) kL_40 cvX9_setShift ha C rfl rfl rfl rfl rfl dL_setShift_7 (by decide) (by decide) (fun v9 h1 hp => by cases hp.1) (fun E h1 hp => ?_)
    obtain ⟨e9, hp⟩ := hp
    cases e9
    refine jX_catch [] ⟨0, 12, 15, 13⟩ [⟨0, 12, 19, 15⟩] rfl (fun _ h => absurd h List.not_mem_nil) (by decide) (by decide : (13 : Nat) ≠ 0) kx13 cxIO (fun q => ?_)
    refine j_astore (L' := [(5, _), (0, _), (1, _), (2, _), (3, _), (4, _)]) dL_setShift_15 rfl rfl ?_
    refine J_iconst dL_setShift_17 ?_
    refine j_iret rfl dL_setShift_18 ?_
    exact ⟨rfl, h1, f, hp, hP _ hp, fun z => absurd z (by decide), fun _ _ => rfl⟩
  · refine j_callV (ck' := 0) (sk' := 0) kL_40 cvX9_setShift ha C rfl rfl rfl rfl rfl dL_setShift_7 (by decide) (by decide) (fun v9 h1 hp => by cases hp.1) (fun E h1 hp => ?_)
    obtain ⟨e9, hp⟩ := hp
    cases e9
    refine jX_catch [⟨0, 12, 15, 13⟩] ⟨0, 12, 19, 15⟩ [] rfl (List.forall_mem_cons.mpr ⟨⟨(by decide : (13 : Nat) ≠ 0), _, kx13, by decide +kernel⟩, fun _ h => absurd h List.not_mem_nil⟩) (by decide) (by decide : (15 : Nat) ≠ 0) kx15 cxIA (fun q => ?_)
    refine j_astore (L' := [(5, _), (0, _), (1, _), (2, _), (3, _), (4, _)]) dL_setShift_19 rfl rfl ?_
    refine J_iconst dL_setShift_21 ?_
    refine j_iret rfl dL_setShift_22 ?_
    exact ⟨rfl, h1, f, hp, hP _ hp, fun z => absurd z (by decide), fun _ _ => rfl⟩
set_option maxRecDepth 100000 in
theorem c_L_events {l : Launch} {G : jG} {h : jH} {a o : Nat} {fs : List Value} {r : jO} {P : jH → Prop} {f : Nat → Int64} {t v : Int} {v0 : Int} (ha : h a = some (.inr (7, fs))) (C : jC l G yX9_events mX9_events [.ref a, vI v0] h (jW r P)) (hr : (t = 0 ∧ r = oI v) ∨ (t = 1 ∧ r = .inr "java/lang/IndexOutOfBoundsException")) (hP : ∀ h', P h' → h' o = some (aJ G 1 f)) : jC l G yL_events mL_events [.ref a, vI v0, .ref o] h (jW (oI t) (WR G o P t v)) := by
  refine j_body (by decide +kernel) ⟨rfl, rfl⟩ rfl ?_
  refine j_aload_n 2 dL_events_0 rfl rfl ?_
  refine J_iconst dL_events_1 ?_
  refine j_aload_n 0 dL_events_2 rfl rfl ?_
  refine j_iload_n 1 dL_events_3 rfl rfl ?_
  rcases hr with ⟨rfl, rfl⟩ | ⟨rfl, rfl⟩
  · refine j_callV (ck' := 0) (sk' := 0) kL_43 cvX9_events ha C rfl rfl rfl rfl rfl dL_events_4 (by decide) (by decide) (fun v9 h1 hp => ?_) (fun E h' hp => by cases hp.1)
    obtain ⟨e9, hp⟩ := hp
    cases e9
    refine j_i2l dL_events_7 ?_
    refine j_last dL_events_8 (hP _ hp) (I_vpin (by decide) (by decide)) ?_
    refine j_goto 15 dL_events_9 (by decide) ?_
    refine J_iconst dL_events_15 ?_
    refine j_iret rfl dL_events_16 ?_
    exact ⟨rfl, h1, _, hp, hset_s _ _ _, fun _ => rfl, fun c hc => hset_n hc⟩
  · refine j_callV (ck' := 0) (sk' := 0) kL_43 cvX9_events ha C rfl rfl rfl rfl rfl dL_events_4 (by decide) (by decide) (fun v9 h1 hp => by cases hp.1) (fun E h1 hp => ?_)
    obtain ⟨e9, hp⟩ := hp
    cases e9
    refine jX_catch [] ⟨0, 9, 12, 13⟩ [] rfl (fun _ h => absurd h List.not_mem_nil) (by decide) (by decide : (13 : Nat) ≠ 0) kx13 cxIO (fun q => ?_)
    refine j_astore_n 3 (L' := [(3, _), (0, _), (1, _), (2, _)]) dL_events_12 rfl rfl rfl ?_
    refine J_iconst dL_events_13 ?_
    refine j_iret rfl dL_events_14 ?_
    exact ⟨rfl, h1, f, hp, hP _ hp, fun z => absurd z (by decide), fun _ _ => rfl⟩
set_option maxRecDepth 100000 in
theorem c_L_beginOf {l : Launch} {G : jG} {h : jH} {a o : Nat} {fs : List Value} {r : jO} {P : jH → Prop} {f : Nat → Int64} {t v : Int} {v0 v1 : Int} (ha : h a = some (.inr (7, fs))) (C : jC l G yX9_beginOf mX9_beginOf [.ref a, vI v0, vI v1] h (jW r P)) (hr : (t = 0 ∧ r = oI v) ∨ (t = 1 ∧ r = .inr "java/lang/IndexOutOfBoundsException")) (hP : ∀ h', P h' → h' o = some (aJ G 1 f)) : jC l G yL_beginOf mL_beginOf [.ref a, vI v0, vI v1, .ref o] h (jW (oI t) (WR G o P t v)) := by
  refine j_body (by decide +kernel) ⟨rfl, rfl⟩ rfl ?_
  refine j_aload_n 3 dL_beginOf_0 rfl rfl ?_
  refine J_iconst dL_beginOf_1 ?_
  refine j_aload_n 0 dL_beginOf_2 rfl rfl ?_
  refine j_iload_n 1 dL_beginOf_3 rfl rfl ?_
  refine j_iload_n 2 dL_beginOf_4 rfl rfl ?_
  rcases hr with ⟨rfl, rfl⟩ | ⟨rfl, rfl⟩
  · refine j_callV (ck' := 0) (sk' := 0) kL_46 cvX9_beginOf ha C rfl rfl rfl rfl rfl dL_beginOf_5 (by decide) (by decide) (fun v9 h1 hp => ?_) (fun E h' hp => by cases hp.1)
    obtain ⟨e9, hp⟩ := hp
    cases e9
    refine j_i2l dL_beginOf_8 ?_
    refine j_last dL_beginOf_9 (hP _ hp) (I_vpin (by decide) (by decide)) ?_
    refine j_goto 17 dL_beginOf_10 (by decide) ?_
    refine J_iconst dL_beginOf_17 ?_
    refine j_iret rfl dL_beginOf_18 ?_
    exact ⟨rfl, h1, _, hp, hset_s _ _ _, fun _ => rfl, fun c hc => hset_n hc⟩
  · refine j_callV (ck' := 0) (sk' := 0) kL_46 cvX9_beginOf ha C rfl rfl rfl rfl rfl dL_beginOf_5 (by decide) (by decide) (fun v9 h1 hp => by cases hp.1) (fun E h1 hp => ?_)
    obtain ⟨e9, hp⟩ := hp
    cases e9
    refine jX_catch [] ⟨0, 10, 13, 13⟩ [] rfl (fun _ h => absurd h List.not_mem_nil) (by decide) (by decide : (13 : Nat) ≠ 0) kx13 cxIO (fun q => ?_)
    refine j_astore (L' := [(4, _), (0, _), (1, _), (2, _), (3, _)]) dL_beginOf_13 rfl rfl ?_
    refine J_iconst dL_beginOf_15 ?_
    refine j_iret rfl dL_beginOf_16 ?_
    exact ⟨rfl, h1, f, hp, hP _ hp, fun z => absurd z (by decide), fun _ _ => rfl⟩
set_option maxRecDepth 100000 in
theorem c_L_heightOf {l : Launch} {G : jG} {h : jH} {a o : Nat} {fs : List Value} {r : jO} {P : jH → Prop} {f : Nat → Int64} {t v : Int} {v0 v1 : Int} (ha : h a = some (.inr (7, fs))) (C : jC l G yX9_heightOf mX9_heightOf [.ref a, vI v0, vI v1] h (jW r P)) (hr : (t = 0 ∧ r = oI v) ∨ (t = 1 ∧ r = .inr "java/lang/IndexOutOfBoundsException")) (hP : ∀ h', P h' → h' o = some (aJ G 1 f)) : jC l G yL_heightOf mL_heightOf [.ref a, vI v0, vI v1, .ref o] h (jW (oI t) (WR G o P t v)) := by
  refine j_body (by decide +kernel) ⟨rfl, rfl⟩ rfl ?_
  refine j_aload_n 3 dL_heightOf_0 rfl rfl ?_
  refine J_iconst dL_heightOf_1 ?_
  refine j_aload_n 0 dL_heightOf_2 rfl rfl ?_
  refine j_iload_n 1 dL_heightOf_3 rfl rfl ?_
  refine j_iload_n 2 dL_heightOf_4 rfl rfl ?_
  rcases hr with ⟨rfl, rfl⟩ | ⟨rfl, rfl⟩
  · refine j_callV (ck' := 0) (sk' := 0) kL_49 cvX9_heightOf ha C rfl rfl rfl rfl rfl dL_heightOf_5 (by decide) (by decide) (fun v9 h1 hp => ?_) (fun E h' hp => by cases hp.1)
    obtain ⟨e9, hp⟩ := hp
    cases e9
    refine j_i2l dL_heightOf_8 ?_
    refine j_last dL_heightOf_9 (hP _ hp) (I_vpin (by decide) (by decide)) ?_
    refine j_goto 17 dL_heightOf_10 (by decide) ?_
    refine J_iconst dL_heightOf_17 ?_
    refine j_iret rfl dL_heightOf_18 ?_
    exact ⟨rfl, h1, _, hp, hset_s _ _ _, fun _ => rfl, fun c hc => hset_n hc⟩
  · refine j_callV (ck' := 0) (sk' := 0) kL_49 cvX9_heightOf ha C rfl rfl rfl rfl rfl dL_heightOf_5 (by decide) (by decide) (fun v9 h1 hp => by cases hp.1) (fun E h1 hp => ?_)
    obtain ⟨e9, hp⟩ := hp
    cases e9
    refine jX_catch [] ⟨0, 10, 13, 13⟩ [] rfl (fun _ h => absurd h List.not_mem_nil) (by decide) (by decide : (13 : Nat) ≠ 0) kx13 cxIO (fun q => ?_)
    refine j_astore (L' := [(4, _), (0, _), (1, _), (2, _), (3, _)]) dL_heightOf_13 rfl rfl ?_
    refine J_iconst dL_heightOf_15 ?_
    refine j_iret rfl dL_heightOf_16 ?_
    exact ⟨rfl, h1, f, hp, hP _ hp, fun z => absurd z (by decide), fun _ _ => rfl⟩
set_option maxRecDepth 100000 in
theorem c_L_barOf {l : Launch} {G : jG} {h : jH} {a o : Nat} {fs : List Value} {r : jO} {P : jH → Prop} {f : Nat → Int64} {t v : Int} {v0 v1 : Int} (ha : h a = some (.inr (7, fs))) (C : jC l G yX9_barOf mX9_barOf [.ref a, vI v0, vI v1] h (jW r P)) (hr : (t = 0 ∧ r = oI v) ∨ (t = 1 ∧ r = .inr "java/lang/IndexOutOfBoundsException")) (hP : ∀ h', P h' → h' o = some (aJ G 1 f)) : jC l G yL_barOf mL_barOf [.ref a, vI v0, vI v1, .ref o] h (jW (oI t) (WR G o P t v)) := by
  refine j_body (by decide +kernel) ⟨rfl, rfl⟩ rfl ?_
  refine j_aload_n 3 dL_barOf_0 rfl rfl ?_
  refine J_iconst dL_barOf_1 ?_
  refine j_aload_n 0 dL_barOf_2 rfl rfl ?_
  refine j_iload_n 1 dL_barOf_3 rfl rfl ?_
  refine j_iload_n 2 dL_barOf_4 rfl rfl ?_
  rcases hr with ⟨rfl, rfl⟩ | ⟨rfl, rfl⟩
  · refine j_callV (ck' := 0) (sk' := 0) kL_52 cvX9_barOf ha C rfl rfl rfl rfl rfl dL_barOf_5 (by decide) (by decide) (fun v9 h1 hp => ?_) (fun E h' hp => by cases hp.1)
    obtain ⟨e9, hp⟩ := hp
    cases e9
    refine j_i2l dL_barOf_8 ?_
    refine j_last dL_barOf_9 (hP _ hp) (I_vpin (by decide) (by decide)) ?_
    refine j_goto 17 dL_barOf_10 (by decide) ?_
    refine J_iconst dL_barOf_17 ?_
    refine j_iret rfl dL_barOf_18 ?_
    exact ⟨rfl, h1, _, hp, hset_s _ _ _, fun _ => rfl, fun c hc => hset_n hc⟩
  · refine j_callV (ck' := 0) (sk' := 0) kL_52 cvX9_barOf ha C rfl rfl rfl rfl rfl dL_barOf_5 (by decide) (by decide) (fun v9 h1 hp => by cases hp.1) (fun E h1 hp => ?_)
    obtain ⟨e9, hp⟩ := hp
    cases e9
    refine jX_catch [] ⟨0, 10, 13, 13⟩ [] rfl (fun _ h => absurd h List.not_mem_nil) (by decide) (by decide : (13 : Nat) ≠ 0) kx13 cxIO (fun q => ?_)
    refine j_astore (L' := [(4, _), (0, _), (1, _), (2, _), (3, _)]) dL_barOf_13 rfl rfl ?_
    refine J_iconst dL_barOf_15 ?_
    refine j_iret rfl dL_barOf_16 ?_
    exact ⟨rfl, h1, f, hp, hP _ hp, fun z => absurd z (by decide), fun _ _ => rfl⟩
set_option maxRecDepth 100000 in
theorem c_L_writtenPlace {l : Launch} {G : jG} {h : jH} {a o : Nat} {fs : List Value} {r : jO} {P : jH → Prop} {f : Nat → Int64} {t v : Int} {v0 v1 : Int} (ha : h a = some (.inr (7, fs))) (C : jC l G yX9_writtenPlace mX9_writtenPlace [.ref a, vI v0, vI v1] h (jW r P)) (hr : (t = 0 ∧ r = oI v) ∨ (t = 1 ∧ r = .inr "java/lang/IndexOutOfBoundsException")) (hP : ∀ h', P h' → h' o = some (aJ G 1 f)) : jC l G yL_writtenPlace mL_writtenPlace [.ref a, vI v0, vI v1, .ref o] h (jW (oI t) (WR G o P t v)) := by
  refine j_body (by decide +kernel) ⟨rfl, rfl⟩ rfl ?_
  refine j_aload_n 3 dL_writtenPlace_0 rfl rfl ?_
  refine J_iconst dL_writtenPlace_1 ?_
  refine j_aload_n 0 dL_writtenPlace_2 rfl rfl ?_
  refine j_iload_n 1 dL_writtenPlace_3 rfl rfl ?_
  refine j_iload_n 2 dL_writtenPlace_4 rfl rfl ?_
  rcases hr with ⟨rfl, rfl⟩ | ⟨rfl, rfl⟩
  · refine j_callV (ck' := 0) (sk' := 0) kL_55 cvX9_writtenPlace ha C rfl rfl rfl rfl rfl dL_writtenPlace_5 (by decide) (by decide) (fun v9 h1 hp => ?_) (fun E h' hp => by cases hp.1)
    obtain ⟨e9, hp⟩ := hp
    cases e9
    refine j_i2l dL_writtenPlace_8 ?_
    refine j_last dL_writtenPlace_9 (hP _ hp) (I_vpin (by decide) (by decide)) ?_
    refine j_goto 17 dL_writtenPlace_10 (by decide) ?_
    refine J_iconst dL_writtenPlace_17 ?_
    refine j_iret rfl dL_writtenPlace_18 ?_
    exact ⟨rfl, h1, _, hp, hset_s _ _ _, fun _ => rfl, fun c hc => hset_n hc⟩
  · refine j_callV (ck' := 0) (sk' := 0) kL_55 cvX9_writtenPlace ha C rfl rfl rfl rfl rfl dL_writtenPlace_5 (by decide) (by decide) (fun v9 h1 hp => by cases hp.1) (fun E h1 hp => ?_)
    obtain ⟨e9, hp⟩ := hp
    cases e9
    refine jX_catch [] ⟨0, 10, 13, 13⟩ [] rfl (fun _ h => absurd h List.not_mem_nil) (by decide) (by decide : (13 : Nat) ≠ 0) kx13 cxIO (fun q => ?_)
    refine j_astore (L' := [(4, _), (0, _), (1, _), (2, _), (3, _)]) dL_writtenPlace_13 rfl rfl ?_
    refine J_iconst dL_writtenPlace_15 ?_
    refine j_iret rfl dL_writtenPlace_16 ?_
    exact ⟨rfl, h1, f, hp, hP _ hp, fun z => absurd z (by decide), fun _ _ => rfl⟩
set_option maxRecDepth 100000 in
theorem c_L_writtenAlter {l : Launch} {G : jG} {h : jH} {a o : Nat} {fs : List Value} {r : jO} {P : jH → Prop} {f : Nat → Int64} {t v : Int} {v0 v1 : Int} (ha : h a = some (.inr (7, fs))) (C : jC l G yX9_writtenAlter mX9_writtenAlter [.ref a, vI v0, vI v1] h (jW r P)) (hr : (t = 0 ∧ r = oI v) ∨ (t = 1 ∧ r = .inr "java/lang/IndexOutOfBoundsException")) (hP : ∀ h', P h' → h' o = some (aJ G 1 f)) : jC l G yL_writtenAlter mL_writtenAlter [.ref a, vI v0, vI v1, .ref o] h (jW (oI t) (WR G o P t v)) := by
  refine j_body (by decide +kernel) ⟨rfl, rfl⟩ rfl ?_
  refine j_aload_n 3 dL_writtenAlter_0 rfl rfl ?_
  refine J_iconst dL_writtenAlter_1 ?_
  refine j_aload_n 0 dL_writtenAlter_2 rfl rfl ?_
  refine j_iload_n 1 dL_writtenAlter_3 rfl rfl ?_
  refine j_iload_n 2 dL_writtenAlter_4 rfl rfl ?_
  rcases hr with ⟨rfl, rfl⟩ | ⟨rfl, rfl⟩
  · refine j_callV (ck' := 0) (sk' := 0) kL_58 cvX9_writtenAlter ha C rfl rfl rfl rfl rfl dL_writtenAlter_5 (by decide) (by decide) (fun v9 h1 hp => ?_) (fun E h' hp => by cases hp.1)
    obtain ⟨e9, hp⟩ := hp
    cases e9
    refine j_i2l dL_writtenAlter_8 ?_
    refine j_last dL_writtenAlter_9 (hP _ hp) (I_vpin (by decide) (by decide)) ?_
    refine j_goto 17 dL_writtenAlter_10 (by decide) ?_
    refine J_iconst dL_writtenAlter_17 ?_
    refine j_iret rfl dL_writtenAlter_18 ?_
    exact ⟨rfl, h1, _, hp, hset_s _ _ _, fun _ => rfl, fun c hc => hset_n hc⟩
  · refine j_callV (ck' := 0) (sk' := 0) kL_58 cvX9_writtenAlter ha C rfl rfl rfl rfl rfl dL_writtenAlter_5 (by decide) (by decide) (fun v9 h1 hp => by cases hp.1) (fun E h1 hp => ?_)
    obtain ⟨e9, hp⟩ := hp
    cases e9
    refine jX_catch [] ⟨0, 10, 13, 13⟩ [] rfl (fun _ h => absurd h List.not_mem_nil) (by decide) (by decide : (13 : Nat) ≠ 0) kx13 cxIO (fun q => ?_)
    refine j_astore (L' := [(4, _), (0, _), (1, _), (2, _), (3, _)]) dL_writtenAlter_13 rfl rfl ?_
    refine J_iconst dL_writtenAlter_15 ?_
    refine j_iret rfl dL_writtenAlter_16 ?_
    exact ⟨rfl, h1, f, hp, hP _ hp, fun z => absurd z (by decide), fun _ _ => rfl⟩
set_option maxRecDepth 100000 in
theorem c_L_alterIn {l : Launch} {G : jG} {h : jH} {a o : Nat} {fs : List Value} {r : jO} {P : jH → Prop} {f : Nat → Int64} {t v : Int} {v0 v1 : Int} (ha : h a = some (.inr (7, fs))) (C : jC l G yX9_alterIn mX9_alterIn [.ref a, vI v0, vI v1] h (jW r P)) (hr : (t = 0 ∧ r = oI v) ∨ (t = 1 ∧ r = .inr "java/lang/IllegalArgumentException")) (hP : ∀ h', P h' → h' o = some (aJ G 1 f)) : jC l G yL_alterIn mL_alterIn [.ref a, vI v0, vI v1, .ref o] h (jW (oI t) (WR G o P t v)) := by
  refine j_body (by decide +kernel) ⟨rfl, rfl⟩ rfl ?_
  refine j_aload_n 3 dL_alterIn_0 rfl rfl ?_
  refine J_iconst dL_alterIn_1 ?_
  refine j_aload_n 0 dL_alterIn_2 rfl rfl ?_
  refine j_iload_n 1 dL_alterIn_3 rfl rfl ?_
  refine j_iload_n 2 dL_alterIn_4 rfl rfl ?_
  rcases hr with ⟨rfl, rfl⟩ | ⟨rfl, rfl⟩
  · refine j_callV (ck' := 0) (sk' := 0) kL_61 cvX9_alterIn ha C rfl rfl rfl rfl rfl dL_alterIn_5 (by decide) (by decide) (fun v9 h1 hp => ?_) (fun E h' hp => by cases hp.1)
    obtain ⟨e9, hp⟩ := hp
    cases e9
    refine j_i2l dL_alterIn_8 ?_
    refine j_last dL_alterIn_9 (hP _ hp) (I_vpin (by decide) (by decide)) ?_
    refine j_goto 17 dL_alterIn_10 (by decide) ?_
    refine J_iconst dL_alterIn_17 ?_
    refine j_iret rfl dL_alterIn_18 ?_
    exact ⟨rfl, h1, _, hp, hset_s _ _ _, fun _ => rfl, fun c hc => hset_n hc⟩
  · refine j_callV (ck' := 0) (sk' := 0) kL_61 cvX9_alterIn ha C rfl rfl rfl rfl rfl dL_alterIn_5 (by decide) (by decide) (fun v9 h1 hp => by cases hp.1) (fun E h1 hp => ?_)
    obtain ⟨e9, hp⟩ := hp
    cases e9
    refine jX_catch [] ⟨0, 10, 13, 15⟩ [] rfl (fun _ h => absurd h List.not_mem_nil) (by decide) (by decide : (15 : Nat) ≠ 0) kx15 cxIA (fun q => ?_)
    refine j_astore (L' := [(4, _), (0, _), (1, _), (2, _), (3, _)]) dL_alterIn_13 rfl rfl ?_
    refine J_iconst dL_alterIn_15 ?_
    refine j_iret rfl dL_alterIn_16 ?_
    exact ⟨rfl, h1, f, hp, hP _ hp, fun z => absurd z (by decide), fun _ _ => rfl⟩
set_option maxRecDepth 100000 in
theorem c_L_writtenKey {l : Launch} {G : jG} {h : jH} {a o : Nat} {fs : List Value} {r : jO} {P : jH → Prop} {f : Nat → Int64} {t v : Int} {v0 v1 : Int} (ha : h a = some (.inr (7, fs))) (C : jC l G yX9_writtenKey mX9_writtenKey [.ref a, vI v0, vI v1] h (jW r P)) (hr : (t = 0 ∧ r = oI v) ∨ (t = 1 ∧ r = .inr "java/lang/IndexOutOfBoundsException")) (hP : ∀ h', P h' → h' o = some (aJ G 1 f)) : jC l G yL_writtenKey mL_writtenKey [.ref a, vI v0, vI v1, .ref o] h (jW (oI t) (WR G o P t v)) := by
  refine j_body (by decide +kernel) ⟨rfl, rfl⟩ rfl ?_
  refine j_aload_n 3 dL_writtenKey_0 rfl rfl ?_
  refine J_iconst dL_writtenKey_1 ?_
  refine j_aload_n 0 dL_writtenKey_2 rfl rfl ?_
  refine j_iload_n 1 dL_writtenKey_3 rfl rfl ?_
  refine j_iload_n 2 dL_writtenKey_4 rfl rfl ?_
  rcases hr with ⟨rfl, rfl⟩ | ⟨rfl, rfl⟩
  · refine j_callV (ck' := 0) (sk' := 0) kL_64 cvX9_writtenKey ha C rfl rfl rfl rfl rfl dL_writtenKey_5 (by decide) (by decide) (fun v9 h1 hp => ?_) (fun E h' hp => by cases hp.1)
    obtain ⟨e9, hp⟩ := hp
    cases e9
    refine j_i2l dL_writtenKey_8 ?_
    refine j_last dL_writtenKey_9 (hP _ hp) (I_vpin (by decide) (by decide)) ?_
    refine j_goto 17 dL_writtenKey_10 (by decide) ?_
    refine J_iconst dL_writtenKey_17 ?_
    refine j_iret rfl dL_writtenKey_18 ?_
    exact ⟨rfl, h1, _, hp, hset_s _ _ _, fun _ => rfl, fun c hc => hset_n hc⟩
  · refine j_callV (ck' := 0) (sk' := 0) kL_64 cvX9_writtenKey ha C rfl rfl rfl rfl rfl dL_writtenKey_5 (by decide) (by decide) (fun v9 h1 hp => by cases hp.1) (fun E h1 hp => ?_)
    obtain ⟨e9, hp⟩ := hp
    cases e9
    refine jX_catch [] ⟨0, 10, 13, 13⟩ [] rfl (fun _ h => absurd h List.not_mem_nil) (by decide) (by decide : (13 : Nat) ≠ 0) kx13 cxIO (fun q => ?_)
    refine j_astore (L' := [(4, _), (0, _), (1, _), (2, _), (3, _)]) dL_writtenKey_13 rfl rfl ?_
    refine J_iconst dL_writtenKey_15 ?_
    refine j_iret rfl dL_writtenKey_16 ?_
    exact ⟨rfl, h1, f, hp, hP _ hp, fun z => absurd z (by decide), fun _ _ => rfl⟩
set_option maxRecDepth 100000 in
theorem c_L_beginOfBar {l : Launch} {G : jG} {h : jH} {a o : Nat} {fs : List Value} {r : jO} {P : jH → Prop} {f : Nat → Int64} {t v : Int} {v0 : Int} (ha : h a = some (.inr (7, fs))) (C : jC l G yX9_beginOfBar mX9_beginOfBar [.ref a, vI v0] h (jW r P)) (hr : (t = 0 ∧ r = oI v) ∨ (t = 1 ∧ r = .inr "java/lang/IndexOutOfBoundsException")) (hP : ∀ h', P h' → h' o = some (aJ G 1 f)) : jC l G yL_beginOfBar mL_beginOfBar [.ref a, vI v0, .ref o] h (jW (oI t) (WR G o P t v)) := by
  refine j_body (by decide +kernel) ⟨rfl, rfl⟩ rfl ?_
  refine j_aload_n 2 dL_beginOfBar_0 rfl rfl ?_
  refine J_iconst dL_beginOfBar_1 ?_
  refine j_aload_n 0 dL_beginOfBar_2 rfl rfl ?_
  refine j_iload_n 1 dL_beginOfBar_3 rfl rfl ?_
  rcases hr with ⟨rfl, rfl⟩ | ⟨rfl, rfl⟩
  · refine j_callV (ck' := 0) (sk' := 0) kL_67 cvX9_beginOfBar ha C rfl rfl rfl rfl rfl dL_beginOfBar_4 (by decide) (by decide) (fun v9 h1 hp => ?_) (fun E h' hp => by cases hp.1)
    obtain ⟨e9, hp⟩ := hp
    cases e9
    refine j_i2l dL_beginOfBar_7 ?_
    refine j_last dL_beginOfBar_8 (hP _ hp) (I_vpin (by decide) (by decide)) ?_
    refine j_goto 15 dL_beginOfBar_9 (by decide) ?_
    refine J_iconst dL_beginOfBar_15 ?_
    refine j_iret rfl dL_beginOfBar_16 ?_
    exact ⟨rfl, h1, _, hp, hset_s _ _ _, fun _ => rfl, fun c hc => hset_n hc⟩
  · refine j_callV (ck' := 0) (sk' := 0) kL_67 cvX9_beginOfBar ha C rfl rfl rfl rfl rfl dL_beginOfBar_4 (by decide) (by decide) (fun v9 h1 hp => by cases hp.1) (fun E h1 hp => ?_)
    obtain ⟨e9, hp⟩ := hp
    cases e9
    refine jX_catch [] ⟨0, 9, 12, 13⟩ [] rfl (fun _ h => absurd h List.not_mem_nil) (by decide) (by decide : (13 : Nat) ≠ 0) kx13 cxIO (fun q => ?_)
    refine j_astore_n 3 (L' := [(3, _), (0, _), (1, _), (2, _)]) dL_beginOfBar_12 rfl rfl rfl ?_
    refine J_iconst dL_beginOfBar_13 ?_
    refine j_iret rfl dL_beginOfBar_14 ?_
    exact ⟨rfl, h1, f, hp, hP _ hp, fun z => absurd z (by decide), fun _ _ => rfl⟩
set_option maxRecDepth 100000 in
theorem c_L_lengthOfBar {l : Launch} {G : jG} {h : jH} {a o : Nat} {fs : List Value} {r : jO} {P : jH → Prop} {f : Nat → Int64} {t v : Int} {v0 : Int} (ha : h a = some (.inr (7, fs))) (C : jC l G yX9_lengthOfBar mX9_lengthOfBar [.ref a, vI v0] h (jW r P)) (hr : (t = 0 ∧ r = oI v) ∨ (t = 1 ∧ r = .inr "java/lang/IndexOutOfBoundsException")) (hP : ∀ h', P h' → h' o = some (aJ G 1 f)) : jC l G yL_lengthOfBar mL_lengthOfBar [.ref a, vI v0, .ref o] h (jW (oI t) (WR G o P t v)) := by
  refine j_body (by decide +kernel) ⟨rfl, rfl⟩ rfl ?_
  refine j_aload_n 2 dL_lengthOfBar_0 rfl rfl ?_
  refine J_iconst dL_lengthOfBar_1 ?_
  refine j_aload_n 0 dL_lengthOfBar_2 rfl rfl ?_
  refine j_iload_n 1 dL_lengthOfBar_3 rfl rfl ?_
  rcases hr with ⟨rfl, rfl⟩ | ⟨rfl, rfl⟩
  · refine j_callV (ck' := 0) (sk' := 0) kL_70 cvX9_lengthOfBar ha C rfl rfl rfl rfl rfl dL_lengthOfBar_4 (by decide) (by decide) (fun v9 h1 hp => ?_) (fun E h' hp => by cases hp.1)
    obtain ⟨e9, hp⟩ := hp
    cases e9
    refine j_i2l dL_lengthOfBar_7 ?_
    refine j_last dL_lengthOfBar_8 (hP _ hp) (I_vpin (by decide) (by decide)) ?_
    refine j_goto 15 dL_lengthOfBar_9 (by decide) ?_
    refine J_iconst dL_lengthOfBar_15 ?_
    refine j_iret rfl dL_lengthOfBar_16 ?_
    exact ⟨rfl, h1, _, hp, hset_s _ _ _, fun _ => rfl, fun c hc => hset_n hc⟩
  · refine j_callV (ck' := 0) (sk' := 0) kL_70 cvX9_lengthOfBar ha C rfl rfl rfl rfl rfl dL_lengthOfBar_4 (by decide) (by decide) (fun v9 h1 hp => by cases hp.1) (fun E h1 hp => ?_)
    obtain ⟨e9, hp⟩ := hp
    cases e9
    refine jX_catch [] ⟨0, 9, 12, 13⟩ [] rfl (fun _ h => absurd h List.not_mem_nil) (by decide) (by decide : (13 : Nat) ≠ 0) kx13 cxIO (fun q => ?_)
    refine j_astore_n 3 (L' := [(3, _), (0, _), (1, _), (2, _)]) dL_lengthOfBar_12 rfl rfl rfl ?_
    refine J_iconst dL_lengthOfBar_13 ?_
    refine j_iret rfl dL_lengthOfBar_14 ?_
    exact ⟨rfl, h1, f, hp, hP _ hp, fun z => absurd z (by decide), fun _ _ => rfl⟩
set_option maxRecDepth 100000 in
theorem c_L_signs {l : Launch} {G : jG} {h : jH} {a o : Nat} {fs : List Value} {r : jO} {P : jH → Prop} {f : Nat → Int64} {t v : Int} {v0 v1 : Int} (ha : h a = some (.inr (7, fs))) (C : jC l G yX9_signs mX9_signs [.ref a, vI v0, vI v1] h (jW r P)) (hr : (t = 0 ∧ r = oI v) ∨ (t = 1 ∧ r = .inr "java/lang/IndexOutOfBoundsException")) (hP : ∀ h', P h' → h' o = some (aJ G 1 f)) : jC l G yL_signs mL_signs [.ref a, vI v0, vI v1, .ref o] h (jW (oI t) (WR G o P t v)) := by
  refine j_body (by decide +kernel) ⟨rfl, rfl⟩ rfl ?_
  refine j_aload_n 3 dL_signs_0 rfl rfl ?_
  refine J_iconst dL_signs_1 ?_
  refine j_aload_n 0 dL_signs_2 rfl rfl ?_
  refine j_iload_n 1 dL_signs_3 rfl rfl ?_
  refine j_iload_n 2 dL_signs_4 rfl rfl ?_
  rcases hr with ⟨rfl, rfl⟩ | ⟨rfl, rfl⟩
  · refine j_callV (ck' := 0) (sk' := 0) kL_73 cvX9_signs ha C rfl rfl rfl rfl rfl dL_signs_5 (by decide) (by decide) (fun v9 h1 hp => ?_) (fun E h' hp => by cases hp.1)
    obtain ⟨e9, hp⟩ := hp
    cases e9
    refine j_i2l dL_signs_8 ?_
    refine j_last dL_signs_9 (hP _ hp) (I_vpin (by decide) (by decide)) ?_
    refine j_goto 17 dL_signs_10 (by decide) ?_
    refine J_iconst dL_signs_17 ?_
    refine j_iret rfl dL_signs_18 ?_
    exact ⟨rfl, h1, _, hp, hset_s _ _ _, fun _ => rfl, fun c hc => hset_n hc⟩
  · refine j_callV (ck' := 0) (sk' := 0) kL_73 cvX9_signs ha C rfl rfl rfl rfl rfl dL_signs_5 (by decide) (by decide) (fun v9 h1 hp => by cases hp.1) (fun E h1 hp => ?_)
    obtain ⟨e9, hp⟩ := hp
    cases e9
    refine jX_catch [] ⟨0, 10, 13, 13⟩ [] rfl (fun _ h => absurd h List.not_mem_nil) (by decide) (by decide : (13 : Nat) ≠ 0) kx13 cxIO (fun q => ?_)
    refine j_astore (L' := [(4, _), (0, _), (1, _), (2, _), (3, _)]) dL_signs_13 rfl rfl ?_
    refine J_iconst dL_signs_15 ?_
    refine j_iret rfl dL_signs_16 ?_
    exact ⟨rfl, h1, f, hp, hP _ hp, fun z => absurd z (by decide), fun _ _ => rfl⟩
set_option maxRecDepth 100000 in
theorem c_L_eventOf {l : Launch} {G : jG} {h : jH} {a o : Nat} {fs : List Value} {r : jO} {P : jH → Prop} {f : Nat → Int64} {t v : Int} {v0 v1 v2 : Int} (ha : h a = some (.inr (7, fs))) (C : jC l G yX9_eventOf mX9_eventOf [.ref a, vI v0, vI v1, vI v2] h (jW r P)) (hr : (t = 0 ∧ r = oI v) ∨ (t = 1 ∧ r = .inr "java/lang/IndexOutOfBoundsException")) (hP : ∀ h', P h' → h' o = some (aJ G 1 f)) : jC l G yL_eventOf mL_eventOf [.ref a, vI v0, vI v1, vI v2, .ref o] h (jW (oI t) (WR G o P t v)) := by
  refine j_body (by decide +kernel) ⟨rfl, rfl⟩ rfl ?_
  refine j_aload dL_eventOf_0 rfl ?_
  refine J_iconst dL_eventOf_2 ?_
  refine j_aload_n 0 dL_eventOf_3 rfl rfl ?_
  refine j_iload_n 1 dL_eventOf_4 rfl rfl ?_
  refine j_iload_n 2 dL_eventOf_5 rfl rfl ?_
  refine j_iload_n 3 dL_eventOf_6 rfl rfl ?_
  rcases hr with ⟨rfl, rfl⟩ | ⟨rfl, rfl⟩
  · refine j_callV (ck' := 0) (sk' := 0) kL_76 cvX9_eventOf ha C rfl rfl rfl rfl rfl dL_eventOf_7 (by decide) (by decide) (fun v9 h1 hp => ?_) (fun E h' hp => by cases hp.1)
    obtain ⟨e9, hp⟩ := hp
    cases e9
    refine j_i2l dL_eventOf_10 ?_
    refine j_last dL_eventOf_11 (hP _ hp) (I_vpin (by decide) (by decide)) ?_
    refine j_goto 19 dL_eventOf_12 (by decide) ?_
    refine J_iconst dL_eventOf_19 ?_
    refine j_iret rfl dL_eventOf_20 ?_
    exact ⟨rfl, h1, _, hp, hset_s _ _ _, fun _ => rfl, fun c hc => hset_n hc⟩
  · refine j_callV (ck' := 0) (sk' := 0) kL_76 cvX9_eventOf ha C rfl rfl rfl rfl rfl dL_eventOf_7 (by decide) (by decide) (fun v9 h1 hp => by cases hp.1) (fun E h1 hp => ?_)
    obtain ⟨e9, hp⟩ := hp
    cases e9
    refine jX_catch [] ⟨0, 12, 15, 13⟩ [] rfl (fun _ h => absurd h List.not_mem_nil) (by decide) (by decide : (13 : Nat) ≠ 0) kx13 cxIO (fun q => ?_)
    refine j_astore (L' := [(5, _), (0, _), (1, _), (2, _), (3, _), (4, _)]) dL_eventOf_15 rfl rfl ?_
    refine J_iconst dL_eventOf_17 ?_
    refine j_iret rfl dL_eventOf_18 ?_
    exact ⟨rfl, h1, f, hp, hP _ hp, fun z => absurd z (by decide), fun _ _ => rfl⟩
set_option maxRecDepth 100000 in
theorem c_L_lengthOf {l : Launch} {G : jG} {h : jH} {a o : Nat} {fs : List Value} {r : jO} {P : jH → Prop} {f : Nat → Int64} {t v : Int} {v0 v1 v2 : Int} (ha : h a = some (.inr (7, fs))) (C : jC l G yX9_lengthOf mX9_lengthOf [.ref a, vI v0, vI v1, vI v2] h (jW r P)) (hr : (t = 0 ∧ r = oI v) ∨ (t = 1 ∧ r = .inr "java/lang/IndexOutOfBoundsException")) (hP : ∀ h', P h' → h' o = some (aJ G 1 f)) : jC l G yL_lengthOf mL_lengthOf [.ref a, vI v0, vI v1, vI v2, .ref o] h (jW (oI t) (WR G o P t v)) := by
  refine j_body (by decide +kernel) ⟨rfl, rfl⟩ rfl ?_
  refine j_aload dL_lengthOf_0 rfl ?_
  refine J_iconst dL_lengthOf_2 ?_
  refine j_aload_n 0 dL_lengthOf_3 rfl rfl ?_
  refine j_iload_n 1 dL_lengthOf_4 rfl rfl ?_
  refine j_iload_n 2 dL_lengthOf_5 rfl rfl ?_
  refine j_iload_n 3 dL_lengthOf_6 rfl rfl ?_
  rcases hr with ⟨rfl, rfl⟩ | ⟨rfl, rfl⟩
  · refine j_callV (ck' := 0) (sk' := 0) kL_79 cvX9_lengthOf ha C rfl rfl rfl rfl rfl dL_lengthOf_7 (by decide) (by decide) (fun v9 h1 hp => ?_) (fun E h' hp => by cases hp.1)
    obtain ⟨e9, hp⟩ := hp
    cases e9
    refine j_i2l dL_lengthOf_10 ?_
    refine j_last dL_lengthOf_11 (hP _ hp) (I_vpin (by decide) (by decide)) ?_
    refine j_goto 19 dL_lengthOf_12 (by decide) ?_
    refine J_iconst dL_lengthOf_19 ?_
    refine j_iret rfl dL_lengthOf_20 ?_
    exact ⟨rfl, h1, _, hp, hset_s _ _ _, fun _ => rfl, fun c hc => hset_n hc⟩
  · refine j_callV (ck' := 0) (sk' := 0) kL_79 cvX9_lengthOf ha C rfl rfl rfl rfl rfl dL_lengthOf_7 (by decide) (by decide) (fun v9 h1 hp => by cases hp.1) (fun E h1 hp => ?_)
    obtain ⟨e9, hp⟩ := hp
    cases e9
    refine jX_catch [] ⟨0, 12, 15, 13⟩ [] rfl (fun _ h => absurd h List.not_mem_nil) (by decide) (by decide : (13 : Nat) ≠ 0) kx13 cxIO (fun q => ?_)
    refine j_astore (L' := [(5, _), (0, _), (1, _), (2, _), (3, _), (4, _)]) dL_lengthOf_15 rfl rfl ?_
    refine J_iconst dL_lengthOf_17 ?_
    refine j_iret rfl dL_lengthOf_18 ?_
    exact ⟨rfl, h1, f, hp, hP _ hp, fun z => absurd z (by decide), fun _ _ => rfl⟩
set_option maxRecDepth 100000 in
theorem c_L_isTied {l : Launch} {G : jG} {h : jH} {a o : Nat} {fs : List Value} {r : jO} {P : jH → Prop} {f : Nat → Int64} {t v : Int} {v0 v1 v2 : Int} (ha : h a = some (.inr (7, fs))) (C : jC l G yX9_isTied mX9_isTied [.ref a, vI v0, vI v1, vI v2] h (jW r P)) (hr : (t = 0 ∧ r = oI v) ∨ (t = 1 ∧ r = .inr "java/lang/IndexOutOfBoundsException")) (hP : ∀ h', P h' → h' o = some (aJ G 1 f)) (hv : v = 0 ∨ v = 1) : jC l G yL_isTied mL_isTied [.ref a, vI v0, vI v1, vI v2, .ref o] h (jW (oI t) (WR G o P t v)) := by
  refine j_body (by decide +kernel) ⟨rfl, rfl⟩ rfl ?_
  refine j_aload dL_isTied_0 rfl ?_
  refine J_iconst dL_isTied_2 ?_
  refine j_aload_n 0 dL_isTied_3 rfl rfl ?_
  refine j_iload_n 1 dL_isTied_4 rfl rfl ?_
  refine j_iload_n 2 dL_isTied_5 rfl rfl ?_
  refine j_iload_n 3 dL_isTied_6 rfl rfl ?_
  rcases hr with ⟨rfl, rfl⟩ | ⟨rfl, rfl⟩
  · refine j_callV (ck' := 0) (sk' := 0) kL_82 cvX9_isTied ha C rfl rfl rfl rfl rfl dL_isTied_7 (by decide) (by decide) (fun v9 h1 hp => ?_) (fun E h' hp => by cases hp.1)
    obtain ⟨e9, hp⟩ := hp
    cases e9
    rcases hv with e | e <;> subst e
    · refine J_if_eq 17 dL_isTied_10 (by decide) (fun _ => ?_) (fun c => absurd rfl c) (by decide)
      refine j_lconst (Int64.ofInt 0) dL_isTied_17 (by decide) ?_
      refine j_last dL_isTied_18 (hP _ hp) (I_vpin (by decide) (by decide)) ?_
      refine j_goto 26 dL_isTied_19 (by decide) ?_
      refine J_iconst dL_isTied_26 ?_
      refine j_iret rfl dL_isTied_27 ?_
      exact ⟨rfl, h1, _, hp, hset_s _ _ _, fun _ => (by decide : Int64.ofInt 0 = (Int32.ofInt 0).toInt64), fun c hc => hset_n hc⟩
    · refine J_if_eq 17 dL_isTied_10 (by decide) (fun c => absurd c (by decide)) (fun _ => ?_) (by decide)
      refine j_lconst (Int64.ofInt 1) dL_isTied_13 (by decide) ?_
      refine j_goto 18 dL_isTied_14 (by decide) ?_
      refine j_last dL_isTied_18 (hP _ hp) (I_vpin (by decide) (by decide)) ?_
      refine j_goto 26 dL_isTied_19 (by decide) ?_
      refine J_iconst dL_isTied_26 ?_
      refine j_iret rfl dL_isTied_27 ?_
      exact ⟨rfl, h1, _, hp, hset_s _ _ _, fun _ => (by decide : Int64.ofInt 1 = (Int32.ofInt 1).toInt64), fun c hc => hset_n hc⟩
  · refine j_callV (ck' := 0) (sk' := 0) kL_82 cvX9_isTied ha C rfl rfl rfl rfl rfl dL_isTied_7 (by decide) (by decide) (fun v9 h1 hp => by cases hp.1) (fun E h1 hp => ?_)
    obtain ⟨e9, hp⟩ := hp
    cases e9
    refine jX_catch [] ⟨0, 19, 22, 13⟩ [] rfl (fun _ h => absurd h List.not_mem_nil) (by decide) (by decide : (13 : Nat) ≠ 0) kx13 cxIO (fun q => ?_)
    refine j_astore (L' := [(5, _), (0, _), (1, _), (2, _), (3, _), (4, _)]) dL_isTied_22 rfl rfl ?_
    refine J_iconst dL_isTied_24 ?_
    refine j_iret rfl dL_isTied_25 ?_
    exact ⟨rfl, h1, f, hp, hP _ hp, fun z => absurd z (by decide), fun _ _ => rfl⟩
set_option maxRecDepth 100000 in
theorem c_L_shown {l : Launch} {G : jG} {h : jH} {a o : Nat} {fs : List Value} {r : jO} {P : jH → Prop} {f : Nat → Int64} {t v : Int} {v0 v1 v2 : Int} (ha : h a = some (.inr (7, fs))) (C : jC l G yX9_shown mX9_shown [.ref a, vI v0, vI v1, vI v2] h (jW r P)) (hr : (t = 0 ∧ r = oI v) ∨ (t = 1 ∧ r = .inr "java/lang/IndexOutOfBoundsException")) (hP : ∀ h', P h' → h' o = some (aJ G 1 f)) : jC l G yL_shown mL_shown [.ref a, vI v0, vI v1, vI v2, .ref o] h (jW (oI t) (WR G o P t v)) := by
  refine j_body (by decide +kernel) ⟨rfl, rfl⟩ rfl ?_
  refine j_aload dL_shown_0 rfl ?_
  refine J_iconst dL_shown_2 ?_
  refine j_aload_n 0 dL_shown_3 rfl rfl ?_
  refine j_iload_n 1 dL_shown_4 rfl rfl ?_
  refine j_iload_n 2 dL_shown_5 rfl rfl ?_
  refine j_iload_n 3 dL_shown_6 rfl rfl ?_
  rcases hr with ⟨rfl, rfl⟩ | ⟨rfl, rfl⟩
  · refine j_callV (ck' := 0) (sk' := 0) kL_86 cvX9_shown ha C rfl rfl rfl rfl rfl dL_shown_7 (by decide) (by decide) (fun v9 h1 hp => ?_) (fun E h' hp => by cases hp.1)
    obtain ⟨e9, hp⟩ := hp
    cases e9
    refine j_i2l dL_shown_10 ?_
    refine j_last dL_shown_11 (hP _ hp) (I_vpin (by decide) (by decide)) ?_
    refine j_goto 19 dL_shown_12 (by decide) ?_
    refine J_iconst dL_shown_19 ?_
    refine j_iret rfl dL_shown_20 ?_
    exact ⟨rfl, h1, _, hp, hset_s _ _ _, fun _ => rfl, fun c hc => hset_n hc⟩
  · refine j_callV (ck' := 0) (sk' := 0) kL_86 cvX9_shown ha C rfl rfl rfl rfl rfl dL_shown_7 (by decide) (by decide) (fun v9 h1 hp => by cases hp.1) (fun E h1 hp => ?_)
    obtain ⟨e9, hp⟩ := hp
    cases e9
    refine jX_catch [] ⟨0, 12, 15, 13⟩ [] rfl (fun _ h => absurd h List.not_mem_nil) (by decide) (by decide : (13 : Nat) ≠ 0) kx13 cxIO (fun q => ?_)
    refine j_astore (L' := [(5, _), (0, _), (1, _), (2, _), (3, _), (4, _)]) dL_shown_15 rfl rfl ?_
    refine J_iconst dL_shown_17 ?_
    refine j_iret rfl dL_shown_18 ?_
    exact ⟨rfl, h1, f, hp, hP _ hp, fun z => absurd z (by decide), fun _ _ => rfl⟩
set_option maxRecDepth 100000 in
theorem c_L_shownWritten {l : Launch} {G : jG} {h : jH} {a o : Nat} {fs : List Value} {r : jO} {P : jH → Prop} {f : Nat → Int64} {t v : Int} {v0 v1 v2 : Int} (ha : h a = some (.inr (7, fs))) (C : jC l G yX9_shownWritten mX9_shownWritten [.ref a, vI v0, vI v1, vI v2] h (jW r P)) (hr : (t = 0 ∧ r = oI v) ∨ (t = 1 ∧ r = .inr "java/lang/IndexOutOfBoundsException")) (hP : ∀ h', P h' → h' o = some (aJ G 1 f)) : jC l G yL_shownWritten mL_shownWritten [.ref a, vI v0, vI v1, vI v2, .ref o] h (jW (oI t) (WR G o P t v)) := by
  refine j_body (by decide +kernel) ⟨rfl, rfl⟩ rfl ?_
  refine j_aload dL_shownWritten_0 rfl ?_
  refine J_iconst dL_shownWritten_2 ?_
  refine j_aload_n 0 dL_shownWritten_3 rfl rfl ?_
  refine j_iload_n 1 dL_shownWritten_4 rfl rfl ?_
  refine j_iload_n 2 dL_shownWritten_5 rfl rfl ?_
  refine j_iload_n 3 dL_shownWritten_6 rfl rfl ?_
  rcases hr with ⟨rfl, rfl⟩ | ⟨rfl, rfl⟩
  · refine j_callV (ck' := 0) (sk' := 0) kL_89 cvX9_shownWritten ha C rfl rfl rfl rfl rfl dL_shownWritten_7 (by decide) (by decide) (fun v9 h1 hp => ?_) (fun E h' hp => by cases hp.1)
    obtain ⟨e9, hp⟩ := hp
    cases e9
    refine j_i2l dL_shownWritten_10 ?_
    refine j_last dL_shownWritten_11 (hP _ hp) (I_vpin (by decide) (by decide)) ?_
    refine j_goto 19 dL_shownWritten_12 (by decide) ?_
    refine J_iconst dL_shownWritten_19 ?_
    refine j_iret rfl dL_shownWritten_20 ?_
    exact ⟨rfl, h1, _, hp, hset_s _ _ _, fun _ => rfl, fun c hc => hset_n hc⟩
  · refine j_callV (ck' := 0) (sk' := 0) kL_89 cvX9_shownWritten ha C rfl rfl rfl rfl rfl dL_shownWritten_7 (by decide) (by decide) (fun v9 h1 hp => by cases hp.1) (fun E h1 hp => ?_)
    obtain ⟨e9, hp⟩ := hp
    cases e9
    refine jX_catch [] ⟨0, 12, 15, 13⟩ [] rfl (fun _ h => absurd h List.not_mem_nil) (by decide) (by decide : (13 : Nat) ≠ 0) kx13 cxIO (fun q => ?_)
    refine j_astore (L' := [(5, _), (0, _), (1, _), (2, _), (3, _), (4, _)]) dL_shownWritten_15 rfl rfl ?_
    refine J_iconst dL_shownWritten_17 ?_
    refine j_iret rfl dL_shownWritten_18 ?_
    exact ⟨rfl, h1, f, hp, hP _ hp, fun z => absurd z (by decide), fun _ _ => rfl⟩
set_option maxRecDepth 100000 in
theorem c_L_beams {l : Launch} {G : jG} {h : jH} {a o : Nat} {fs : List Value} {r : jO} {P : jH → Prop} {f : Nat → Int64} {t v : Int} {v0 v1 : Int} (ha : h a = some (.inr (7, fs))) (C : jC l G yX9_beams mX9_beams [.ref a, vI v0, vI v1] h (jW r P)) (hr : (t = 0 ∧ r = oI v) ∨ (t = 1 ∧ r = .inr "java/lang/IndexOutOfBoundsException")) (hP : ∀ h', P h' → h' o = some (aJ G 1 f)) : jC l G yL_beams mL_beams [.ref a, vI v0, vI v1, .ref o] h (jW (oI t) (WR G o P t v)) := by
  refine j_body (by decide +kernel) ⟨rfl, rfl⟩ rfl ?_
  refine j_aload_n 3 dL_beams_0 rfl rfl ?_
  refine J_iconst dL_beams_1 ?_
  refine j_aload_n 0 dL_beams_2 rfl rfl ?_
  refine j_iload_n 1 dL_beams_3 rfl rfl ?_
  refine j_iload_n 2 dL_beams_4 rfl rfl ?_
  rcases hr with ⟨rfl, rfl⟩ | ⟨rfl, rfl⟩
  · refine j_callV (ck' := 0) (sk' := 0) kL_92 cvX9_beams ha C rfl rfl rfl rfl rfl dL_beams_5 (by decide) (by decide) (fun v9 h1 hp => ?_) (fun E h' hp => by cases hp.1)
    obtain ⟨e9, hp⟩ := hp
    cases e9
    refine j_i2l dL_beams_8 ?_
    refine j_last dL_beams_9 (hP _ hp) (I_vpin (by decide) (by decide)) ?_
    refine j_goto 17 dL_beams_10 (by decide) ?_
    refine J_iconst dL_beams_17 ?_
    refine j_iret rfl dL_beams_18 ?_
    exact ⟨rfl, h1, _, hp, hset_s _ _ _, fun _ => rfl, fun c hc => hset_n hc⟩
  · refine j_callV (ck' := 0) (sk' := 0) kL_92 cvX9_beams ha C rfl rfl rfl rfl rfl dL_beams_5 (by decide) (by decide) (fun v9 h1 hp => by cases hp.1) (fun E h1 hp => ?_)
    obtain ⟨e9, hp⟩ := hp
    cases e9
    refine jX_catch [] ⟨0, 10, 13, 13⟩ [] rfl (fun _ h => absurd h List.not_mem_nil) (by decide) (by decide : (13 : Nat) ≠ 0) kx13 cxIO (fun q => ?_)
    refine j_astore (L' := [(4, _), (0, _), (1, _), (2, _), (3, _)]) dL_beams_13 rfl rfl ?_
    refine J_iconst dL_beams_15 ?_
    refine j_iret rfl dL_beams_16 ?_
    exact ⟨rfl, h1, f, hp, hP _ hp, fun z => absurd z (by decide), fun _ _ => rfl⟩
set_option maxRecDepth 100000 in
theorem c_L_beamOf {l : Launch} {G : jG} {h : jH} {a o : Nat} {fs : List Value} {r : jO} {P : jH → Prop} {f : Nat → Int64} {t v : Int} {v0 v1 v2 : Int} (ha : h a = some (.inr (7, fs))) (C : jC l G yX9_beamOf mX9_beamOf [.ref a, vI v0, vI v1, vI v2] h (jW r P)) (hr : (t = 0 ∧ r = oI v) ∨ (t = 1 ∧ r = .inr "java/lang/IndexOutOfBoundsException")) (hP : ∀ h', P h' → h' o = some (aJ G 1 f)) : jC l G yL_beamOf mL_beamOf [.ref a, vI v0, vI v1, vI v2, .ref o] h (jW (oI t) (WR G o P t v)) := by
  refine j_body (by decide +kernel) ⟨rfl, rfl⟩ rfl ?_
  refine j_aload dL_beamOf_0 rfl ?_
  refine J_iconst dL_beamOf_2 ?_
  refine j_aload_n 0 dL_beamOf_3 rfl rfl ?_
  refine j_iload_n 1 dL_beamOf_4 rfl rfl ?_
  refine j_iload_n 2 dL_beamOf_5 rfl rfl ?_
  refine j_iload_n 3 dL_beamOf_6 rfl rfl ?_
  rcases hr with ⟨rfl, rfl⟩ | ⟨rfl, rfl⟩
  · refine j_callV (ck' := 0) (sk' := 0) kL_95 cvX9_beamOf ha C rfl rfl rfl rfl rfl dL_beamOf_7 (by decide) (by decide) (fun v9 h1 hp => ?_) (fun E h' hp => by cases hp.1)
    obtain ⟨e9, hp⟩ := hp
    cases e9
    refine j_i2l dL_beamOf_10 ?_
    refine j_last dL_beamOf_11 (hP _ hp) (I_vpin (by decide) (by decide)) ?_
    refine j_goto 19 dL_beamOf_12 (by decide) ?_
    refine J_iconst dL_beamOf_19 ?_
    refine j_iret rfl dL_beamOf_20 ?_
    exact ⟨rfl, h1, _, hp, hset_s _ _ _, fun _ => rfl, fun c hc => hset_n hc⟩
  · refine j_callV (ck' := 0) (sk' := 0) kL_95 cvX9_beamOf ha C rfl rfl rfl rfl rfl dL_beamOf_7 (by decide) (by decide) (fun v9 h1 hp => by cases hp.1) (fun E h1 hp => ?_)
    obtain ⟨e9, hp⟩ := hp
    cases e9
    refine jX_catch [] ⟨0, 12, 15, 13⟩ [] rfl (fun _ h => absurd h List.not_mem_nil) (by decide) (by decide : (13 : Nat) ≠ 0) kx13 cxIO (fun q => ?_)
    refine j_astore (L' := [(5, _), (0, _), (1, _), (2, _), (3, _), (4, _)]) dL_beamOf_15 rfl rfl ?_
    refine J_iconst dL_beamOf_17 ?_
    refine j_iret rfl dL_beamOf_18 ?_
    exact ⟨rfl, h1, f, hp, hP _ hp, fun z => absurd z (by decide), fun _ _ => rfl⟩
set_option maxRecDepth 100000 in
theorem c_L_missing {l : Launch} {G : jG} {h : jH} {a o : Nat} {fs : List Value} {r : jO} {P : jH → Prop} {f : Nat → Int64} {t v : Int} {v0 v1 : Int} (ha : h a = some (.inr (7, fs))) (C : jC l G yX9_missing mX9_missing [.ref a, vI v0, vI v1] h (jW r P)) (hr : (t = 0 ∧ r = oI v) ∨ (t = 1 ∧ r = .inr "java/lang/IndexOutOfBoundsException")) (hP : ∀ h', P h' → h' o = some (aJ G 1 f)) : jC l G yL_missing mL_missing [.ref a, vI v0, vI v1, .ref o] h (jW (oI t) (WR G o P t v)) := by
  refine j_body (by decide +kernel) ⟨rfl, rfl⟩ rfl ?_
  refine j_aload_n 3 dL_missing_0 rfl rfl ?_
  refine J_iconst dL_missing_1 ?_
  refine j_aload_n 0 dL_missing_2 rfl rfl ?_
  refine j_iload_n 1 dL_missing_3 rfl rfl ?_
  refine j_iload_n 2 dL_missing_4 rfl rfl ?_
  rcases hr with ⟨rfl, rfl⟩ | ⟨rfl, rfl⟩
  · refine j_callV (ck' := 0) (sk' := 0) kL_98 cvX9_missing ha C rfl rfl rfl rfl rfl dL_missing_5 (by decide) (by decide) (fun v9 h1 hp => ?_) (fun E h' hp => by cases hp.1)
    obtain ⟨e9, hp⟩ := hp
    cases e9
    refine j_i2l dL_missing_8 ?_
    refine j_last dL_missing_9 (hP _ hp) (I_vpin (by decide) (by decide)) ?_
    refine j_goto 17 dL_missing_10 (by decide) ?_
    refine J_iconst dL_missing_17 ?_
    refine j_iret rfl dL_missing_18 ?_
    exact ⟨rfl, h1, _, hp, hset_s _ _ _, fun _ => rfl, fun c hc => hset_n hc⟩
  · refine j_callV (ck' := 0) (sk' := 0) kL_98 cvX9_missing ha C rfl rfl rfl rfl rfl dL_missing_5 (by decide) (by decide) (fun v9 h1 hp => by cases hp.1) (fun E h1 hp => ?_)
    obtain ⟨e9, hp⟩ := hp
    cases e9
    refine jX_catch [] ⟨0, 10, 13, 13⟩ [] rfl (fun _ h => absurd h List.not_mem_nil) (by decide) (by decide : (13 : Nat) ≠ 0) kx13 cxIO (fun q => ?_)
    refine j_astore (L' := [(4, _), (0, _), (1, _), (2, _), (3, _)]) dL_missing_13 rfl rfl ?_
    refine J_iconst dL_missing_15 ?_
    refine j_iret rfl dL_missing_16 ?_
    exact ⟨rfl, h1, f, hp, hP _ hp, fun z => absurd z (by decide), fun _ _ => rfl⟩
set_option maxRecDepth 100000 in
theorem c_L_tickOf {l : Launch} {G : jG} {h : jH} {a o : Nat} {fs : List Value} {r : jO} {P : jH → Prop} {f : Nat → Int64} {t v : Int} {v0 : Int} (ha : h a = some (.inr (7, fs))) (C : jC l G yX9_tickOf mX9_tickOf [.ref a, vI v0] h (jW r P)) (hr : (t = 0 ∧ r = oI v) ∨ (t = 1 ∧ r = .inr "java/lang/IndexOutOfBoundsException")) (hP : ∀ h', P h' → h' o = some (aJ G 1 f)) : jC l G yL_tickOf mL_tickOf [.ref a, vI v0, .ref o] h (jW (oI t) (WR G o P t v)) := by
  refine j_body (by decide +kernel) ⟨rfl, rfl⟩ rfl ?_
  refine j_aload_n 2 dL_tickOf_0 rfl rfl ?_
  refine J_iconst dL_tickOf_1 ?_
  refine j_aload_n 0 dL_tickOf_2 rfl rfl ?_
  refine j_iload_n 1 dL_tickOf_3 rfl rfl ?_
  rcases hr with ⟨rfl, rfl⟩ | ⟨rfl, rfl⟩
  · refine j_callV (ck' := 0) (sk' := 0) kL_101 cvX9_tickOf ha C rfl rfl rfl rfl rfl dL_tickOf_4 (by decide) (by decide) (fun v9 h1 hp => ?_) (fun E h' hp => by cases hp.1)
    obtain ⟨e9, hp⟩ := hp
    cases e9
    refine j_i2l dL_tickOf_7 ?_
    refine j_last dL_tickOf_8 (hP _ hp) (I_vpin (by decide) (by decide)) ?_
    refine j_goto 15 dL_tickOf_9 (by decide) ?_
    refine J_iconst dL_tickOf_15 ?_
    refine j_iret rfl dL_tickOf_16 ?_
    exact ⟨rfl, h1, _, hp, hset_s _ _ _, fun _ => rfl, fun c hc => hset_n hc⟩
  · refine j_callV (ck' := 0) (sk' := 0) kL_101 cvX9_tickOf ha C rfl rfl rfl rfl rfl dL_tickOf_4 (by decide) (by decide) (fun v9 h1 hp => by cases hp.1) (fun E h1 hp => ?_)
    obtain ⟨e9, hp⟩ := hp
    cases e9
    refine jX_catch [] ⟨0, 9, 12, 13⟩ [] rfl (fun _ h => absurd h List.not_mem_nil) (by decide) (by decide : (13 : Nat) ≠ 0) kx13 cxIO (fun q => ?_)
    refine j_astore_n 3 (L' := [(3, _), (0, _), (1, _), (2, _)]) dL_tickOf_12 rfl rfl rfl ?_
    refine J_iconst dL_tickOf_13 ?_
    refine j_iret rfl dL_tickOf_14 ?_
    exact ⟨rfl, h1, f, hp, hP _ hp, fun z => absurd z (by decide), fun _ _ => rfl⟩
set_option maxRecDepth 100000 in
theorem c_L_sounds {l : Launch} {G : jG} {h : jH} {a o : Nat} {fs : List Value} {r : jO} {P : jH → Prop} {f : Nat → Int64} {t v : Int} {v0 v1 : Int} (ha : h a = some (.inr (7, fs))) (C : jC l G yX9_sounds mX9_sounds [.ref a, vI v0, vI v1] h (jW r P)) (hr : (t = 0 ∧ r = oI v) ∨ (t = 1 ∧ r = .inr "java/lang/IndexOutOfBoundsException")) (hP : ∀ h', P h' → h' o = some (aJ G 1 f)) : jC l G yL_sounds mL_sounds [.ref a, vI v0, vI v1, .ref o] h (jW (oI t) (WR G o P t v)) := by
  refine j_body (by decide +kernel) ⟨rfl, rfl⟩ rfl ?_
  refine j_aload_n 3 dL_sounds_0 rfl rfl ?_
  refine J_iconst dL_sounds_1 ?_
  refine j_aload_n 0 dL_sounds_2 rfl rfl ?_
  refine j_iload_n 1 dL_sounds_3 rfl rfl ?_
  refine j_iload_n 2 dL_sounds_4 rfl rfl ?_
  rcases hr with ⟨rfl, rfl⟩ | ⟨rfl, rfl⟩
  · refine j_callV (ck' := 0) (sk' := 0) kL_104 cvX9_sounds ha C rfl rfl rfl rfl rfl dL_sounds_5 (by decide) (by decide) (fun v9 h1 hp => ?_) (fun E h' hp => by cases hp.1)
    obtain ⟨e9, hp⟩ := hp
    cases e9
    refine j_i2l dL_sounds_8 ?_
    refine j_last dL_sounds_9 (hP _ hp) (I_vpin (by decide) (by decide)) ?_
    refine j_goto 17 dL_sounds_10 (by decide) ?_
    refine J_iconst dL_sounds_17 ?_
    refine j_iret rfl dL_sounds_18 ?_
    exact ⟨rfl, h1, _, hp, hset_s _ _ _, fun _ => rfl, fun c hc => hset_n hc⟩
  · refine j_callV (ck' := 0) (sk' := 0) kL_104 cvX9_sounds ha C rfl rfl rfl rfl rfl dL_sounds_5 (by decide) (by decide) (fun v9 h1 hp => by cases hp.1) (fun E h1 hp => ?_)
    obtain ⟨e9, hp⟩ := hp
    cases e9
    refine jX_catch [] ⟨0, 10, 13, 13⟩ [] rfl (fun _ h => absurd h List.not_mem_nil) (by decide) (by decide : (13 : Nat) ≠ 0) kx13 cxIO (fun q => ?_)
    refine j_astore (L' := [(4, _), (0, _), (1, _), (2, _), (3, _)]) dL_sounds_13 rfl rfl ?_
    refine J_iconst dL_sounds_15 ?_
    refine j_iret rfl dL_sounds_16 ?_
    exact ⟨rfl, h1, f, hp, hP _ hp, fun z => absurd z (by decide), fun _ _ => rfl⟩
set_option maxRecDepth 100000 in
theorem c_L_root {l : Launch} {G : jG} {h : jH} {a o : Nat} {fs : List Value} {r : jO} {P : jH → Prop} {f : Nat → Int64} {t v : Int} {v0 : Int} (ha : h a = some (.inr (7, fs))) (C : jC l G yX9_root mX9_root [.ref a, vI v0] h (jW r P)) (hr : (t = 0 ∧ r = oI v) ∨ (t = 1 ∧ r = .inr "java/lang/IndexOutOfBoundsException")) (hP : ∀ h', P h' → h' o = some (aJ G 1 f)) : jC l G yL_root mL_root [.ref a, vI v0, .ref o] h (jW (oI t) (WR G o P t v)) := by
  refine j_body (by decide +kernel) ⟨rfl, rfl⟩ rfl ?_
  refine j_aload_n 2 dL_root_0 rfl rfl ?_
  refine J_iconst dL_root_1 ?_
  refine j_aload_n 0 dL_root_2 rfl rfl ?_
  refine j_iload_n 1 dL_root_3 rfl rfl ?_
  rcases hr with ⟨rfl, rfl⟩ | ⟨rfl, rfl⟩
  · refine j_callV (ck' := 0) (sk' := 0) kL_107 cvX9_root ha C rfl rfl rfl rfl rfl dL_root_4 (by decide) (by decide) (fun v9 h1 hp => ?_) (fun E h' hp => by cases hp.1)
    obtain ⟨e9, hp⟩ := hp
    cases e9
    refine j_i2l dL_root_7 ?_
    refine j_last dL_root_8 (hP _ hp) (I_vpin (by decide) (by decide)) ?_
    refine j_goto 15 dL_root_9 (by decide) ?_
    refine J_iconst dL_root_15 ?_
    refine j_iret rfl dL_root_16 ?_
    exact ⟨rfl, h1, _, hp, hset_s _ _ _, fun _ => rfl, fun c hc => hset_n hc⟩
  · refine j_callV (ck' := 0) (sk' := 0) kL_107 cvX9_root ha C rfl rfl rfl rfl rfl dL_root_4 (by decide) (by decide) (fun v9 h1 hp => by cases hp.1) (fun E h1 hp => ?_)
    obtain ⟨e9, hp⟩ := hp
    cases e9
    refine jX_catch [] ⟨0, 9, 12, 13⟩ [] rfl (fun _ h => absurd h List.not_mem_nil) (by decide) (by decide : (13 : Nat) ≠ 0) kx13 cxIO (fun q => ?_)
    refine j_astore_n 3 (L' := [(3, _), (0, _), (1, _), (2, _)]) dL_root_12 rfl rfl rfl ?_
    refine J_iconst dL_root_13 ?_
    refine j_iret rfl dL_root_14 ?_
    exact ⟨rfl, h1, f, hp, hP _ hp, fun z => absurd z (by decide), fun _ _ => rfl⟩
set_option maxRecDepth 100000 in
theorem c_L_kind {l : Launch} {G : jG} {h : jH} {a o : Nat} {fs : List Value} {r : jO} {P : jH → Prop} {f : Nat → Int64} {t v : Int} {v0 : Int} (ha : h a = some (.inr (7, fs))) (C : jC l G yX9_kind mX9_kind [.ref a, vI v0] h (jW r P)) (hr : (t = 0 ∧ r = oI v) ∨ (t = 1 ∧ r = .inr "java/lang/IndexOutOfBoundsException")) (hP : ∀ h', P h' → h' o = some (aJ G 1 f)) : jC l G yL_kind mL_kind [.ref a, vI v0, .ref o] h (jW (oI t) (WR G o P t v)) := by
  refine j_body (by decide +kernel) ⟨rfl, rfl⟩ rfl ?_
  refine j_aload_n 2 dL_kind_0 rfl rfl ?_
  refine J_iconst dL_kind_1 ?_
  refine j_aload_n 0 dL_kind_2 rfl rfl ?_
  refine j_iload_n 1 dL_kind_3 rfl rfl ?_
  rcases hr with ⟨rfl, rfl⟩ | ⟨rfl, rfl⟩
  · refine j_callV (ck' := 0) (sk' := 0) kL_110 cvX9_kind ha C rfl rfl rfl rfl rfl dL_kind_4 (by decide) (by decide) (fun v9 h1 hp => ?_) (fun E h' hp => by cases hp.1)
    obtain ⟨e9, hp⟩ := hp
    cases e9
    refine j_i2l dL_kind_7 ?_
    refine j_last dL_kind_8 (hP _ hp) (I_vpin (by decide) (by decide)) ?_
    refine j_goto 15 dL_kind_9 (by decide) ?_
    refine J_iconst dL_kind_15 ?_
    refine j_iret rfl dL_kind_16 ?_
    exact ⟨rfl, h1, _, hp, hset_s _ _ _, fun _ => rfl, fun c hc => hset_n hc⟩
  · refine j_callV (ck' := 0) (sk' := 0) kL_110 cvX9_kind ha C rfl rfl rfl rfl rfl dL_kind_4 (by decide) (by decide) (fun v9 h1 hp => by cases hp.1) (fun E h1 hp => ?_)
    obtain ⟨e9, hp⟩ := hp
    cases e9
    refine jX_catch [] ⟨0, 9, 12, 13⟩ [] rfl (fun _ h => absurd h List.not_mem_nil) (by decide) (by decide : (13 : Nat) ≠ 0) kx13 cxIO (fun q => ?_)
    refine j_astore_n 3 (L' := [(3, _), (0, _), (1, _), (2, _)]) dL_kind_12 rfl rfl rfl ?_
    refine J_iconst dL_kind_13 ?_
    refine j_iret rfl dL_kind_14 ?_
    exact ⟨rfl, h1, f, hp, hP _ hp, fun z => absurd z (by decide), fun _ _ => rfl⟩
set_option maxRecDepth 100000 in
theorem c_L_inversion {l : Launch} {G : jG} {h : jH} {a o : Nat} {fs : List Value} {r : jO} {P : jH → Prop} {f : Nat → Int64} {t v : Int} {v0 : Int} (ha : h a = some (.inr (7, fs))) (C : jC l G yX9_inversion mX9_inversion [.ref a, vI v0] h (jW r P)) (hr : (t = 0 ∧ r = oI v) ∨ (t = 1 ∧ r = .inr "java/lang/IndexOutOfBoundsException")) (hP : ∀ h', P h' → h' o = some (aJ G 1 f)) : jC l G yL_inversion mL_inversion [.ref a, vI v0, .ref o] h (jW (oI t) (WR G o P t v)) := by
  refine j_body (by decide +kernel) ⟨rfl, rfl⟩ rfl ?_
  refine j_aload_n 2 dL_inversion_0 rfl rfl ?_
  refine J_iconst dL_inversion_1 ?_
  refine j_aload_n 0 dL_inversion_2 rfl rfl ?_
  refine j_iload_n 1 dL_inversion_3 rfl rfl ?_
  rcases hr with ⟨rfl, rfl⟩ | ⟨rfl, rfl⟩
  · refine j_callV (ck' := 0) (sk' := 0) kL_113 cvX9_inversion ha C rfl rfl rfl rfl rfl dL_inversion_4 (by decide) (by decide) (fun v9 h1 hp => ?_) (fun E h' hp => by cases hp.1)
    obtain ⟨e9, hp⟩ := hp
    cases e9
    refine j_i2l dL_inversion_7 ?_
    refine j_last dL_inversion_8 (hP _ hp) (I_vpin (by decide) (by decide)) ?_
    refine j_goto 15 dL_inversion_9 (by decide) ?_
    refine J_iconst dL_inversion_15 ?_
    refine j_iret rfl dL_inversion_16 ?_
    exact ⟨rfl, h1, _, hp, hset_s _ _ _, fun _ => rfl, fun c hc => hset_n hc⟩
  · refine j_callV (ck' := 0) (sk' := 0) kL_113 cvX9_inversion ha C rfl rfl rfl rfl rfl dL_inversion_4 (by decide) (by decide) (fun v9 h1 hp => by cases hp.1) (fun E h1 hp => ?_)
    obtain ⟨e9, hp⟩ := hp
    cases e9
    refine jX_catch [] ⟨0, 9, 12, 13⟩ [] rfl (fun _ h => absurd h List.not_mem_nil) (by decide) (by decide : (13 : Nat) ≠ 0) kx13 cxIO (fun q => ?_)
    refine j_astore_n 3 (L' := [(3, _), (0, _), (1, _), (2, _)]) dL_inversion_12 rfl rfl rfl ?_
    refine J_iconst dL_inversion_13 ?_
    refine j_iret rfl dL_inversion_14 ?_
    exact ⟨rfl, h1, f, hp, hP _ hp, fun z => absurd z (by decide), fun _ _ => rfl⟩
set_option maxRecDepth 100000 in
theorem c_L_kindOfFault {l : Launch} {G : jG} {h : jH} {a o : Nat} {fs : List Value} {r : jO} {P : jH → Prop} {f : Nat → Int64} {t v : Int} {v0 : Int} (ha : h a = some (.inr (7, fs))) (C : jC l G yX9_kindOfFault mX9_kindOfFault [.ref a, vI v0] h (jW r P)) (hr : (t = 0 ∧ r = oI v) ∨ (t = 1 ∧ r = .inr "java/lang/IndexOutOfBoundsException")) (hP : ∀ h', P h' → h' o = some (aJ G 1 f)) : jC l G yL_kindOfFault mL_kindOfFault [.ref a, vI v0, .ref o] h (jW (oI t) (WR G o P t v)) := by
  refine j_body (by decide +kernel) ⟨rfl, rfl⟩ rfl ?_
  refine j_aload_n 2 dL_kindOfFault_0 rfl rfl ?_
  refine J_iconst dL_kindOfFault_1 ?_
  refine j_aload_n 0 dL_kindOfFault_2 rfl rfl ?_
  refine j_iload_n 1 dL_kindOfFault_3 rfl rfl ?_
  rcases hr with ⟨rfl, rfl⟩ | ⟨rfl, rfl⟩
  · refine j_callV (ck' := 0) (sk' := 0) kL_116 cvX9_kindOfFault ha C rfl rfl rfl rfl rfl dL_kindOfFault_4 (by decide) (by decide) (fun v9 h1 hp => ?_) (fun E h' hp => by cases hp.1)
    obtain ⟨e9, hp⟩ := hp
    cases e9
    refine j_i2l dL_kindOfFault_7 ?_
    refine j_last dL_kindOfFault_8 (hP _ hp) (I_vpin (by decide) (by decide)) ?_
    refine j_goto 15 dL_kindOfFault_9 (by decide) ?_
    refine J_iconst dL_kindOfFault_15 ?_
    refine j_iret rfl dL_kindOfFault_16 ?_
    exact ⟨rfl, h1, _, hp, hset_s _ _ _, fun _ => rfl, fun c hc => hset_n hc⟩
  · refine j_callV (ck' := 0) (sk' := 0) kL_116 cvX9_kindOfFault ha C rfl rfl rfl rfl rfl dL_kindOfFault_4 (by decide) (by decide) (fun v9 h1 hp => by cases hp.1) (fun E h1 hp => ?_)
    obtain ⟨e9, hp⟩ := hp
    cases e9
    refine jX_catch [] ⟨0, 9, 12, 13⟩ [] rfl (fun _ h => absurd h List.not_mem_nil) (by decide) (by decide : (13 : Nat) ≠ 0) kx13 cxIO (fun q => ?_)
    refine j_astore_n 3 (L' := [(3, _), (0, _), (1, _), (2, _)]) dL_kindOfFault_12 rfl rfl rfl ?_
    refine J_iconst dL_kindOfFault_13 ?_
    refine j_iret rfl dL_kindOfFault_14 ?_
    exact ⟨rfl, h1, f, hp, hP _ hp, fun z => absurd z (by decide), fun _ _ => rfl⟩
set_option maxRecDepth 100000 in
theorem c_L_tickOfFault {l : Launch} {G : jG} {h : jH} {a o : Nat} {fs : List Value} {r : jO} {P : jH → Prop} {f : Nat → Int64} {t v : Int} {v0 : Int} (ha : h a = some (.inr (7, fs))) (C : jC l G yX9_tickOfFault mX9_tickOfFault [.ref a, vI v0] h (jW r P)) (hr : (t = 0 ∧ r = oI v) ∨ (t = 1 ∧ r = .inr "java/lang/IndexOutOfBoundsException")) (hP : ∀ h', P h' → h' o = some (aJ G 1 f)) : jC l G yL_tickOfFault mL_tickOfFault [.ref a, vI v0, .ref o] h (jW (oI t) (WR G o P t v)) := by
  refine j_body (by decide +kernel) ⟨rfl, rfl⟩ rfl ?_
  refine j_aload_n 2 dL_tickOfFault_0 rfl rfl ?_
  refine J_iconst dL_tickOfFault_1 ?_
  refine j_aload_n 0 dL_tickOfFault_2 rfl rfl ?_
  refine j_iload_n 1 dL_tickOfFault_3 rfl rfl ?_
  rcases hr with ⟨rfl, rfl⟩ | ⟨rfl, rfl⟩
  · refine j_callV (ck' := 0) (sk' := 0) kL_119 cvX9_tickOfFault ha C rfl rfl rfl rfl rfl dL_tickOfFault_4 (by decide) (by decide) (fun v9 h1 hp => ?_) (fun E h' hp => by cases hp.1)
    obtain ⟨e9, hp⟩ := hp
    cases e9
    refine j_i2l dL_tickOfFault_7 ?_
    refine j_last dL_tickOfFault_8 (hP _ hp) (I_vpin (by decide) (by decide)) ?_
    refine j_goto 15 dL_tickOfFault_9 (by decide) ?_
    refine J_iconst dL_tickOfFault_15 ?_
    refine j_iret rfl dL_tickOfFault_16 ?_
    exact ⟨rfl, h1, _, hp, hset_s _ _ _, fun _ => rfl, fun c hc => hset_n hc⟩
  · refine j_callV (ck' := 0) (sk' := 0) kL_119 cvX9_tickOfFault ha C rfl rfl rfl rfl rfl dL_tickOfFault_4 (by decide) (by decide) (fun v9 h1 hp => by cases hp.1) (fun E h1 hp => ?_)
    obtain ⟨e9, hp⟩ := hp
    cases e9
    refine jX_catch [] ⟨0, 9, 12, 13⟩ [] rfl (fun _ h => absurd h List.not_mem_nil) (by decide) (by decide : (13 : Nat) ≠ 0) kx13 cxIO (fun q => ?_)
    refine j_astore_n 3 (L' := [(3, _), (0, _), (1, _), (2, _)]) dL_tickOfFault_12 rfl rfl rfl ?_
    refine J_iconst dL_tickOfFault_13 ?_
    refine j_iret rfl dL_tickOfFault_14 ?_
    exact ⟨rfl, h1, f, hp, hP _ hp, fun z => absurd z (by decide), fun _ _ => rfl⟩
set_option maxRecDepth 100000 in
theorem c_L_partsOfFault {l : Launch} {G : jG} {h : jH} {a o : Nat} {fs : List Value} {r : jO} {P : jH → Prop} {f : Nat → Int64} {t v : Int} {v0 : Int} (ha : h a = some (.inr (7, fs))) (C : jC l G yX9_partsOfFault mX9_partsOfFault [.ref a, vI v0] h (jW r P)) (hr : (t = 0 ∧ r = oI v) ∨ (t = 1 ∧ r = .inr "java/lang/IndexOutOfBoundsException")) (hP : ∀ h', P h' → h' o = some (aJ G 1 f)) : jC l G yL_partsOfFault mL_partsOfFault [.ref a, vI v0, .ref o] h (jW (oI t) (WR G o P t v)) := by
  refine j_body (by decide +kernel) ⟨rfl, rfl⟩ rfl ?_
  refine j_aload_n 2 dL_partsOfFault_0 rfl rfl ?_
  refine J_iconst dL_partsOfFault_1 ?_
  refine j_aload_n 0 dL_partsOfFault_2 rfl rfl ?_
  refine j_iload_n 1 dL_partsOfFault_3 rfl rfl ?_
  rcases hr with ⟨rfl, rfl⟩ | ⟨rfl, rfl⟩
  · refine j_callV (ck' := 0) (sk' := 0) kL_122 cvX9_partsOfFault ha C rfl rfl rfl rfl rfl dL_partsOfFault_4 (by decide) (by decide) (fun v9 h1 hp => ?_) (fun E h' hp => by cases hp.1)
    obtain ⟨e9, hp⟩ := hp
    cases e9
    refine j_i2l dL_partsOfFault_7 ?_
    refine j_last dL_partsOfFault_8 (hP _ hp) (I_vpin (by decide) (by decide)) ?_
    refine j_goto 15 dL_partsOfFault_9 (by decide) ?_
    refine J_iconst dL_partsOfFault_15 ?_
    refine j_iret rfl dL_partsOfFault_16 ?_
    exact ⟨rfl, h1, _, hp, hset_s _ _ _, fun _ => rfl, fun c hc => hset_n hc⟩
  · refine j_callV (ck' := 0) (sk' := 0) kL_122 cvX9_partsOfFault ha C rfl rfl rfl rfl rfl dL_partsOfFault_4 (by decide) (by decide) (fun v9 h1 hp => by cases hp.1) (fun E h1 hp => ?_)
    obtain ⟨e9, hp⟩ := hp
    cases e9
    refine jX_catch [] ⟨0, 9, 12, 13⟩ [] rfl (fun _ h => absurd h List.not_mem_nil) (by decide) (by decide : (13 : Nat) ≠ 0) kx13 cxIO (fun q => ?_)
    refine j_astore_n 3 (L' := [(3, _), (0, _), (1, _), (2, _)]) dL_partsOfFault_12 rfl rfl rfl ?_
    refine J_iconst dL_partsOfFault_13 ?_
    refine j_iret rfl dL_partsOfFault_14 ?_
    exact ⟨rfl, h1, f, hp, hP _ hp, fun z => absurd z (by decide), fun _ _ => rfl⟩
set_option maxRecDepth 100000 in
theorem c_L_faultsIfUp {l : Launch} {G : jG} {h : jH} {a o : Nat} {fs : List Value} {r : jO} {P : jH → Prop} {f : Nat → Int64} {t v : Int} {v0 v1 : Int} (ha : h a = some (.inr (7, fs))) (C : jC l G yX9_faultsIfUp mX9_faultsIfUp [.ref a, vI v0, vI v1] h (jW r P)) (hr : (t = 0 ∧ r = oI v) ∨ (t = 1 ∧ r = .inr "java/lang/IndexOutOfBoundsException") ∨ (t = 2 ∧ r = .inr "java/lang/IllegalStateException")) (hP : ∀ h', P h' → h' o = some (aJ G 1 f)) : jC l G yL_faultsIfUp mL_faultsIfUp [.ref a, vI v0, vI v1, .ref o] h (jW (oI t) (WR G o P t v)) := by
  refine j_body (by decide +kernel) ⟨rfl, rfl⟩ rfl ?_
  refine j_aload_n 3 dL_faultsIfUp_0 rfl rfl ?_
  refine J_iconst dL_faultsIfUp_1 ?_
  refine j_aload_n 0 dL_faultsIfUp_2 rfl rfl ?_
  refine j_iload_n 1 dL_faultsIfUp_3 rfl rfl ?_
  refine j_iload_n 2 dL_faultsIfUp_4 rfl rfl ?_
  rcases hr with ⟨rfl, rfl⟩ | ⟨rfl, rfl⟩ | ⟨rfl, rfl⟩
  · refine j_callV (ck' := 0) (sk' := 0) kL_125 cvX9_faultsIfUp ha C rfl rfl rfl rfl rfl dL_faultsIfUp_5 (by decide) (by decide) (fun v9 h1 hp => ?_) (fun E h' hp => by cases hp.1)
    obtain ⟨e9, hp⟩ := hp
    cases e9
    refine j_i2l dL_faultsIfUp_8 ?_
    refine j_last dL_faultsIfUp_9 (hP _ hp) (I_vpin (by decide) (by decide)) ?_
    refine j_goto 21 dL_faultsIfUp_10 (by decide) ?_
    refine J_iconst dL_faultsIfUp_21 ?_
    refine j_iret rfl dL_faultsIfUp_22 ?_
    exact ⟨rfl, h1, _, hp, hset_s _ _ _, fun _ => rfl, fun c hc => hset_n hc⟩
  · refine j_callV (ck' := 0) (sk' := 0) kL_125 cvX9_faultsIfUp ha C rfl rfl rfl rfl rfl dL_faultsIfUp_5 (by decide) (by decide) (fun v9 h1 hp => by cases hp.1) (fun E h1 hp => ?_)
    obtain ⟨e9, hp⟩ := hp
    cases e9
    refine jX_catch [] ⟨0, 10, 13, 13⟩ [⟨0, 10, 17, 17⟩] rfl (fun _ h => absurd h List.not_mem_nil) (by decide) (by decide : (13 : Nat) ≠ 0) kx13 cxIO (fun q => ?_)
    refine j_astore (L' := [(4, _), (0, _), (1, _), (2, _), (3, _)]) dL_faultsIfUp_13 rfl rfl ?_
    refine J_iconst dL_faultsIfUp_15 ?_
    refine j_iret rfl dL_faultsIfUp_16 ?_
    exact ⟨rfl, h1, f, hp, hP _ hp, fun z => absurd z (by decide), fun _ _ => rfl⟩
  · refine j_callV (ck' := 0) (sk' := 0) kL_125 cvX9_faultsIfUp ha C rfl rfl rfl rfl rfl dL_faultsIfUp_5 (by decide) (by decide) (fun v9 h1 hp => by cases hp.1) (fun E h1 hp => ?_)
    obtain ⟨e9, hp⟩ := hp
    cases e9
    refine jX_catch [⟨0, 10, 13, 13⟩] ⟨0, 10, 17, 17⟩ [] rfl (List.forall_mem_cons.mpr ⟨⟨(by decide : (13 : Nat) ≠ 0), _, kx13, by decide +kernel⟩, fun _ h => absurd h List.not_mem_nil⟩) (by decide) (by decide : (17 : Nat) ≠ 0) kx17 cxIS (fun q => ?_)
    refine j_astore (L' := [(4, _), (0, _), (1, _), (2, _), (3, _)]) dL_faultsIfUp_17 rfl rfl ?_
    refine J_iconst dL_faultsIfUp_19 ?_
    refine j_iret rfl dL_faultsIfUp_20 ?_
    exact ⟨rfl, h1, f, hp, hP _ hp, fun z => absurd z (by decide), fun _ _ => rfl⟩
set_option maxRecDepth 100000 in
theorem c_L_widthOf {l : Launch} {G : jG} {h : jH} {a o : Nat} {fs : List Value} {r : jO} {P : jH → Prop} {f : Nat → Int64} {t v : Int} {v0 : Int} (ha : h a = some (.inr (7, fs))) (C : jC l G yX9_widthOf mX9_widthOf [.ref a, vI v0] h (jW r P)) (hr : (t = 0 ∧ r = oI v) ∨ (t = 1 ∧ r = .inr "java/lang/IndexOutOfBoundsException")) (hP : ∀ h', P h' → h' o = some (aJ G 1 f)) : jC l G yL_widthOf mL_widthOf [.ref a, vI v0, .ref o] h (jW (oI t) (WR G o P t v)) := by
  refine j_body (by decide +kernel) ⟨rfl, rfl⟩ rfl ?_
  refine j_aload_n 2 dL_widthOf_0 rfl rfl ?_
  refine J_iconst dL_widthOf_1 ?_
  refine j_aload_n 0 dL_widthOf_2 rfl rfl ?_
  refine j_iload_n 1 dL_widthOf_3 rfl rfl ?_
  rcases hr with ⟨rfl, rfl⟩ | ⟨rfl, rfl⟩
  · refine j_callV (ck' := 0) (sk' := 0) kL_128 cvX9_widthOf ha C rfl rfl rfl rfl rfl dL_widthOf_4 (by decide) (by decide) (fun v9 h1 hp => ?_) (fun E h' hp => by cases hp.1)
    obtain ⟨e9, hp⟩ := hp
    cases e9
    refine j_i2l dL_widthOf_7 ?_
    refine j_last dL_widthOf_8 (hP _ hp) (I_vpin (by decide) (by decide)) ?_
    refine j_goto 15 dL_widthOf_9 (by decide) ?_
    refine J_iconst dL_widthOf_15 ?_
    refine j_iret rfl dL_widthOf_16 ?_
    exact ⟨rfl, h1, _, hp, hset_s _ _ _, fun _ => rfl, fun c hc => hset_n hc⟩
  · refine j_callV (ck' := 0) (sk' := 0) kL_128 cvX9_widthOf ha C rfl rfl rfl rfl rfl dL_widthOf_4 (by decide) (by decide) (fun v9 h1 hp => by cases hp.1) (fun E h1 hp => ?_)
    obtain ⟨e9, hp⟩ := hp
    cases e9
    refine jX_catch [] ⟨0, 9, 12, 13⟩ [] rfl (fun _ h => absurd h List.not_mem_nil) (by decide) (by decide : (13 : Nat) ≠ 0) kx13 cxIO (fun q => ?_)
    refine j_astore_n 3 (L' := [(3, _), (0, _), (1, _), (2, _)]) dL_widthOf_12 rfl rfl rfl ?_
    refine J_iconst dL_widthOf_13 ?_
    refine j_iret rfl dL_widthOf_14 ?_
    exact ⟨rfl, h1, f, hp, hP _ hp, fun z => absurd z (by decide), fun _ _ => rfl⟩
set_option maxRecDepth 100000 in
theorem c_L_lines {l : Launch} {G : jG} {h : jH} {a o : Nat} {fs : List Value} {r : jO} {P : jH → Prop} {f : Nat → Int64} {t v : Int} {v0 : Int} (ha : h a = some (.inr (7, fs))) (C : jC l G yX9_lines mX9_lines [.ref a, vI v0] h (jW r P)) (hr : (t = 0 ∧ r = oI v) ∨ (t = 1 ∧ r = .inr "java/lang/IllegalArgumentException")) (hP : ∀ h', P h' → h' o = some (aJ G 1 f)) : jC l G yL_lines mL_lines [.ref a, vI v0, .ref o] h (jW (oI t) (WR G o P t v)) := by
  refine j_body (by decide +kernel) ⟨rfl, rfl⟩ rfl ?_
  refine j_aload_n 2 dL_lines_0 rfl rfl ?_
  refine J_iconst dL_lines_1 ?_
  refine j_aload_n 0 dL_lines_2 rfl rfl ?_
  refine j_iload_n 1 dL_lines_3 rfl rfl ?_
  rcases hr with ⟨rfl, rfl⟩ | ⟨rfl, rfl⟩
  · refine j_callV (ck' := 0) (sk' := 0) kL_131 cvX9_lines ha C rfl rfl rfl rfl rfl dL_lines_4 (by decide) (by decide) (fun v9 h1 hp => ?_) (fun E h' hp => by cases hp.1)
    obtain ⟨e9, hp⟩ := hp
    cases e9
    refine j_i2l dL_lines_7 ?_
    refine j_last dL_lines_8 (hP _ hp) (I_vpin (by decide) (by decide)) ?_
    refine j_goto 15 dL_lines_9 (by decide) ?_
    refine J_iconst dL_lines_15 ?_
    refine j_iret rfl dL_lines_16 ?_
    exact ⟨rfl, h1, _, hp, hset_s _ _ _, fun _ => rfl, fun c hc => hset_n hc⟩
  · refine j_callV (ck' := 0) (sk' := 0) kL_131 cvX9_lines ha C rfl rfl rfl rfl rfl dL_lines_4 (by decide) (by decide) (fun v9 h1 hp => by cases hp.1) (fun E h1 hp => ?_)
    obtain ⟨e9, hp⟩ := hp
    cases e9
    refine jX_catch [] ⟨0, 9, 12, 15⟩ [] rfl (fun _ h => absurd h List.not_mem_nil) (by decide) (by decide : (15 : Nat) ≠ 0) kx15 cxIA (fun q => ?_)
    refine j_astore_n 3 (L' := [(3, _), (0, _), (1, _), (2, _)]) dL_lines_12 rfl rfl rfl ?_
    refine J_iconst dL_lines_13 ?_
    refine j_iret rfl dL_lines_14 ?_
    exact ⟨rfl, h1, f, hp, hP _ hp, fun z => absurd z (by decide), fun _ _ => rfl⟩
set_option maxRecDepth 100000 in
theorem c_L_lineOf {l : Launch} {G : jG} {h : jH} {a o : Nat} {fs : List Value} {r : jO} {P : jH → Prop} {f : Nat → Int64} {t v : Int} {v0 v1 : Int} (ha : h a = some (.inr (7, fs))) (C : jC l G yX9_lineOf mX9_lineOf [.ref a, vI v0, vI v1] h (jW r P)) (hr : (t = 0 ∧ r = oI v) ∨ (t = 1 ∧ r = .inr "java/lang/IndexOutOfBoundsException") ∨ (t = 2 ∧ r = .inr "java/lang/IllegalArgumentException")) (hP : ∀ h', P h' → h' o = some (aJ G 1 f)) : jC l G yL_lineOf mL_lineOf [.ref a, vI v0, vI v1, .ref o] h (jW (oI t) (WR G o P t v)) := by
  refine j_body (by decide +kernel) ⟨rfl, rfl⟩ rfl ?_
  refine j_aload_n 3 dL_lineOf_0 rfl rfl ?_
  refine J_iconst dL_lineOf_1 ?_
  refine j_aload_n 0 dL_lineOf_2 rfl rfl ?_
  refine j_iload_n 1 dL_lineOf_3 rfl rfl ?_
  refine j_iload_n 2 dL_lineOf_4 rfl rfl ?_
  rcases hr with ⟨rfl, rfl⟩ | ⟨rfl, rfl⟩ | ⟨rfl, rfl⟩
  · refine j_callV (ck' := 0) (sk' := 0) kL_134 cvX9_lineOf ha C rfl rfl rfl rfl rfl dL_lineOf_5 (by decide) (by decide) (fun v9 h1 hp => ?_) (fun E h' hp => by cases hp.1)
    obtain ⟨e9, hp⟩ := hp
    cases e9
    refine j_i2l dL_lineOf_8 ?_
    refine j_last dL_lineOf_9 (hP _ hp) (I_vpin (by decide) (by decide)) ?_
    refine j_goto 21 dL_lineOf_10 (by decide) ?_
    refine J_iconst dL_lineOf_21 ?_
    refine j_iret rfl dL_lineOf_22 ?_
    exact ⟨rfl, h1, _, hp, hset_s _ _ _, fun _ => rfl, fun c hc => hset_n hc⟩
  · refine j_callV (ck' := 0) (sk' := 0) kL_134 cvX9_lineOf ha C rfl rfl rfl rfl rfl dL_lineOf_5 (by decide) (by decide) (fun v9 h1 hp => by cases hp.1) (fun E h1 hp => ?_)
    obtain ⟨e9, hp⟩ := hp
    cases e9
    refine jX_catch [] ⟨0, 10, 13, 13⟩ [⟨0, 10, 17, 15⟩] rfl (fun _ h => absurd h List.not_mem_nil) (by decide) (by decide : (13 : Nat) ≠ 0) kx13 cxIO (fun q => ?_)
    refine j_astore (L' := [(4, _), (0, _), (1, _), (2, _), (3, _)]) dL_lineOf_13 rfl rfl ?_
    refine J_iconst dL_lineOf_15 ?_
    refine j_iret rfl dL_lineOf_16 ?_
    exact ⟨rfl, h1, f, hp, hP _ hp, fun z => absurd z (by decide), fun _ _ => rfl⟩
  · refine j_callV (ck' := 0) (sk' := 0) kL_134 cvX9_lineOf ha C rfl rfl rfl rfl rfl dL_lineOf_5 (by decide) (by decide) (fun v9 h1 hp => by cases hp.1) (fun E h1 hp => ?_)
    obtain ⟨e9, hp⟩ := hp
    cases e9
    refine jX_catch [⟨0, 10, 13, 13⟩] ⟨0, 10, 17, 15⟩ [] rfl (List.forall_mem_cons.mpr ⟨⟨(by decide : (13 : Nat) ≠ 0), _, kx13, by decide +kernel⟩, fun _ h => absurd h List.not_mem_nil⟩) (by decide) (by decide : (15 : Nat) ≠ 0) kx15 cxIA (fun q => ?_)
    refine j_astore (L' := [(4, _), (0, _), (1, _), (2, _), (3, _)]) dL_lineOf_17 rfl rfl ?_
    refine J_iconst dL_lineOf_19 ?_
    refine j_iret rfl dL_lineOf_20 ?_
    exact ⟨rfl, h1, f, hp, hP _ hp, fun z => absurd z (by decide), fun _ _ => rfl⟩
set_option maxRecDepth 100000 in
theorem c_L_costOf {l : Launch} {G : jG} {h : jH} {a o : Nat} {fs : List Value} {r : jO} {P : jH → Prop} {f : Nat → Int64} {t v : Int} {v0 : Int} (ha : h a = some (.inr (7, fs))) (C : jC l G yX9_costOf mX9_costOf [.ref a, vI v0] h (jW r P)) (hr : (t = 0 ∧ r = oI v) ∨ (t = 1 ∧ r = .inr "java/lang/IllegalArgumentException")) (hP : ∀ h', P h' → h' o = some (aJ G 1 f)) : jC l G yL_costOf mL_costOf [.ref a, vI v0, .ref o] h (jW (oI t) (WR G o P t v)) := by
  refine j_body (by decide +kernel) ⟨rfl, rfl⟩ rfl ?_
  refine j_aload_n 2 dL_costOf_0 rfl rfl ?_
  refine J_iconst dL_costOf_1 ?_
  refine j_aload_n 0 dL_costOf_2 rfl rfl ?_
  refine j_iload_n 1 dL_costOf_3 rfl rfl ?_
  rcases hr with ⟨rfl, rfl⟩ | ⟨rfl, rfl⟩
  · refine j_callV (ck' := 0) (sk' := 0) kL_137 cvX9_costOf ha C rfl rfl rfl rfl rfl dL_costOf_4 (by decide) (by decide) (fun v9 h1 hp => ?_) (fun E h' hp => by cases hp.1)
    obtain ⟨e9, hp⟩ := hp
    cases e9
    refine j_i2l dL_costOf_7 ?_
    refine j_last dL_costOf_8 (hP _ hp) (I_vpin (by decide) (by decide)) ?_
    refine j_goto 15 dL_costOf_9 (by decide) ?_
    refine J_iconst dL_costOf_15 ?_
    refine j_iret rfl dL_costOf_16 ?_
    exact ⟨rfl, h1, _, hp, hset_s _ _ _, fun _ => rfl, fun c hc => hset_n hc⟩
  · refine j_callV (ck' := 0) (sk' := 0) kL_137 cvX9_costOf ha C rfl rfl rfl rfl rfl dL_costOf_4 (by decide) (by decide) (fun v9 h1 hp => by cases hp.1) (fun E h1 hp => ?_)
    obtain ⟨e9, hp⟩ := hp
    cases e9
    refine jX_catch [] ⟨0, 9, 12, 15⟩ [] rfl (fun _ h => absurd h List.not_mem_nil) (by decide) (by decide : (15 : Nat) ≠ 0) kx15 cxIA (fun q => ?_)
    refine j_astore_n 3 (L' := [(3, _), (0, _), (1, _), (2, _)]) dL_costOf_12 rfl rfl rfl ?_
    refine J_iconst dL_costOf_13 ?_
    refine j_iret rfl dL_costOf_14 ?_
    exact ⟨rfl, h1, f, hp, hP _ hp, fun z => absurd z (by decide), fun _ _ => rfl⟩
