theorem hv_m1 {V : hv_V} {a b : Nat} {e1 e2 e3 : va_E} (h : a ≠ b) : hv_up (hv_up (hv_up V a e1) b e2) a e3 = hv_up (hv_up V a e3) b e2 := by rw [hv_uc (Ne.symm h), hv_uu]
theorem fx_addm {F : fx_F} {a : Int64} (h : F.2.2 = 1) : fx_addOn F (-1) a = fx_become (F.1 * a - F.2.1) (F.2.1 * a) := by
  unfold fx_addOn
  rw [if_neg (by rw [h]; decide), fx_sub1]
theorem i64_m1 : i64_in (-1) := by decide
set_option maxHeartbeats 4000000 in
set_option maxRecDepth 100000 in
theorem c_X7_goesUp {l : Launch} {X : hv_X} {V : hv_V} {mo : Nat} {ab be : Int64} {tx se ev bk : Nat} {pl cl sg ik : Int32} (hO : V mo = some (mE mo ab be tx pl cl sg se ev bk ik)) (h0 : ¬ ab = 0) : hv_Ml l X 0 yX7_goesUp cX7_goesUp 1 V [.ref mo] (fun x V1 => V1 = V ∧ x = (be + ab - 1) / ab) := by
  refine hv_enter (by decide) (Nat.le_of_ble_eq_true rfl) ?_
  intro p e s m below meth c ls C0 hr hlk hnm w hl
  have hl : lv_has ls 1 [(0, .ref mo)] := hl
  refine lv_aload_n C0.1 C0.2.1 dX7_goesUp_0 rfl (lv_at hl 0 rfl) ?_
  refine gf_X7_107 C0 w hO rfl dX7_goesUp_1 ?_
  refine lv_aload_n C0.1 C0.2.1 dX7_goesUp_4 rfl (lv_at hl 0 rfl) ?_
  refine gf_X7_103 C0 w hO rfl dX7_goesUp_5 ?_
  refine lv_ladd C0.1 C0.2.1 dX7_goesUp_8 ?_
  refine lv_lconst (v := 1) C0.1 C0.2.1 dX7_goesUp_9 (by decide) ?_
  refine lv_lsub C0.1 C0.2.1 dX7_goesUp_10 ?_
  refine lv_aload_n C0.1 C0.2.1 dX7_goesUp_11 rfl (lv_at hl 0 rfl) ?_
  refine gf_X7_103 C0 w hO rfl dX7_goesUp_12 ?_
  refine lv_ldiv C0.1 C0.2.1 dX7_goesUp_15 (h0) ?_
  exact hv_lret C0 w hr hlk (⟨rfl, rfl⟩) dX7_goesUp_16

set_option maxHeartbeats 4000000 in
set_option maxRecDepth 100000 in
theorem c_X7_spreads {l : Launch} {X : hv_X} {V : hv_V} {mo : Nat} {ab be : Int64} {tx se ev bk : Nat} {pl cl sg ik : Int32} (hO : V mo = some (mE mo ab be tx pl cl sg se ev bk ik)) {ki ma : Nat → Int32} {rf : Nat → Option Nat} {j : Nat} {f : Nat → Int32} (r1 : V (mo + 1) = some (iE X 6 ki)) (r2 : V (mo + 2) = some (iE X 6 ma)) (r3 : V (mo + 3) = some (qE X 6 6 rf)) (rj : rf j = some (mo + 4 + j)) (hj : j < 6) (hN : V (mo + 4 + j) = some (nE X f)) {F : fx_F} (hF : fx_lt1 F) (ea : ab = F.1) (eb : be = F.2.1) : hv_Mi l X 129 yX7_spreads cX7_spreads 10 .int V [.ref mo, .int (nI j)] (fun y V1 => ∃ ab1 be1 : Int64, V1 = hv_up (hv_up (hv_up V mo (mE mo ab1 be1 tx pl cl sg se ev bk ik)) (mo + 4 + j) (nE X (fx_unf (ki j) 16 0 f F).2.1)) (mo + 2) (iE X 6 (upd ma j (nI (fx_unf (ki j) 16 0 f F).1))) ∧ y = if fx_nought (fx_unf (ki j) 16 0 f F).2.2 then 1 else 0) := by
  refine hv_enter (by decide) (Nat.le_of_ble_eq_true rfl) ?_
  intro p e s m below meth c ls C0 hr hlk hnm w hl
  have hl : lv_has ls 10 [(0, .ref mo), (1, .int (nI j))] := hl
  have kj : (nI j).toNatClampNeg = j := nI_clamp (by omega)
  have loop : ∀ (m9 n : Nat) (f1 : Nat → Int32) (F1 : fx_F) (Hq : Heap) (lq : List Loc) (ls : Array Slot), (n + m9 = 16) → (fx_lt1 F1) → (fx_unf (ki j) m9 n f1 F1 = fx_unf (ki j) 16 0 f F) → hv_w X s (hv_up (hv_up V mo (mE mo F1.1 F1.2.1 tx pl cl sg se ev bk ik)) (mo + 4 + j) (nE X f1)) Hq lq → lv_has ls 10 [(0, .ref mo), (1, .int (nI j)), (2, .int (nI n)), (3, .int 1)] → W p l e (hv_rm 129 0 0) s m ([.ref mo, .int (nI j)] : List Value).toArray below meth c Hq lq 0 0 (MQ below (hv_Qi X (fun y V1 => ∃ ab1 be1 : Int64, V1 = hv_up (hv_up (hv_up V mo (mE mo ab1 be1 tx pl cl sg se ev bk ik)) (mo + 4 + j) (nE X (fx_unf (ki j) 16 0 f F).2.1)) (mo + 2) (iE X 6 (upd ma j (nI (fx_unf (ki j) 16 0 f F).1))) ∧ y = if fx_nought (fx_unf (ki j) 16 0 f F).2.2 then 1 else 0)) ([.ref mo, .int (nI j)] : List Value).toArray s 0 0 X.2.2.1) (F0 m 4 ls []) := by
    intro m9
    induction m9 with
    | zero =>
      intro n f1 F1 Hq lq ls hi h1 he w hl
      obtain ⟨V8, e8⟩ : ∃ W9, W9 = hv_up (hv_up V mo (mE mo F1.1 F1.2.1 tx pl cl sg se ev bk ik)) (mo + 4 + j) (nE X f1) := ⟨_, rfl⟩
      rw [← e8] at w
      have q0 : V8 mo = some (.inr (7, [.ref (mo + 1), .ref (mo + 2), .ref (mo + 3), .long F1.1, .long F1.2.1, .ref (mo + 10), .int (nI tx), .int pl, .int cl, .ref (mo + 11), .ref (mo + 12), .ref (mo + 13), .int sg, .ref (mo + 14), .ref (mo + 15), .ref (mo + 16), .ref (mo + 17), .int (nI se), .ref (mo + 18), .ref (mo + 19), .int (nI ev), .ref (mo + 20), .ref (mo + 21), .ref (mo + 22), .int (nI bk), .int ik, .ref (mo + 23), .ref (mo + 24), .ref (mo + 25), .ref (mo + 26), .ref (mo + 33), .ref (mo + 41), .ref (mo + 42), .ref (mo + 43)])) := by rw [e8, hv_un (by omega)]; exact hv_us
      have q1 : V8 (mo + 1) = some (iE X 6 ki) := by rw [e8, hv_un (by omega), hv_un (by omega)]; exact r1
      have q2 : V8 (mo + 2) = some (iE X 6 ma) := by rw [e8, hv_un (by omega), hv_un (by omega)]; exact r2
      have q3 : V8 (mo + 3) = some (qE X 6 6 rf) := by rw [e8, hv_un (by omega), hv_un (by omega)]; exact r3
      have q4 : V8 (mo + 4 + j) = some (nE X f1) := by rw [e8]; exact hv_us
      refine lv_iload_n C0.1 C0.2.1 dX7_spreads_4 rfl (lv_at hl 3 rfl) ?_
      refine lv_if_eq (tgt := 275) C0.1 C0.2.1 dX7_spreads_5 (by decide) (fun h9 => absurd h9 (by decide)) (fun _ => ?_)
      refine lv_aload_n C0.1 C0.2.1 dX7_spreads_8 rfl (lv_at hl 0 rfl) ?_
      refine gf_X7_103 C0 w q0 rfl dX7_spreads_9 ?_
      refine lv_lconst (v := 0) C0.1 C0.2.1 dX7_spreads_12 (by decide) ?_
      refine hv_lc_eq (tgt := 275) C0.1 C0.2.1 dX7_spreads_13 dX7_spreads_14 (by decide) (fun c_13 => ?_) (fun c_13 => ?_)
      · skip
        refine lv_aload_n C0.1 C0.2.1 dX7_spreads_275 rfl (lv_at hl 0 rfl) ?_
        refine gf_X7_15 C0 w q0 rfl dX7_spreads_276 ?_
        refine lv_iload_n C0.1 C0.2.1 dX7_spreads_279 rfl (lv_at hl 1 rfl) ?_
        refine lv_iload_n C0.1 C0.2.1 dX7_spreads_280 rfl (lv_at hl 2 rfl) ?_
        refine hv_iast C0 w q2 (hn_in hj (by decide)) dX7_spreads_281 (fun Hq lq w => ?_)
        have hc1 : (nI j).toNatClampNeg = j := nI_clamp (by omega)
        rw [hc1] at w
        obtain ⟨V2, eV3⟩ : ∃ W9, W9 = hv_up V8 (mo + 2) (.inl (X.2.1 0, 6, .inl (upd ma j (nI n)))) := ⟨_, rfl⟩
        have w : hv_w X s V2 Hq lq := by rw [eV3]; exact w
        have hV4 : V2 mo = some (.inr (7, [.ref (mo + 1), .ref (mo + 2), .ref (mo + 3), .long F1.1, .long F1.2.1, .ref (mo + 10), .int (nI tx), .int pl, .int cl, .ref (mo + 11), .ref (mo + 12), .ref (mo + 13), .int sg, .ref (mo + 14), .ref (mo + 15), .ref (mo + 16), .ref (mo + 17), .int (nI se), .ref (mo + 18), .ref (mo + 19), .int (nI ev), .ref (mo + 20), .ref (mo + 21), .ref (mo + 22), .int (nI bk), .int ik, .ref (mo + 23), .ref (mo + 24), .ref (mo + 25), .ref (mo + 26), .ref (mo + 33), .ref (mo + 41), .ref (mo + 42), .ref (mo + 43)])) := by rw [eV3, hv_un (by omega)]; exact q0
        have hV5 : V2 (mo + 1) = some (.inl (X.2.1 0, 6, .inl ki)) := by rw [eV3, hv_un (by omega)]; exact q1
        have hV7 : V2 (mo + 3) = some (.inl (X.2.1 6, 6, .inr (.inr (.inr (.inr rf))))) := by rw [eV3, hv_un (by omega)]; exact q3
        have hV8 : V2 (mo + 4 + j) = some (.inl (X.2.1 0, 16, .inl f1)) := by rw [eV3, hv_un (by omega)]; exact q4
        have hV9 : V2 (mo + 2) = some (.inl (X.2.1 0, 6, .inl (upd ma j (nI n)))) := by rw [eV3]; exact hv_us
        refine lv_aload_n C0.1 C0.2.1 dX7_spreads_282 rfl (lv_at hl 0 rfl) ?_
        refine gf_X7_103 C0 w hV4 rfl dX7_spreads_283 ?_
        refine lv_lconst (v := 0) C0.1 C0.2.1 dX7_spreads_286 (by decide) ?_
        refine hv_lc_ne (tgt := 295) C0.1 C0.2.1 dX7_spreads_287 dX7_spreads_288 (by decide) (fun c_287 => absurd (c_13) c_287) (fun c_287 => ?_)
        refine lv_iconst (v := 1) C0.1 C0.2.1 dX7_spreads_291 (by decide) ?_
        refine lv_goto (tgt := 296) C0.1 C0.2.1 dX7_spreads_292 (by decide) ?_
        exact hv_iret C0 w hr hlk (by rw [← he, fx_unf_np (fx_lt1.npr c_13)]; exact ⟨_, _, by rw [eV3, e8], (if_pos ⟨by rw [h1.1]; decide, c_13⟩).symm⟩) dX7_spreads_296
      · skip
        refine lv_iload_n C0.1 C0.2.1 dX7_spreads_17 rfl (lv_at hl 2 rfl) ?_
        refine lv_bipush (v := 16) C0.1 C0.2.1 dX7_spreads_18 (by decide) ?_
        refine lv_icmp_ge (tgt := 275) C0.1 C0.2.1 dX7_spreads_20 (by decide) (fun c_20 => ?_) (fun c_20 => absurd (show nI 16 ≤ nI n from nI_le (by omega) (by omega)) c_20)
        refine lv_aload_n C0.1 C0.2.1 dX7_spreads_275 rfl (lv_at hl 0 rfl) ?_
        refine gf_X7_15 C0 w q0 rfl dX7_spreads_276 ?_
        refine lv_iload_n C0.1 C0.2.1 dX7_spreads_279 rfl (lv_at hl 1 rfl) ?_
        refine lv_iload_n C0.1 C0.2.1 dX7_spreads_280 rfl (lv_at hl 2 rfl) ?_
        refine hv_iast C0 w q2 (hn_in hj (by decide)) dX7_spreads_281 (fun Hq lq w => ?_)
        have hc10 : (nI j).toNatClampNeg = j := nI_clamp (by omega)
        rw [hc10] at w
        obtain ⟨V11, eV12⟩ : ∃ W9, W9 = hv_up V8 (mo + 2) (.inl (X.2.1 0, 6, .inl (upd ma j (nI n)))) := ⟨_, rfl⟩
        have w : hv_w X s V11 Hq lq := by rw [eV12]; exact w
        have hV13 : V11 mo = some (.inr (7, [.ref (mo + 1), .ref (mo + 2), .ref (mo + 3), .long F1.1, .long F1.2.1, .ref (mo + 10), .int (nI tx), .int pl, .int cl, .ref (mo + 11), .ref (mo + 12), .ref (mo + 13), .int sg, .ref (mo + 14), .ref (mo + 15), .ref (mo + 16), .ref (mo + 17), .int (nI se), .ref (mo + 18), .ref (mo + 19), .int (nI ev), .ref (mo + 20), .ref (mo + 21), .ref (mo + 22), .int (nI bk), .int ik, .ref (mo + 23), .ref (mo + 24), .ref (mo + 25), .ref (mo + 26), .ref (mo + 33), .ref (mo + 41), .ref (mo + 42), .ref (mo + 43)])) := by rw [eV12, hv_un (by omega)]; exact q0
        have hV14 : V11 (mo + 1) = some (.inl (X.2.1 0, 6, .inl ki)) := by rw [eV12, hv_un (by omega)]; exact q1
        have hV16 : V11 (mo + 3) = some (.inl (X.2.1 6, 6, .inr (.inr (.inr (.inr rf))))) := by rw [eV12, hv_un (by omega)]; exact q3
        have hV17 : V11 (mo + 4 + j) = some (.inl (X.2.1 0, 16, .inl f1)) := by rw [eV12, hv_un (by omega)]; exact q4
        have hV18 : V11 (mo + 2) = some (.inl (X.2.1 0, 6, .inl (upd ma j (nI n)))) := by rw [eV12]; exact hv_us
        refine lv_aload_n C0.1 C0.2.1 dX7_spreads_282 rfl (lv_at hl 0 rfl) ?_
        refine gf_X7_103 C0 w hV13 rfl dX7_spreads_283 ?_
        refine lv_lconst (v := 0) C0.1 C0.2.1 dX7_spreads_286 (by decide) ?_
        refine hv_lc_ne (tgt := 295) C0.1 C0.2.1 dX7_spreads_287 dX7_spreads_288 (by decide) (fun c_287 => ?_) (fun c_287 => absurd c_287 (c_13))
        refine lv_iconst (v := 0) C0.1 C0.2.1 dX7_spreads_295 (by decide) ?_
        exact hv_iret C0 w hr hlk (by rw [← he, show fx_unf (ki j) 0 n f1 F1 = (n, f1, F1) from rfl]; exact ⟨_, _, by rw [eV12, e8], (if_neg (fun h9 => c_13 h9.2)).symm⟩) dX7_spreads_296
    | succ m9 ih =>
      intro n f1 F1 Hq lq ls hi h1 he w hl
      obtain ⟨V8, e8⟩ : ∃ W9, W9 = hv_up (hv_up V mo (mE mo F1.1 F1.2.1 tx pl cl sg se ev bk ik)) (mo + 4 + j) (nE X f1) := ⟨_, rfl⟩
      rw [← e8] at w
      have q0 : V8 mo = some (.inr (7, [.ref (mo + 1), .ref (mo + 2), .ref (mo + 3), .long F1.1, .long F1.2.1, .ref (mo + 10), .int (nI tx), .int pl, .int cl, .ref (mo + 11), .ref (mo + 12), .ref (mo + 13), .int sg, .ref (mo + 14), .ref (mo + 15), .ref (mo + 16), .ref (mo + 17), .int (nI se), .ref (mo + 18), .ref (mo + 19), .int (nI ev), .ref (mo + 20), .ref (mo + 21), .ref (mo + 22), .int (nI bk), .int ik, .ref (mo + 23), .ref (mo + 24), .ref (mo + 25), .ref (mo + 26), .ref (mo + 33), .ref (mo + 41), .ref (mo + 42), .ref (mo + 43)])) := by rw [e8, hv_un (by omega)]; exact hv_us
      have q1 : V8 (mo + 1) = some (iE X 6 ki) := by rw [e8, hv_un (by omega), hv_un (by omega)]; exact r1
      have q2 : V8 (mo + 2) = some (iE X 6 ma) := by rw [e8, hv_un (by omega), hv_un (by omega)]; exact r2
      have q3 : V8 (mo + 3) = some (qE X 6 6 rf) := by rw [e8, hv_un (by omega), hv_un (by omega)]; exact r3
      have q4 : V8 (mo + 4 + j) = some (nE X f1) := by rw [e8]; exact hv_us
      refine lv_iload_n C0.1 C0.2.1 dX7_spreads_4 rfl (lv_at hl 3 rfl) ?_
      refine lv_if_eq (tgt := 275) C0.1 C0.2.1 dX7_spreads_5 (by decide) (fun h9 => absurd h9 (by decide)) (fun _ => ?_)
      refine lv_aload_n C0.1 C0.2.1 dX7_spreads_8 rfl (lv_at hl 0 rfl) ?_
      refine gf_X7_103 C0 w q0 rfl dX7_spreads_9 ?_
      refine lv_lconst (v := 0) C0.1 C0.2.1 dX7_spreads_12 (by decide) ?_
      refine hv_lc_eq (tgt := 275) C0.1 C0.2.1 dX7_spreads_13 dX7_spreads_14 (by decide) (fun c_13 => ?_) (fun c_13 => ?_)
      · skip
        refine lv_aload_n C0.1 C0.2.1 dX7_spreads_275 rfl (lv_at hl 0 rfl) ?_
        refine gf_X7_15 C0 w q0 rfl dX7_spreads_276 ?_
        refine lv_iload_n C0.1 C0.2.1 dX7_spreads_279 rfl (lv_at hl 1 rfl) ?_
        refine lv_iload_n C0.1 C0.2.1 dX7_spreads_280 rfl (lv_at hl 2 rfl) ?_
        refine hv_iast C0 w q2 (hn_in hj (by decide)) dX7_spreads_281 (fun Hq lq w => ?_)
        have hc1 : (nI j).toNatClampNeg = j := nI_clamp (by omega)
        rw [hc1] at w
        obtain ⟨V2, eV3⟩ : ∃ W9, W9 = hv_up V8 (mo + 2) (.inl (X.2.1 0, 6, .inl (upd ma j (nI n)))) := ⟨_, rfl⟩
        have w : hv_w X s V2 Hq lq := by rw [eV3]; exact w
        have hV4 : V2 mo = some (.inr (7, [.ref (mo + 1), .ref (mo + 2), .ref (mo + 3), .long F1.1, .long F1.2.1, .ref (mo + 10), .int (nI tx), .int pl, .int cl, .ref (mo + 11), .ref (mo + 12), .ref (mo + 13), .int sg, .ref (mo + 14), .ref (mo + 15), .ref (mo + 16), .ref (mo + 17), .int (nI se), .ref (mo + 18), .ref (mo + 19), .int (nI ev), .ref (mo + 20), .ref (mo + 21), .ref (mo + 22), .int (nI bk), .int ik, .ref (mo + 23), .ref (mo + 24), .ref (mo + 25), .ref (mo + 26), .ref (mo + 33), .ref (mo + 41), .ref (mo + 42), .ref (mo + 43)])) := by rw [eV3, hv_un (by omega)]; exact q0
        have hV5 : V2 (mo + 1) = some (.inl (X.2.1 0, 6, .inl ki)) := by rw [eV3, hv_un (by omega)]; exact q1
        have hV7 : V2 (mo + 3) = some (.inl (X.2.1 6, 6, .inr (.inr (.inr (.inr rf))))) := by rw [eV3, hv_un (by omega)]; exact q3
        have hV8 : V2 (mo + 4 + j) = some (.inl (X.2.1 0, 16, .inl f1)) := by rw [eV3, hv_un (by omega)]; exact q4
        have hV9 : V2 (mo + 2) = some (.inl (X.2.1 0, 6, .inl (upd ma j (nI n)))) := by rw [eV3]; exact hv_us
        refine lv_aload_n C0.1 C0.2.1 dX7_spreads_282 rfl (lv_at hl 0 rfl) ?_
        refine gf_X7_103 C0 w hV4 rfl dX7_spreads_283 ?_
        refine lv_lconst (v := 0) C0.1 C0.2.1 dX7_spreads_286 (by decide) ?_
        refine hv_lc_ne (tgt := 295) C0.1 C0.2.1 dX7_spreads_287 dX7_spreads_288 (by decide) (fun c_287 => absurd (c_13) c_287) (fun c_287 => ?_)
        refine lv_iconst (v := 1) C0.1 C0.2.1 dX7_spreads_291 (by decide) ?_
        refine lv_goto (tgt := 296) C0.1 C0.2.1 dX7_spreads_292 (by decide) ?_
        exact hv_iret C0 w hr hlk (by rw [← he, fx_unf_np (fx_lt1.npr c_13)]; exact ⟨_, _, by rw [eV3, e8], (if_pos ⟨by rw [h1.1]; decide, c_13⟩).symm⟩) dX7_spreads_296
      · skip
        refine lv_iload_n C0.1 C0.2.1 dX7_spreads_17 rfl (lv_at hl 2 rfl) ?_
        refine lv_bipush (v := 16) C0.1 C0.2.1 dX7_spreads_18 (by decide) ?_
        refine lv_icmp_ge (tgt := 275) C0.1 C0.2.1 dX7_spreads_20 (by decide) (fun c_20 => absurd c_20 (show ¬ nI 16 ≤ nI n from nI_ge (by omega) (by omega))) (fun c_20 => ?_)
        have pr9 := h1.pr c_13
        have pos9 : 0 < F1.1 := pr9.2.1
        have low9 : 0 < F1.2.1 := Int64.lt_trans pos9 pr9.2.2
        refine lv_aload_n C0.1 C0.2.1 dX7_spreads_23 rfl (lv_at hl 0 rfl) ?_
        refine gf_X7_103 C0 w q0 rfl dX7_spreads_24 ?_
        refine lv_lstore (lv' := [(6, .long F1.1), (0, .ref mo), (1, .int (nI j)), (2, .int (nI n)), (3, .int 1)]) C0.1 C0.2.1 dX7_spreads_27 hl (by decide) rfl (fun ls hl => ?_)
        refine lv_aload_n C0.1 C0.2.1 dX7_spreads_29 rfl (lv_at hl 1 rfl) ?_
        refine gf_X7_107 C0 w q0 rfl dX7_spreads_30 ?_
        refine lv_lstore (lv' := [(8, .long F1.2.1), (6, .long F1.1), (0, .ref mo), (1, .int (nI j)), (2, .int (nI n)), (3, .int 1)]) C0.1 C0.2.1 dX7_spreads_33 hl (by decide) rfl (fun ls hl => ?_)
        refine lv_aload_n C0.1 C0.2.1 dX7_spreads_35 rfl (lv_at hl 2 rfl) ?_
        refine gf_X7_11 C0 w q0 rfl dX7_spreads_36 ?_
        refine lv_iload_n C0.1 C0.2.1 dX7_spreads_39 rfl (lv_at hl 3 rfl) ?_
        refine hv_iald C0 w q1 (hn_in hj (by decide)) dX7_spreads_40 ?_
        have hc10 : (nI j).toNatClampNeg = j := nI_clamp (by omega)
        rw [hc10]
        by_cases c_41_0 : (ki j) = 0
        · refine lv_tableIn (off := 27) (tgt := 68) C0.1 C0.2.1 dX7_spreads_41 (by rw [c_41_0]; decide) (by rw [c_41_0]; decide) (by rw [c_41_0]; rfl) (by decide) ?_
          refine lv_aload_n C0.1 C0.2.1 dX7_spreads_68 rfl (lv_at hl 2 rfl) ?_
          refine hv_cVl C0 w kl_X7_129 kv_X7_goesUp rfl q0 (c_X7_goesUp q0 c_13) (by decide) (by decide) rfl hl.1 rfl (Nat.le_of_ble_eq_true rfl) dX7_spreads_69 ⟨Nat.le_refl _, Nat.le_refl _⟩ (fun x11 V12 Hq lq hp13 w => ?_)
          obtain ⟨e9, e8x⟩ := hp13
          rw [e9] at w; rw [e8x]; clear e9 e8x
          have na9 : fx_next (ki j) n F1 = (F1.2.1 + F1.1 - 1) / F1.1 := by rw [fx_next, if_pos (Or.inl c_41_0), if_pos pos9]
          have hu9 := fx_up_ok h1 c_13
          have hp9 := fun h8 => fx_o1 h1 c_13 h8
          obtain ⟨a9, ea9⟩ : ∃ a9, a9 = (F1.2.1 + F1.1 - 1) / F1.1 := ⟨_, rfl⟩
          rw [← ea9]
          rw [← ea9] at na9 hu9 hp9
          refine lv_lstore (lv' := [(4, .long a9), (8, .long F1.2.1), (6, .long F1.1), (0, .ref mo), (1, .int (nI j)), (2, .int (nI n)), (3, .int 1)]) C0.1 C0.2.1 dX7_spreads_72 hl (by decide) rfl (fun ls hl => ?_)
          refine lv_lload C0.1 C0.2.1 dX7_spreads_74 (lv_at hl 0 rfl) ?_
          refine lv_ldc2 C0.1 C0.2.1 C0.2.2.2.1 (C0.2.2.2.2.1 _ kk_X7_110) dX7_spreads_76 ?_
          refine hv_lc_gt (tgt := 217) C0.1 C0.2.1 dX7_spreads_79 dX7_spreads_80 (by decide) (fun c_79 => ?_) (fun c_79 => ?_)
          · skip
            refine lv_lload C0.1 C0.2.1 dX7_spreads_217 (lv_at hl 0 rfl) ?_
            refine lv_ldc2 C0.1 C0.2.1 C0.2.2.2.1 (C0.2.2.2.2.1 _ kk_X7_110) dX7_spreads_219 ?_
            refine hv_lc_gt (tgt := 237) C0.1 C0.2.1 dX7_spreads_222 dX7_spreads_223 (by decide) (fun c_222 => ?_) (fun c_222 => absurd (c_79) c_222)
            refine lv_iconst (v := 0) C0.1 C0.2.1 dX7_spreads_237 (by decide) ?_
            refine lv_istore_n (lv' := [(3, .int 0), (4, .long a9), (8, .long F1.2.1), (6, .long F1.1), (0, .ref mo), (1, .int (nI j)), (2, .int (nI n))]) C0.1 C0.2.1 dX7_spreads_238 rfl hl (by decide) rfl (fun ls hl => ?_)
            refine lv_iload_n C0.1 C0.2.1 dX7_spreads_239 rfl (lv_at hl 0 rfl) ?_
            refine lv_if_eq (tgt := 260) C0.1 C0.2.1 dX7_spreads_240 (by decide) (fun _ => ?_) (fun h9 => absurd h9 (by decide))
            refine lv_aload_n C0.1 C0.2.1 dX7_spreads_260 rfl (lv_at hl 4 rfl) ?_
            refine lv_lload C0.1 C0.2.1 dX7_spreads_261 (lv_at hl 3 rfl) ?_
            refine pf_X7_103 C0 w q0 (by simp) dX7_spreads_263 (fun Hq lq w => ?_)
            obtain ⟨V14, eV15⟩ : ∃ W9, W9 = hv_up V8 mo (.inr (7, [.ref (mo + 1), .ref (mo + 2), .ref (mo + 3), .long F1.1, .long F1.2.1, .ref (mo + 10), .int (nI tx), .int pl, .int cl, .ref (mo + 11), .ref (mo + 12), .ref (mo + 13), .int sg, .ref (mo + 14), .ref (mo + 15), .ref (mo + 16), .ref (mo + 17), .int (nI se), .ref (mo + 18), .ref (mo + 19), .int (nI ev), .ref (mo + 20), .ref (mo + 21), .ref (mo + 22), .int (nI bk), .int ik, .ref (mo + 23), .ref (mo + 24), .ref (mo + 25), .ref (mo + 26), .ref (mo + 33), .ref (mo + 41), .ref (mo + 42), .ref (mo + 43)])) := ⟨_, rfl⟩
            have w : hv_w X s V14 Hq lq := by rw [eV15]; exact w
            have hV17 : V14 (mo + 1) = some (.inl (X.2.1 0, 6, .inl ki)) := by rw [eV15, hv_un (by omega)]; exact q1
            have hV18 : V14 (mo + 2) = some (.inl (X.2.1 0, 6, .inl ma)) := by rw [eV15, hv_un (by omega)]; exact q2
            have hV19 : V14 (mo + 3) = some (.inl (X.2.1 6, 6, .inr (.inr (.inr (.inr rf))))) := by rw [eV15, hv_un (by omega)]; exact q3
            have hV20 : V14 (mo + 4 + j) = some (.inl (X.2.1 0, 16, .inl f1)) := by rw [eV15, hv_un (by omega)]; exact q4
            have hV21 : V14 mo = some (.inr (7, [.ref (mo + 1), .ref (mo + 2), .ref (mo + 3), .long F1.1, .long F1.2.1, .ref (mo + 10), .int (nI tx), .int pl, .int cl, .ref (mo + 11), .ref (mo + 12), .ref (mo + 13), .int sg, .ref (mo + 14), .ref (mo + 15), .ref (mo + 16), .ref (mo + 17), .int (nI se), .ref (mo + 18), .ref (mo + 19), .int (nI ev), .ref (mo + 20), .ref (mo + 21), .ref (mo + 22), .int (nI bk), .int ik, .ref (mo + 23), .ref (mo + 24), .ref (mo + 25), .ref (mo + 26), .ref (mo + 33), .ref (mo + 41), .ref (mo + 42), .ref (mo + 43)])) := by rw [eV15]; exact hv_us
            refine lv_aload_n C0.1 C0.2.1 dX7_spreads_266 rfl (lv_at hl 4 rfl) ?_
            refine lv_lload C0.1 C0.2.1 dX7_spreads_267 (lv_at hl 2 rfl) ?_
            refine pf_X7_107 C0 w hV21 (by simp) dX7_spreads_269 (fun Hq lq w => ?_)
            obtain ⟨V22, eV23⟩ : ∃ W9, W9 = hv_up V14 mo (.inr (7, [.ref (mo + 1), .ref (mo + 2), .ref (mo + 3), .long F1.1, .long F1.2.1, .ref (mo + 10), .int (nI tx), .int pl, .int cl, .ref (mo + 11), .ref (mo + 12), .ref (mo + 13), .int sg, .ref (mo + 14), .ref (mo + 15), .ref (mo + 16), .ref (mo + 17), .int (nI se), .ref (mo + 18), .ref (mo + 19), .int (nI ev), .ref (mo + 20), .ref (mo + 21), .ref (mo + 22), .int (nI bk), .int ik, .ref (mo + 23), .ref (mo + 24), .ref (mo + 25), .ref (mo + 26), .ref (mo + 33), .ref (mo + 41), .ref (mo + 42), .ref (mo + 43)])) := ⟨_, rfl⟩
            have w : hv_w X s V22 Hq lq := by rw [eV23]; exact w
            have hV24 : V22 (mo + 1) = some (.inl (X.2.1 0, 6, .inl ki)) := by rw [eV23, hv_un (by omega)]; exact hV17
            have hV25 : V22 (mo + 2) = some (.inl (X.2.1 0, 6, .inl ma)) := by rw [eV23, hv_un (by omega)]; exact hV18
            have hV26 : V22 (mo + 3) = some (.inl (X.2.1 6, 6, .inr (.inr (.inr (.inr rf))))) := by rw [eV23, hv_un (by omega)]; exact hV19
            have hV27 : V22 (mo + 4 + j) = some (.inl (X.2.1 0, 16, .inl f1)) := by rw [eV23, hv_un (by omega)]; exact hV20
            have hV29 : V22 mo = some (.inr (7, [.ref (mo + 1), .ref (mo + 2), .ref (mo + 3), .long F1.1, .long F1.2.1, .ref (mo + 10), .int (nI tx), .int pl, .int cl, .ref (mo + 11), .ref (mo + 12), .ref (mo + 13), .int sg, .ref (mo + 14), .ref (mo + 15), .ref (mo + 16), .ref (mo + 17), .int (nI se), .ref (mo + 18), .ref (mo + 19), .int (nI ev), .ref (mo + 20), .ref (mo + 21), .ref (mo + 22), .int (nI bk), .int ik, .ref (mo + 23), .ref (mo + 24), .ref (mo + 25), .ref (mo + 26), .ref (mo + 33), .ref (mo + 41), .ref (mo + 42), .ref (mo + 43)])) := by rw [eV23]; exact hv_us
            refine lv_goto (tgt := 4) C0.1 C0.2.1 dX7_spreads_272 (by decide) ?_
            refine lv_iload_n C0.1 C0.2.1 dX7_spreads_4 rfl (lv_at hl 0 rfl) ?_
            refine lv_if_eq (tgt := 275) C0.1 C0.2.1 dX7_spreads_5 (by decide) (fun _ => ?_) (fun h9 => absurd h9 (by decide))
            refine lv_aload_n C0.1 C0.2.1 dX7_spreads_275 rfl (lv_at hl 4 rfl) ?_
            refine gf_X7_15 C0 w hV29 rfl dX7_spreads_276 ?_
            refine lv_iload_n C0.1 C0.2.1 dX7_spreads_279 rfl (lv_at hl 5 rfl) ?_
            refine lv_iload_n C0.1 C0.2.1 dX7_spreads_280 rfl (lv_at hl 6 rfl) ?_
            refine hv_iast C0 w hV25 (hn_in hj (by decide)) dX7_spreads_281 (fun Hq lq w => ?_)
            have hc30 : (nI j).toNatClampNeg = j := nI_clamp (by omega)
            rw [hc30] at w
            obtain ⟨V31, eV32⟩ : ∃ W9, W9 = hv_up V22 (mo + 2) (.inl (X.2.1 0, 6, .inl (upd ma j (nI n)))) := ⟨_, rfl⟩
            have w : hv_w X s V31 Hq lq := by rw [eV32]; exact w
            have hV33 : V31 (mo + 1) = some (.inl (X.2.1 0, 6, .inl ki)) := by rw [eV32, hv_un (by omega)]; exact hV24
            have hV35 : V31 (mo + 3) = some (.inl (X.2.1 6, 6, .inr (.inr (.inr (.inr rf))))) := by rw [eV32, hv_un (by omega)]; exact hV26
            have hV36 : V31 (mo + 4 + j) = some (.inl (X.2.1 0, 16, .inl f1)) := by rw [eV32, hv_un (by omega)]; exact hV27
            have hV37 : V31 mo = some (.inr (7, [.ref (mo + 1), .ref (mo + 2), .ref (mo + 3), .long F1.1, .long F1.2.1, .ref (mo + 10), .int (nI tx), .int pl, .int cl, .ref (mo + 11), .ref (mo + 12), .ref (mo + 13), .int sg, .ref (mo + 14), .ref (mo + 15), .ref (mo + 16), .ref (mo + 17), .int (nI se), .ref (mo + 18), .ref (mo + 19), .int (nI ev), .ref (mo + 20), .ref (mo + 21), .ref (mo + 22), .int (nI bk), .int ik, .ref (mo + 23), .ref (mo + 24), .ref (mo + 25), .ref (mo + 26), .ref (mo + 33), .ref (mo + 41), .ref (mo + 42), .ref (mo + 43)])) := by rw [eV32, hv_un (by omega)]; exact hV29
            have hV38 : V31 (mo + 2) = some (.inl (X.2.1 0, 6, .inl (upd ma j (nI n)))) := by rw [eV32]; exact hv_us
            refine lv_aload_n C0.1 C0.2.1 dX7_spreads_282 rfl (lv_at hl 4 rfl) ?_
            refine gf_X7_103 C0 w hV37 rfl dX7_spreads_283 ?_
            refine lv_lconst (v := 0) C0.1 C0.2.1 dX7_spreads_286 (by decide) ?_
            refine hv_lc_ne (tgt := 295) C0.1 C0.2.1 dX7_spreads_287 dX7_spreads_288 (by decide) (fun c_287 => ?_) (fun c_287 => absurd c_287 (c_13))
            refine lv_iconst (v := 0) C0.1 C0.2.1 dX7_spreads_295 (by decide) ?_
            exact hv_iret C0 w hr hlk (by rw [← he, fx_unf_w pr9 (by rw [na9]; exact c_79)]; exact ⟨_, _, by rw [eV32, eV23, eV15, e8, hv_uu, hv_m1 (a := mo) (b := mo + 4 + j) (by omega)], (if_neg (fun h9 => c_13 h9.2)).symm⟩) dX7_spreads_296
          · skip
            have ho9 := hp9 c_79
            refine lv_aload_n C0.1 C0.2.1 dX7_spreads_83 rfl (lv_at hl 3 rfl) ?_
            refine lv_ldc2 C0.1 C0.2.1 C0.2.2.2.1 (C0.2.2.2.2.1 _ kk_X7_133) dX7_spreads_84 ?_
            refine lv_lload C0.1 C0.2.1 dX7_spreads_87 (lv_at hl 0 rfl) ?_
            refine hv_cVv C0 w kl_X7_120 kv_X7_plus rfl q0 (c_X7_plus q0 h1.fm (a := -1) (b := a9) i64_m1 ⟨by have h9 := hu9.1; omega, i64_Mle c_79⟩) (by decide) (by decide) rfl hl.1 rfl (Nat.le_of_ble_eq_true rfl) dX7_spreads_89 ⟨Nat.le_refl _, Nat.le_refl _⟩ (fun V40 Hq lq hp41 w => ?_)
            obtain ⟨ab42, be43, eV44, fm9⟩ := hp41
            have hV46 : V40 (mo + 1) = some (.inl (X.2.1 0, 6, .inl ki)) := by rw [eV44, hv_un (by omega)]; exact q1
            have hV47 : V40 (mo + 2) = some (.inl (X.2.1 0, 6, .inl ma)) := by rw [eV44, hv_un (by omega)]; exact q2
            have hV48 : V40 (mo + 3) = some (.inl (X.2.1 6, 6, .inr (.inr (.inr (.inr rf))))) := by rw [eV44, hv_un (by omega)]; exact q3
            have hV49 : V40 (mo + 4 + j) = some (.inl (X.2.1 0, 16, .inl f1)) := by rw [eV44, hv_un (by omega)]; exact q4
            have hV50 : V40 mo = some (.inr (7, [.ref (mo + 1), .ref (mo + 2), .ref (mo + 3), .long ab42, .long be43, .ref (mo + 10), .int (nI tx), .int pl, .int cl, .ref (mo + 11), .ref (mo + 12), .ref (mo + 13), .int sg, .ref (mo + 14), .ref (mo + 15), .ref (mo + 16), .ref (mo + 17), .int (nI se), .ref (mo + 18), .ref (mo + 19), .int (nI ev), .ref (mo + 20), .ref (mo + 21), .ref (mo + 22), .int (nI bk), .int ik, .ref (mo + 23), .ref (mo + 24), .ref (mo + 25), .ref (mo + 26), .ref (mo + 33), .ref (mo + 41), .ref (mo + 42), .ref (mo + 43)])) := by rw [eV44]; exact hv_us
            rw [fx_addm h1.1] at fm9
            have eo9 : fx_out (ki j) n a9 F1 = fx_become (F1.1 * a9 - F1.2.1) (F1.2.1 * a9) := by rw [fx_out, if_pos c_41_0]
            have hl9 : ¬ be43 = 0 → fx_lt1 (fx_out (ki j) n a9 F1) ∧ ab42 = (fx_out (ki j) n a9 F1).1 ∧ be43 = (fx_out (ki j) n a9 F1).2.1 := fun h9 => by rw [eo9]; exact fx_lt1_of ho9.1 (Int.lt_of_lt_of_le ho9.2.1 ho9.2.2) fm9 h9
            rw [← eo9] at fm9
            refine lv_goto (tgt := 217) C0.1 C0.2.1 dX7_spreads_92 (by decide) ?_
            refine lv_lload C0.1 C0.2.1 dX7_spreads_217 (lv_at hl 0 rfl) ?_
            refine lv_ldc2 C0.1 C0.2.1 C0.2.2.2.1 (C0.2.2.2.2.1 _ kk_X7_110) dX7_spreads_219 ?_
            refine hv_lc_gt (tgt := 237) C0.1 C0.2.1 dX7_spreads_222 dX7_spreads_223 (by decide) (fun c_222 => absurd c_222 (c_79)) (fun c_222 => ?_)
            refine lv_aload_n C0.1 C0.2.1 dX7_spreads_226 rfl (lv_at hl 3 rfl) ?_
            refine hv_cVi C0 w kl_X7_112 kv_X7_isThere rfl hV50 (c_X7_isThere hV50) (by decide) (by decide) rfl hl.1 rfl (Nat.le_of_ble_eq_true rfl) dX7_spreads_227 ⟨Nat.le_refl _, Nat.le_refl _⟩ (fun x51 V52 Hq lq hp53 w => ?_)
            obtain ⟨e9, hz9⟩ := hp53
            rw [e9] at w; clear e9
            rcases hz9 with ⟨rfl, hi54⟩ | ⟨rfl, hi54⟩
            · skip
              refine lv_if_eq (tgt := 237) C0.1 C0.2.1 dX7_spreads_230 (by decide) (fun h9 => absurd h9 (by decide)) (fun _ => ?_)
              refine lv_iconst (v := 1) C0.1 C0.2.1 dX7_spreads_233 (by decide) ?_
              refine lv_goto (tgt := 238) C0.1 C0.2.1 dX7_spreads_234 (by decide) ?_
              refine lv_istore_n (lv' := [(3, .int 1), (4, .long a9), (8, .long F1.2.1), (6, .long F1.1), (0, .ref mo), (1, .int (nI j)), (2, .int (nI n))]) C0.1 C0.2.1 dX7_spreads_238 rfl hl (by decide) rfl (fun ls hl => ?_)
              refine lv_iload_n C0.1 C0.2.1 dX7_spreads_239 rfl (lv_at hl 0 rfl) ?_
              refine lv_if_eq (tgt := 260) C0.1 C0.2.1 dX7_spreads_240 (by decide) (fun h9 => absurd h9 (by decide)) (fun _ => ?_)
              refine lv_aload_n C0.1 C0.2.1 dX7_spreads_243 rfl (lv_at hl 4 rfl) ?_
              refine gf_X7_20 C0 w hV50 rfl dX7_spreads_244 ?_
              refine lv_iload_n C0.1 C0.2.1 dX7_spreads_247 rfl (lv_at hl 5 rfl) ?_
              refine hv_aalA 6 rfl C0 w rfl hV48 (hn_in hj (by decide)) (by rw [kj]; exact rj) dX7_spreads_248 ?_
              refine lv_iload_n C0.1 C0.2.1 dX7_spreads_249 rfl (lv_at hl 6 rfl) ?_
              refine lv_lload C0.1 C0.2.1 dX7_spreads_250 (lv_at hl 1 rfl) ?_
              refine lv_l2i (v := a9.toInt32) C0.1 C0.2.1 dX7_spreads_252 rfl ?_
              refine hv_iast C0 w hV49 (hn_in (by omega) (by decide)) dX7_spreads_253 (fun Hq lq w => ?_)
              have hc55 : (nI n).toNatClampNeg = n := nI_clamp (by omega)
              rw [hc55] at w
              obtain ⟨V56, eV57⟩ : ∃ W9, W9 = hv_up V40 (mo + 4 + j) (.inl (X.2.1 0, 16, .inl (upd f1 n (a9.toInt32)))) := ⟨_, rfl⟩
              have w : hv_w X s V56 Hq lq := by rw [eV57]; exact w
              have hV58 : V56 (mo + 1) = some (.inl (X.2.1 0, 6, .inl ki)) := by rw [eV57, hv_un (by omega)]; exact hV46
              have hV59 : V56 (mo + 2) = some (.inl (X.2.1 0, 6, .inl ma)) := by rw [eV57, hv_un (by omega)]; exact hV47
              have hV60 : V56 (mo + 3) = some (.inl (X.2.1 6, 6, .inr (.inr (.inr (.inr rf))))) := by rw [eV57, hv_un (by omega)]; exact hV48
              have hV62 : V56 mo = some (.inr (7, [.ref (mo + 1), .ref (mo + 2), .ref (mo + 3), .long ab42, .long be43, .ref (mo + 10), .int (nI tx), .int pl, .int cl, .ref (mo + 11), .ref (mo + 12), .ref (mo + 13), .int sg, .ref (mo + 14), .ref (mo + 15), .ref (mo + 16), .ref (mo + 17), .int (nI se), .ref (mo + 18), .ref (mo + 19), .int (nI ev), .ref (mo + 20), .ref (mo + 21), .ref (mo + 22), .int (nI bk), .int ik, .ref (mo + 23), .ref (mo + 24), .ref (mo + 25), .ref (mo + 26), .ref (mo + 33), .ref (mo + 41), .ref (mo + 42), .ref (mo + 43)])) := by rw [eV57, hv_un (by omega)]; exact hV50
              have hV63 : V56 (mo + 4 + j) = some (.inl (X.2.1 0, 16, .inl (upd f1 n (a9.toInt32)))) := by rw [eV57]; exact hv_us
              refine lv_iinc (v := (nI n) + 1) (lv' := [(2, .int ((nI n) + 1)), (3, .int 1), (4, .long a9), (8, .long F1.2.1), (6, .long F1.1), (0, .ref mo), (1, .int (nI j))]) C0.1 C0.2.1 dX7_spreads_254 hl (k := 6) rfl rfl (by decide) rfl (fun ls hl => ?_)
              refine lv_goto (tgt := 272) C0.1 C0.2.1 dX7_spreads_257 (by decide) ?_
              refine lv_goto (tgt := 4) C0.1 C0.2.1 dX7_spreads_272 (by decide) ?_
              exact ih (n + 1) (upd f1 n a9.toInt32) (fx_out (ki j) n a9 F1) _ _ ls (by omega) (hl9 hi54).1 (by rw [← he, fx_unf_s pr9 (by rw [na9]; exact c_79) (by rw [na9]; exact fun h9 => hi54 (fm9.no.mpr h9)), na9]) (by rw [eV57, eV44, e8, hv_m1 (a := mo) (b := mo + 4 + j) (by omega), hv_uu, (hl9 hi54).2.1, (hl9 hi54).2.2] at w; exact w) (by have h9 := (lv_sub (l' := [(0, .ref mo), (1, .int (nI j)), (2, .int (nI n + 1)), (3, .int 1)]) hl [5, 6, 0, 1] rfl); rw [nI_1] at h9; exact h9)
            · skip
              have hi54 := Classical.byContradiction hi54
              refine lv_if_eq (tgt := 237) C0.1 C0.2.1 dX7_spreads_230 (by decide) (fun _ => ?_) (fun h9 => absurd h9 (by decide))
              refine lv_iconst (v := 0) C0.1 C0.2.1 dX7_spreads_237 (by decide) ?_
              refine lv_istore_n (lv' := [(3, .int 0), (4, .long a9), (8, .long F1.2.1), (6, .long F1.1), (0, .ref mo), (1, .int (nI j)), (2, .int (nI n))]) C0.1 C0.2.1 dX7_spreads_238 rfl hl (by decide) rfl (fun ls hl => ?_)
              refine lv_iload_n C0.1 C0.2.1 dX7_spreads_239 rfl (lv_at hl 0 rfl) ?_
              refine lv_if_eq (tgt := 260) C0.1 C0.2.1 dX7_spreads_240 (by decide) (fun _ => ?_) (fun h9 => absurd h9 (by decide))
              refine lv_aload_n C0.1 C0.2.1 dX7_spreads_260 rfl (lv_at hl 4 rfl) ?_
              refine lv_lload C0.1 C0.2.1 dX7_spreads_261 (lv_at hl 3 rfl) ?_
              refine pf_X7_103 C0 w hV50 (by simp) dX7_spreads_263 (fun Hq lq w => ?_)
              obtain ⟨V64, eV65⟩ : ∃ W9, W9 = hv_up V40 mo (.inr (7, [.ref (mo + 1), .ref (mo + 2), .ref (mo + 3), .long F1.1, .long be43, .ref (mo + 10), .int (nI tx), .int pl, .int cl, .ref (mo + 11), .ref (mo + 12), .ref (mo + 13), .int sg, .ref (mo + 14), .ref (mo + 15), .ref (mo + 16), .ref (mo + 17), .int (nI se), .ref (mo + 18), .ref (mo + 19), .int (nI ev), .ref (mo + 20), .ref (mo + 21), .ref (mo + 22), .int (nI bk), .int ik, .ref (mo + 23), .ref (mo + 24), .ref (mo + 25), .ref (mo + 26), .ref (mo + 33), .ref (mo + 41), .ref (mo + 42), .ref (mo + 43)])) := ⟨_, rfl⟩
              have w : hv_w X s V64 Hq lq := by rw [eV65]; exact w
              have hV66 : V64 (mo + 1) = some (.inl (X.2.1 0, 6, .inl ki)) := by rw [eV65, hv_un (by omega)]; exact hV46
              have hV67 : V64 (mo + 2) = some (.inl (X.2.1 0, 6, .inl ma)) := by rw [eV65, hv_un (by omega)]; exact hV47
              have hV68 : V64 (mo + 3) = some (.inl (X.2.1 6, 6, .inr (.inr (.inr (.inr rf))))) := by rw [eV65, hv_un (by omega)]; exact hV48
              have hV69 : V64 (mo + 4 + j) = some (.inl (X.2.1 0, 16, .inl f1)) := by rw [eV65, hv_un (by omega)]; exact hV49
              have hV71 : V64 mo = some (.inr (7, [.ref (mo + 1), .ref (mo + 2), .ref (mo + 3), .long F1.1, .long be43, .ref (mo + 10), .int (nI tx), .int pl, .int cl, .ref (mo + 11), .ref (mo + 12), .ref (mo + 13), .int sg, .ref (mo + 14), .ref (mo + 15), .ref (mo + 16), .ref (mo + 17), .int (nI se), .ref (mo + 18), .ref (mo + 19), .int (nI ev), .ref (mo + 20), .ref (mo + 21), .ref (mo + 22), .int (nI bk), .int ik, .ref (mo + 23), .ref (mo + 24), .ref (mo + 25), .ref (mo + 26), .ref (mo + 33), .ref (mo + 41), .ref (mo + 42), .ref (mo + 43)])) := by rw [eV65]; exact hv_us
              refine lv_aload_n C0.1 C0.2.1 dX7_spreads_266 rfl (lv_at hl 4 rfl) ?_
              refine lv_lload C0.1 C0.2.1 dX7_spreads_267 (lv_at hl 2 rfl) ?_
              refine pf_X7_107 C0 w hV71 (by simp) dX7_spreads_269 (fun Hq lq w => ?_)
              obtain ⟨V72, eV73⟩ : ∃ W9, W9 = hv_up V64 mo (.inr (7, [.ref (mo + 1), .ref (mo + 2), .ref (mo + 3), .long F1.1, .long F1.2.1, .ref (mo + 10), .int (nI tx), .int pl, .int cl, .ref (mo + 11), .ref (mo + 12), .ref (mo + 13), .int sg, .ref (mo + 14), .ref (mo + 15), .ref (mo + 16), .ref (mo + 17), .int (nI se), .ref (mo + 18), .ref (mo + 19), .int (nI ev), .ref (mo + 20), .ref (mo + 21), .ref (mo + 22), .int (nI bk), .int ik, .ref (mo + 23), .ref (mo + 24), .ref (mo + 25), .ref (mo + 26), .ref (mo + 33), .ref (mo + 41), .ref (mo + 42), .ref (mo + 43)])) := ⟨_, rfl⟩
              have w : hv_w X s V72 Hq lq := by rw [eV73]; exact w
              have hV74 : V72 (mo + 1) = some (.inl (X.2.1 0, 6, .inl ki)) := by rw [eV73, hv_un (by omega)]; exact hV66
              have hV75 : V72 (mo + 2) = some (.inl (X.2.1 0, 6, .inl ma)) := by rw [eV73, hv_un (by omega)]; exact hV67
              have hV76 : V72 (mo + 3) = some (.inl (X.2.1 6, 6, .inr (.inr (.inr (.inr rf))))) := by rw [eV73, hv_un (by omega)]; exact hV68
              have hV77 : V72 (mo + 4 + j) = some (.inl (X.2.1 0, 16, .inl f1)) := by rw [eV73, hv_un (by omega)]; exact hV69
              have hV79 : V72 mo = some (.inr (7, [.ref (mo + 1), .ref (mo + 2), .ref (mo + 3), .long F1.1, .long F1.2.1, .ref (mo + 10), .int (nI tx), .int pl, .int cl, .ref (mo + 11), .ref (mo + 12), .ref (mo + 13), .int sg, .ref (mo + 14), .ref (mo + 15), .ref (mo + 16), .ref (mo + 17), .int (nI se), .ref (mo + 18), .ref (mo + 19), .int (nI ev), .ref (mo + 20), .ref (mo + 21), .ref (mo + 22), .int (nI bk), .int ik, .ref (mo + 23), .ref (mo + 24), .ref (mo + 25), .ref (mo + 26), .ref (mo + 33), .ref (mo + 41), .ref (mo + 42), .ref (mo + 43)])) := by rw [eV73]; exact hv_us
              refine lv_goto (tgt := 4) C0.1 C0.2.1 dX7_spreads_272 (by decide) ?_
              refine lv_iload_n C0.1 C0.2.1 dX7_spreads_4 rfl (lv_at hl 0 rfl) ?_
              refine lv_if_eq (tgt := 275) C0.1 C0.2.1 dX7_spreads_5 (by decide) (fun _ => ?_) (fun h9 => absurd h9 (by decide))
              refine lv_aload_n C0.1 C0.2.1 dX7_spreads_275 rfl (lv_at hl 4 rfl) ?_
              refine gf_X7_15 C0 w hV79 rfl dX7_spreads_276 ?_
              refine lv_iload_n C0.1 C0.2.1 dX7_spreads_279 rfl (lv_at hl 5 rfl) ?_
              refine lv_iload_n C0.1 C0.2.1 dX7_spreads_280 rfl (lv_at hl 6 rfl) ?_
              refine hv_iast C0 w hV75 (hn_in hj (by decide)) dX7_spreads_281 (fun Hq lq w => ?_)
              have hc80 : (nI j).toNatClampNeg = j := nI_clamp (by omega)
              rw [hc80] at w
              obtain ⟨V81, eV82⟩ : ∃ W9, W9 = hv_up V72 (mo + 2) (.inl (X.2.1 0, 6, .inl (upd ma j (nI n)))) := ⟨_, rfl⟩
              have w : hv_w X s V81 Hq lq := by rw [eV82]; exact w
              have hV83 : V81 (mo + 1) = some (.inl (X.2.1 0, 6, .inl ki)) := by rw [eV82, hv_un (by omega)]; exact hV74
              have hV85 : V81 (mo + 3) = some (.inl (X.2.1 6, 6, .inr (.inr (.inr (.inr rf))))) := by rw [eV82, hv_un (by omega)]; exact hV76
              have hV86 : V81 (mo + 4 + j) = some (.inl (X.2.1 0, 16, .inl f1)) := by rw [eV82, hv_un (by omega)]; exact hV77
              have hV87 : V81 mo = some (.inr (7, [.ref (mo + 1), .ref (mo + 2), .ref (mo + 3), .long F1.1, .long F1.2.1, .ref (mo + 10), .int (nI tx), .int pl, .int cl, .ref (mo + 11), .ref (mo + 12), .ref (mo + 13), .int sg, .ref (mo + 14), .ref (mo + 15), .ref (mo + 16), .ref (mo + 17), .int (nI se), .ref (mo + 18), .ref (mo + 19), .int (nI ev), .ref (mo + 20), .ref (mo + 21), .ref (mo + 22), .int (nI bk), .int ik, .ref (mo + 23), .ref (mo + 24), .ref (mo + 25), .ref (mo + 26), .ref (mo + 33), .ref (mo + 41), .ref (mo + 42), .ref (mo + 43)])) := by rw [eV82, hv_un (by omega)]; exact hV79
              have hV88 : V81 (mo + 2) = some (.inl (X.2.1 0, 6, .inl (upd ma j (nI n)))) := by rw [eV82]; exact hv_us
              refine lv_aload_n C0.1 C0.2.1 dX7_spreads_282 rfl (lv_at hl 4 rfl) ?_
              refine gf_X7_103 C0 w hV87 rfl dX7_spreads_283 ?_
              refine lv_lconst (v := 0) C0.1 C0.2.1 dX7_spreads_286 (by decide) ?_
              refine hv_lc_ne (tgt := 295) C0.1 C0.2.1 dX7_spreads_287 dX7_spreads_288 (by decide) (fun c_287 => ?_) (fun c_287 => absurd c_287 (c_13))
              refine lv_iconst (v := 0) C0.1 C0.2.1 dX7_spreads_295 (by decide) ?_
              exact hv_iret C0 w hr hlk (by rw [← he, fx_unf_n pr9 (by rw [na9]; exact c_79) (by rw [na9]; exact fm9.no.mp hi54)]; exact ⟨_, _, by rw [eV82, eV73, eV65, eV44, e8, hv_uu, hv_uu, hv_m1 (a := mo) (b := mo + 4 + j) (by omega)], (if_neg (fun h9 => h9.1 (by rw [na9]; exact fm9.no.mp hi54))).symm⟩) dX7_spreads_296
        by_cases c_41_1 : (ki j) = 1
        · refine lv_tableIn (off := 54) (tgt := 95) C0.1 C0.2.1 dX7_spreads_41 (by rw [c_41_1]; decide) (by rw [c_41_1]; decide) (by rw [c_41_1]; rfl) (by decide) ?_
          refine lv_aload_n C0.1 C0.2.1 dX7_spreads_95 rfl (lv_at hl 2 rfl) ?_
          refine hv_cVl C0 w kl_X7_129 kv_X7_goesUp rfl q0 (c_X7_goesUp q0 c_13) (by decide) (by decide) rfl hl.1 rfl (Nat.le_of_ble_eq_true rfl) dX7_spreads_96 ⟨Nat.le_refl _, Nat.le_refl _⟩ (fun x89 V90 Hq lq hp91 w => ?_)
          obtain ⟨e9, e8x⟩ := hp91
          rw [e9] at w; rw [e8x]; clear e9 e8x
          have na9 : fx_next (ki j) n F1 = (F1.2.1 + F1.1 - 1) / F1.1 := by rw [fx_next, if_pos (Or.inr c_41_1), if_pos pos9]
          have hu9 := fx_up_ok h1 c_13
          have hp9 := fun h8 => fx_o1 h1 c_13 h8
          obtain ⟨a9, ea9⟩ : ∃ a9, a9 = (F1.2.1 + F1.1 - 1) / F1.1 := ⟨_, rfl⟩
          rw [← ea9]
          rw [← ea9] at na9 hu9 hp9
          refine lv_lstore (lv' := [(4, .long a9), (8, .long F1.2.1), (6, .long F1.1), (0, .ref mo), (1, .int (nI j)), (2, .int (nI n)), (3, .int 1)]) C0.1 C0.2.1 dX7_spreads_99 hl (by decide) rfl (fun ls hl => ?_)
          refine lv_lload C0.1 C0.2.1 dX7_spreads_101 (lv_at hl 0 rfl) ?_
          refine lv_ldc2 C0.1 C0.2.1 C0.2.2.2.1 (C0.2.2.2.2.1 _ kk_X7_110) dX7_spreads_103 ?_
          refine hv_lc_gt (tgt := 217) C0.1 C0.2.1 dX7_spreads_106 dX7_spreads_107 (by decide) (fun c_106 => ?_) (fun c_106 => ?_)
          · skip
            refine lv_lload C0.1 C0.2.1 dX7_spreads_217 (lv_at hl 0 rfl) ?_
            refine lv_ldc2 C0.1 C0.2.1 C0.2.2.2.1 (C0.2.2.2.2.1 _ kk_X7_110) dX7_spreads_219 ?_
            refine hv_lc_gt (tgt := 237) C0.1 C0.2.1 dX7_spreads_222 dX7_spreads_223 (by decide) (fun c_222 => ?_) (fun c_222 => absurd (c_106) c_222)
            refine lv_iconst (v := 0) C0.1 C0.2.1 dX7_spreads_237 (by decide) ?_
            refine lv_istore_n (lv' := [(3, .int 0), (4, .long a9), (8, .long F1.2.1), (6, .long F1.1), (0, .ref mo), (1, .int (nI j)), (2, .int (nI n))]) C0.1 C0.2.1 dX7_spreads_238 rfl hl (by decide) rfl (fun ls hl => ?_)
            refine lv_iload_n C0.1 C0.2.1 dX7_spreads_239 rfl (lv_at hl 0 rfl) ?_
            refine lv_if_eq (tgt := 260) C0.1 C0.2.1 dX7_spreads_240 (by decide) (fun _ => ?_) (fun h9 => absurd h9 (by decide))
            refine lv_aload_n C0.1 C0.2.1 dX7_spreads_260 rfl (lv_at hl 4 rfl) ?_
            refine lv_lload C0.1 C0.2.1 dX7_spreads_261 (lv_at hl 3 rfl) ?_
            refine pf_X7_103 C0 w q0 (by simp) dX7_spreads_263 (fun Hq lq w => ?_)
            obtain ⟨V92, eV93⟩ : ∃ W9, W9 = hv_up V8 mo (.inr (7, [.ref (mo + 1), .ref (mo + 2), .ref (mo + 3), .long F1.1, .long F1.2.1, .ref (mo + 10), .int (nI tx), .int pl, .int cl, .ref (mo + 11), .ref (mo + 12), .ref (mo + 13), .int sg, .ref (mo + 14), .ref (mo + 15), .ref (mo + 16), .ref (mo + 17), .int (nI se), .ref (mo + 18), .ref (mo + 19), .int (nI ev), .ref (mo + 20), .ref (mo + 21), .ref (mo + 22), .int (nI bk), .int ik, .ref (mo + 23), .ref (mo + 24), .ref (mo + 25), .ref (mo + 26), .ref (mo + 33), .ref (mo + 41), .ref (mo + 42), .ref (mo + 43)])) := ⟨_, rfl⟩
            have w : hv_w X s V92 Hq lq := by rw [eV93]; exact w
            have hV95 : V92 (mo + 1) = some (.inl (X.2.1 0, 6, .inl ki)) := by rw [eV93, hv_un (by omega)]; exact q1
            have hV96 : V92 (mo + 2) = some (.inl (X.2.1 0, 6, .inl ma)) := by rw [eV93, hv_un (by omega)]; exact q2
            have hV97 : V92 (mo + 3) = some (.inl (X.2.1 6, 6, .inr (.inr (.inr (.inr rf))))) := by rw [eV93, hv_un (by omega)]; exact q3
            have hV98 : V92 (mo + 4 + j) = some (.inl (X.2.1 0, 16, .inl f1)) := by rw [eV93, hv_un (by omega)]; exact q4
            have hV99 : V92 mo = some (.inr (7, [.ref (mo + 1), .ref (mo + 2), .ref (mo + 3), .long F1.1, .long F1.2.1, .ref (mo + 10), .int (nI tx), .int pl, .int cl, .ref (mo + 11), .ref (mo + 12), .ref (mo + 13), .int sg, .ref (mo + 14), .ref (mo + 15), .ref (mo + 16), .ref (mo + 17), .int (nI se), .ref (mo + 18), .ref (mo + 19), .int (nI ev), .ref (mo + 20), .ref (mo + 21), .ref (mo + 22), .int (nI bk), .int ik, .ref (mo + 23), .ref (mo + 24), .ref (mo + 25), .ref (mo + 26), .ref (mo + 33), .ref (mo + 41), .ref (mo + 42), .ref (mo + 43)])) := by rw [eV93]; exact hv_us
            refine lv_aload_n C0.1 C0.2.1 dX7_spreads_266 rfl (lv_at hl 4 rfl) ?_
            refine lv_lload C0.1 C0.2.1 dX7_spreads_267 (lv_at hl 2 rfl) ?_
            refine pf_X7_107 C0 w hV99 (by simp) dX7_spreads_269 (fun Hq lq w => ?_)
            obtain ⟨V100, eV101⟩ : ∃ W9, W9 = hv_up V92 mo (.inr (7, [.ref (mo + 1), .ref (mo + 2), .ref (mo + 3), .long F1.1, .long F1.2.1, .ref (mo + 10), .int (nI tx), .int pl, .int cl, .ref (mo + 11), .ref (mo + 12), .ref (mo + 13), .int sg, .ref (mo + 14), .ref (mo + 15), .ref (mo + 16), .ref (mo + 17), .int (nI se), .ref (mo + 18), .ref (mo + 19), .int (nI ev), .ref (mo + 20), .ref (mo + 21), .ref (mo + 22), .int (nI bk), .int ik, .ref (mo + 23), .ref (mo + 24), .ref (mo + 25), .ref (mo + 26), .ref (mo + 33), .ref (mo + 41), .ref (mo + 42), .ref (mo + 43)])) := ⟨_, rfl⟩
            have w : hv_w X s V100 Hq lq := by rw [eV101]; exact w
            have hV102 : V100 (mo + 1) = some (.inl (X.2.1 0, 6, .inl ki)) := by rw [eV101, hv_un (by omega)]; exact hV95
            have hV103 : V100 (mo + 2) = some (.inl (X.2.1 0, 6, .inl ma)) := by rw [eV101, hv_un (by omega)]; exact hV96
            have hV104 : V100 (mo + 3) = some (.inl (X.2.1 6, 6, .inr (.inr (.inr (.inr rf))))) := by rw [eV101, hv_un (by omega)]; exact hV97
            have hV105 : V100 (mo + 4 + j) = some (.inl (X.2.1 0, 16, .inl f1)) := by rw [eV101, hv_un (by omega)]; exact hV98
            have hV107 : V100 mo = some (.inr (7, [.ref (mo + 1), .ref (mo + 2), .ref (mo + 3), .long F1.1, .long F1.2.1, .ref (mo + 10), .int (nI tx), .int pl, .int cl, .ref (mo + 11), .ref (mo + 12), .ref (mo + 13), .int sg, .ref (mo + 14), .ref (mo + 15), .ref (mo + 16), .ref (mo + 17), .int (nI se), .ref (mo + 18), .ref (mo + 19), .int (nI ev), .ref (mo + 20), .ref (mo + 21), .ref (mo + 22), .int (nI bk), .int ik, .ref (mo + 23), .ref (mo + 24), .ref (mo + 25), .ref (mo + 26), .ref (mo + 33), .ref (mo + 41), .ref (mo + 42), .ref (mo + 43)])) := by rw [eV101]; exact hv_us
            refine lv_goto (tgt := 4) C0.1 C0.2.1 dX7_spreads_272 (by decide) ?_
            refine lv_iload_n C0.1 C0.2.1 dX7_spreads_4 rfl (lv_at hl 0 rfl) ?_
            refine lv_if_eq (tgt := 275) C0.1 C0.2.1 dX7_spreads_5 (by decide) (fun _ => ?_) (fun h9 => absurd h9 (by decide))
            refine lv_aload_n C0.1 C0.2.1 dX7_spreads_275 rfl (lv_at hl 4 rfl) ?_
            refine gf_X7_15 C0 w hV107 rfl dX7_spreads_276 ?_
            refine lv_iload_n C0.1 C0.2.1 dX7_spreads_279 rfl (lv_at hl 5 rfl) ?_
            refine lv_iload_n C0.1 C0.2.1 dX7_spreads_280 rfl (lv_at hl 6 rfl) ?_
            refine hv_iast C0 w hV103 (hn_in hj (by decide)) dX7_spreads_281 (fun Hq lq w => ?_)
            have hc108 : (nI j).toNatClampNeg = j := nI_clamp (by omega)
            rw [hc108] at w
            obtain ⟨V109, eV110⟩ : ∃ W9, W9 = hv_up V100 (mo + 2) (.inl (X.2.1 0, 6, .inl (upd ma j (nI n)))) := ⟨_, rfl⟩
            have w : hv_w X s V109 Hq lq := by rw [eV110]; exact w
            have hV111 : V109 (mo + 1) = some (.inl (X.2.1 0, 6, .inl ki)) := by rw [eV110, hv_un (by omega)]; exact hV102
            have hV113 : V109 (mo + 3) = some (.inl (X.2.1 6, 6, .inr (.inr (.inr (.inr rf))))) := by rw [eV110, hv_un (by omega)]; exact hV104
            have hV114 : V109 (mo + 4 + j) = some (.inl (X.2.1 0, 16, .inl f1)) := by rw [eV110, hv_un (by omega)]; exact hV105
            have hV115 : V109 mo = some (.inr (7, [.ref (mo + 1), .ref (mo + 2), .ref (mo + 3), .long F1.1, .long F1.2.1, .ref (mo + 10), .int (nI tx), .int pl, .int cl, .ref (mo + 11), .ref (mo + 12), .ref (mo + 13), .int sg, .ref (mo + 14), .ref (mo + 15), .ref (mo + 16), .ref (mo + 17), .int (nI se), .ref (mo + 18), .ref (mo + 19), .int (nI ev), .ref (mo + 20), .ref (mo + 21), .ref (mo + 22), .int (nI bk), .int ik, .ref (mo + 23), .ref (mo + 24), .ref (mo + 25), .ref (mo + 26), .ref (mo + 33), .ref (mo + 41), .ref (mo + 42), .ref (mo + 43)])) := by rw [eV110, hv_un (by omega)]; exact hV107
            have hV116 : V109 (mo + 2) = some (.inl (X.2.1 0, 6, .inl (upd ma j (nI n)))) := by rw [eV110]; exact hv_us
            refine lv_aload_n C0.1 C0.2.1 dX7_spreads_282 rfl (lv_at hl 4 rfl) ?_
            refine gf_X7_103 C0 w hV115 rfl dX7_spreads_283 ?_
            refine lv_lconst (v := 0) C0.1 C0.2.1 dX7_spreads_286 (by decide) ?_
            refine hv_lc_ne (tgt := 295) C0.1 C0.2.1 dX7_spreads_287 dX7_spreads_288 (by decide) (fun c_287 => ?_) (fun c_287 => absurd c_287 (c_13))
            refine lv_iconst (v := 0) C0.1 C0.2.1 dX7_spreads_295 (by decide) ?_
            exact hv_iret C0 w hr hlk (by rw [← he, fx_unf_w pr9 (by rw [na9]; exact c_106)]; exact ⟨_, _, by rw [eV110, eV101, eV93, e8, hv_uu, hv_m1 (a := mo) (b := mo + 4 + j) (by omega)], (if_neg (fun h9 => c_13 h9.2)).symm⟩) dX7_spreads_296
          · skip
            have ho9 := hp9 c_106
            refine lv_aload_n C0.1 C0.2.1 dX7_spreads_110 rfl (lv_at hl 3 rfl) ?_
            refine lv_aload_n C0.1 C0.2.1 dX7_spreads_111 rfl (lv_at hl 3 rfl) ?_
            refine gf_X7_103 C0 w q0 rfl dX7_spreads_112 ?_
            refine lv_lload C0.1 C0.2.1 dX7_spreads_115 (lv_at hl 0 rfl) ?_
            refine lv_lmul C0.1 C0.2.1 dX7_spreads_117 ?_
            refine lv_aload_n C0.1 C0.2.1 dX7_spreads_118 rfl (lv_at hl 3 rfl) ?_
            refine gf_X7_107 C0 w q0 rfl dX7_spreads_119 ?_
            refine lv_lsub C0.1 C0.2.1 dX7_spreads_122 ?_
            refine lv_aload_n C0.1 C0.2.1 dX7_spreads_123 rfl (lv_at hl 3 rfl) ?_
            refine gf_X7_107 C0 w q0 rfl dX7_spreads_124 ?_
            refine hv_cVv C0 w kl_X7_116 kv_X7_lay rfl q0 (c_X7_lay q0 (a := (F1.1 * a9) - F1.2.1) (b := F1.2.1) (by have h9 := ho9.1; omega) (by have h9 := h1.2.1.2.1; omega)) (by decide) (by decide) rfl hl.1 rfl (Nat.le_of_ble_eq_true rfl) dX7_spreads_127 ⟨Nat.le_refl _, Nat.le_refl _⟩ (fun V118 Hq lq hp119 w => ?_)
            have fm9 : fm (fx_become ((F1.1 * a9) - F1.2.1) (F1.2.1)) (fl_a ((F1.1 * a9) - F1.2.1) (F1.2.1)) (fl_b ((F1.1 * a9) - F1.2.1) (F1.2.1)) := fx_become_ok (by have h9 := ho9.1; omega) (by have h9 := h1.2.1.2.1; omega)
            obtain ⟨ab120, eA9⟩ : ∃ q9, q9 = fl_a ((F1.1 * a9) - F1.2.1) (F1.2.1) := ⟨_, rfl⟩
            obtain ⟨be121, eB9⟩ : ∃ q9, q9 = fl_b ((F1.1 * a9) - F1.2.1) (F1.2.1) := ⟨_, rfl⟩
            rw [← eA9, ← eB9] at hp119 fm9
            have hV123 : V118 (mo + 1) = some (.inl (X.2.1 0, 6, .inl ki)) := by rw [hp119, hv_un (by omega)]; exact q1
            have hV124 : V118 (mo + 2) = some (.inl (X.2.1 0, 6, .inl ma)) := by rw [hp119, hv_un (by omega)]; exact q2
            have hV125 : V118 (mo + 3) = some (.inl (X.2.1 6, 6, .inr (.inr (.inr (.inr rf))))) := by rw [hp119, hv_un (by omega)]; exact q3
            have hV126 : V118 (mo + 4 + j) = some (.inl (X.2.1 0, 16, .inl f1)) := by rw [hp119, hv_un (by omega)]; exact q4
            have hV127 : V118 mo = some (.inr (7, [.ref (mo + 1), .ref (mo + 2), .ref (mo + 3), .long ab120, .long be121, .ref (mo + 10), .int (nI tx), .int pl, .int cl, .ref (mo + 11), .ref (mo + 12), .ref (mo + 13), .int sg, .ref (mo + 14), .ref (mo + 15), .ref (mo + 16), .ref (mo + 17), .int (nI se), .ref (mo + 18), .ref (mo + 19), .int (nI ev), .ref (mo + 20), .ref (mo + 21), .ref (mo + 22), .int (nI bk), .int ik, .ref (mo + 23), .ref (mo + 24), .ref (mo + 25), .ref (mo + 26), .ref (mo + 33), .ref (mo + 41), .ref (mo + 42), .ref (mo + 43)])) := by rw [hp119]; exact hv_us
            have eo9 : fx_out (ki j) n a9 F1 = fx_become ((F1.1 * a9) - F1.2.1) (F1.2.1) := by rw [fx_out, if_neg (by rw [c_41_1]; decide), if_pos c_41_1]
            have hl9 : ¬ be121 = 0 → fx_lt1 (fx_out (ki j) n a9 F1) ∧ ab120 = (fx_out (ki j) n a9 F1).1 ∧ be121 = (fx_out (ki j) n a9 F1).2.1 := fun h9 => by rw [eo9]; exact fx_lt1_of (And.intro ho9.1 ho9.2.1).1 (And.intro ho9.1 ho9.2.1).2 fm9 h9
            rw [← eo9] at fm9
            refine lv_goto (tgt := 217) C0.1 C0.2.1 dX7_spreads_130 (by decide) ?_
            refine lv_lload C0.1 C0.2.1 dX7_spreads_217 (lv_at hl 0 rfl) ?_
            refine lv_ldc2 C0.1 C0.2.1 C0.2.2.2.1 (C0.2.2.2.2.1 _ kk_X7_110) dX7_spreads_219 ?_
            refine hv_lc_gt (tgt := 237) C0.1 C0.2.1 dX7_spreads_222 dX7_spreads_223 (by decide) (fun c_222 => absurd c_222 (c_106)) (fun c_222 => ?_)
            refine lv_aload_n C0.1 C0.2.1 dX7_spreads_226 rfl (lv_at hl 3 rfl) ?_
            refine hv_cVi C0 w kl_X7_112 kv_X7_isThere rfl hV127 (c_X7_isThere hV127) (by decide) (by decide) rfl hl.1 rfl (Nat.le_of_ble_eq_true rfl) dX7_spreads_227 ⟨Nat.le_refl _, Nat.le_refl _⟩ (fun x128 V129 Hq lq hp130 w => ?_)
            obtain ⟨e9, hz9⟩ := hp130
            rw [e9] at w; clear e9
            rcases hz9 with ⟨rfl, hi131⟩ | ⟨rfl, hi131⟩
            · skip
              refine lv_if_eq (tgt := 237) C0.1 C0.2.1 dX7_spreads_230 (by decide) (fun h9 => absurd h9 (by decide)) (fun _ => ?_)
              refine lv_iconst (v := 1) C0.1 C0.2.1 dX7_spreads_233 (by decide) ?_
              refine lv_goto (tgt := 238) C0.1 C0.2.1 dX7_spreads_234 (by decide) ?_
              refine lv_istore_n (lv' := [(3, .int 1), (4, .long a9), (8, .long F1.2.1), (6, .long F1.1), (0, .ref mo), (1, .int (nI j)), (2, .int (nI n))]) C0.1 C0.2.1 dX7_spreads_238 rfl hl (by decide) rfl (fun ls hl => ?_)
              refine lv_iload_n C0.1 C0.2.1 dX7_spreads_239 rfl (lv_at hl 0 rfl) ?_
              refine lv_if_eq (tgt := 260) C0.1 C0.2.1 dX7_spreads_240 (by decide) (fun h9 => absurd h9 (by decide)) (fun _ => ?_)
              refine lv_aload_n C0.1 C0.2.1 dX7_spreads_243 rfl (lv_at hl 4 rfl) ?_
              refine gf_X7_20 C0 w hV127 rfl dX7_spreads_244 ?_
              refine lv_iload_n C0.1 C0.2.1 dX7_spreads_247 rfl (lv_at hl 5 rfl) ?_
              refine hv_aalA 6 rfl C0 w rfl hV125 (hn_in hj (by decide)) (by rw [kj]; exact rj) dX7_spreads_248 ?_
              refine lv_iload_n C0.1 C0.2.1 dX7_spreads_249 rfl (lv_at hl 6 rfl) ?_
              refine lv_lload C0.1 C0.2.1 dX7_spreads_250 (lv_at hl 1 rfl) ?_
              refine lv_l2i (v := a9.toInt32) C0.1 C0.2.1 dX7_spreads_252 rfl ?_
              refine hv_iast C0 w hV126 (hn_in (by omega) (by decide)) dX7_spreads_253 (fun Hq lq w => ?_)
              have hc132 : (nI n).toNatClampNeg = n := nI_clamp (by omega)
              rw [hc132] at w
              obtain ⟨V133, eV134⟩ : ∃ W9, W9 = hv_up V118 (mo + 4 + j) (.inl (X.2.1 0, 16, .inl (upd f1 n (a9.toInt32)))) := ⟨_, rfl⟩
              have w : hv_w X s V133 Hq lq := by rw [eV134]; exact w
              have hV135 : V133 (mo + 1) = some (.inl (X.2.1 0, 6, .inl ki)) := by rw [eV134, hv_un (by omega)]; exact hV123
              have hV136 : V133 (mo + 2) = some (.inl (X.2.1 0, 6, .inl ma)) := by rw [eV134, hv_un (by omega)]; exact hV124
              have hV137 : V133 (mo + 3) = some (.inl (X.2.1 6, 6, .inr (.inr (.inr (.inr rf))))) := by rw [eV134, hv_un (by omega)]; exact hV125
              have hV139 : V133 mo = some (.inr (7, [.ref (mo + 1), .ref (mo + 2), .ref (mo + 3), .long ab120, .long be121, .ref (mo + 10), .int (nI tx), .int pl, .int cl, .ref (mo + 11), .ref (mo + 12), .ref (mo + 13), .int sg, .ref (mo + 14), .ref (mo + 15), .ref (mo + 16), .ref (mo + 17), .int (nI se), .ref (mo + 18), .ref (mo + 19), .int (nI ev), .ref (mo + 20), .ref (mo + 21), .ref (mo + 22), .int (nI bk), .int ik, .ref (mo + 23), .ref (mo + 24), .ref (mo + 25), .ref (mo + 26), .ref (mo + 33), .ref (mo + 41), .ref (mo + 42), .ref (mo + 43)])) := by rw [eV134, hv_un (by omega)]; exact hV127
              have hV140 : V133 (mo + 4 + j) = some (.inl (X.2.1 0, 16, .inl (upd f1 n (a9.toInt32)))) := by rw [eV134]; exact hv_us
              refine lv_iinc (v := (nI n) + 1) (lv' := [(2, .int ((nI n) + 1)), (3, .int 1), (4, .long a9), (8, .long F1.2.1), (6, .long F1.1), (0, .ref mo), (1, .int (nI j))]) C0.1 C0.2.1 dX7_spreads_254 hl (k := 6) rfl rfl (by decide) rfl (fun ls hl => ?_)
              refine lv_goto (tgt := 272) C0.1 C0.2.1 dX7_spreads_257 (by decide) ?_
              refine lv_goto (tgt := 4) C0.1 C0.2.1 dX7_spreads_272 (by decide) ?_
              exact ih (n + 1) (upd f1 n a9.toInt32) (fx_out (ki j) n a9 F1) _ _ ls (by omega) (hl9 hi131).1 (by rw [← he, fx_unf_s pr9 (by rw [na9]; exact c_106) (by rw [na9]; exact fun h9 => hi131 (fm9.no.mpr h9)), na9]) (by rw [eV134, hp119, e8, hv_m1 (a := mo) (b := mo + 4 + j) (by omega), hv_uu, (hl9 hi131).2.1, (hl9 hi131).2.2] at w; exact w) (by have h9 := (lv_sub (l' := [(0, .ref mo), (1, .int (nI j)), (2, .int (nI n + 1)), (3, .int 1)]) hl [5, 6, 0, 1] rfl); rw [nI_1] at h9; exact h9)
            · skip
              have hi131 := Classical.byContradiction hi131
              refine lv_if_eq (tgt := 237) C0.1 C0.2.1 dX7_spreads_230 (by decide) (fun _ => ?_) (fun h9 => absurd h9 (by decide))
              refine lv_iconst (v := 0) C0.1 C0.2.1 dX7_spreads_237 (by decide) ?_
              refine lv_istore_n (lv' := [(3, .int 0), (4, .long a9), (8, .long F1.2.1), (6, .long F1.1), (0, .ref mo), (1, .int (nI j)), (2, .int (nI n))]) C0.1 C0.2.1 dX7_spreads_238 rfl hl (by decide) rfl (fun ls hl => ?_)
              refine lv_iload_n C0.1 C0.2.1 dX7_spreads_239 rfl (lv_at hl 0 rfl) ?_
              refine lv_if_eq (tgt := 260) C0.1 C0.2.1 dX7_spreads_240 (by decide) (fun _ => ?_) (fun h9 => absurd h9 (by decide))
              refine lv_aload_n C0.1 C0.2.1 dX7_spreads_260 rfl (lv_at hl 4 rfl) ?_
              refine lv_lload C0.1 C0.2.1 dX7_spreads_261 (lv_at hl 3 rfl) ?_
              refine pf_X7_103 C0 w hV127 (by simp) dX7_spreads_263 (fun Hq lq w => ?_)
              obtain ⟨V141, eV142⟩ : ∃ W9, W9 = hv_up V118 mo (.inr (7, [.ref (mo + 1), .ref (mo + 2), .ref (mo + 3), .long F1.1, .long be121, .ref (mo + 10), .int (nI tx), .int pl, .int cl, .ref (mo + 11), .ref (mo + 12), .ref (mo + 13), .int sg, .ref (mo + 14), .ref (mo + 15), .ref (mo + 16), .ref (mo + 17), .int (nI se), .ref (mo + 18), .ref (mo + 19), .int (nI ev), .ref (mo + 20), .ref (mo + 21), .ref (mo + 22), .int (nI bk), .int ik, .ref (mo + 23), .ref (mo + 24), .ref (mo + 25), .ref (mo + 26), .ref (mo + 33), .ref (mo + 41), .ref (mo + 42), .ref (mo + 43)])) := ⟨_, rfl⟩
              have w : hv_w X s V141 Hq lq := by rw [eV142]; exact w
              have hV143 : V141 (mo + 1) = some (.inl (X.2.1 0, 6, .inl ki)) := by rw [eV142, hv_un (by omega)]; exact hV123
              have hV144 : V141 (mo + 2) = some (.inl (X.2.1 0, 6, .inl ma)) := by rw [eV142, hv_un (by omega)]; exact hV124
              have hV145 : V141 (mo + 3) = some (.inl (X.2.1 6, 6, .inr (.inr (.inr (.inr rf))))) := by rw [eV142, hv_un (by omega)]; exact hV125
              have hV146 : V141 (mo + 4 + j) = some (.inl (X.2.1 0, 16, .inl f1)) := by rw [eV142, hv_un (by omega)]; exact hV126
              have hV148 : V141 mo = some (.inr (7, [.ref (mo + 1), .ref (mo + 2), .ref (mo + 3), .long F1.1, .long be121, .ref (mo + 10), .int (nI tx), .int pl, .int cl, .ref (mo + 11), .ref (mo + 12), .ref (mo + 13), .int sg, .ref (mo + 14), .ref (mo + 15), .ref (mo + 16), .ref (mo + 17), .int (nI se), .ref (mo + 18), .ref (mo + 19), .int (nI ev), .ref (mo + 20), .ref (mo + 21), .ref (mo + 22), .int (nI bk), .int ik, .ref (mo + 23), .ref (mo + 24), .ref (mo + 25), .ref (mo + 26), .ref (mo + 33), .ref (mo + 41), .ref (mo + 42), .ref (mo + 43)])) := by rw [eV142]; exact hv_us
              refine lv_aload_n C0.1 C0.2.1 dX7_spreads_266 rfl (lv_at hl 4 rfl) ?_
              refine lv_lload C0.1 C0.2.1 dX7_spreads_267 (lv_at hl 2 rfl) ?_
              refine pf_X7_107 C0 w hV148 (by simp) dX7_spreads_269 (fun Hq lq w => ?_)
              obtain ⟨V149, eV150⟩ : ∃ W9, W9 = hv_up V141 mo (.inr (7, [.ref (mo + 1), .ref (mo + 2), .ref (mo + 3), .long F1.1, .long F1.2.1, .ref (mo + 10), .int (nI tx), .int pl, .int cl, .ref (mo + 11), .ref (mo + 12), .ref (mo + 13), .int sg, .ref (mo + 14), .ref (mo + 15), .ref (mo + 16), .ref (mo + 17), .int (nI se), .ref (mo + 18), .ref (mo + 19), .int (nI ev), .ref (mo + 20), .ref (mo + 21), .ref (mo + 22), .int (nI bk), .int ik, .ref (mo + 23), .ref (mo + 24), .ref (mo + 25), .ref (mo + 26), .ref (mo + 33), .ref (mo + 41), .ref (mo + 42), .ref (mo + 43)])) := ⟨_, rfl⟩
              have w : hv_w X s V149 Hq lq := by rw [eV150]; exact w
              have hV151 : V149 (mo + 1) = some (.inl (X.2.1 0, 6, .inl ki)) := by rw [eV150, hv_un (by omega)]; exact hV143
              have hV152 : V149 (mo + 2) = some (.inl (X.2.1 0, 6, .inl ma)) := by rw [eV150, hv_un (by omega)]; exact hV144
              have hV153 : V149 (mo + 3) = some (.inl (X.2.1 6, 6, .inr (.inr (.inr (.inr rf))))) := by rw [eV150, hv_un (by omega)]; exact hV145
              have hV154 : V149 (mo + 4 + j) = some (.inl (X.2.1 0, 16, .inl f1)) := by rw [eV150, hv_un (by omega)]; exact hV146
              have hV156 : V149 mo = some (.inr (7, [.ref (mo + 1), .ref (mo + 2), .ref (mo + 3), .long F1.1, .long F1.2.1, .ref (mo + 10), .int (nI tx), .int pl, .int cl, .ref (mo + 11), .ref (mo + 12), .ref (mo + 13), .int sg, .ref (mo + 14), .ref (mo + 15), .ref (mo + 16), .ref (mo + 17), .int (nI se), .ref (mo + 18), .ref (mo + 19), .int (nI ev), .ref (mo + 20), .ref (mo + 21), .ref (mo + 22), .int (nI bk), .int ik, .ref (mo + 23), .ref (mo + 24), .ref (mo + 25), .ref (mo + 26), .ref (mo + 33), .ref (mo + 41), .ref (mo + 42), .ref (mo + 43)])) := by rw [eV150]; exact hv_us
              refine lv_goto (tgt := 4) C0.1 C0.2.1 dX7_spreads_272 (by decide) ?_
              refine lv_iload_n C0.1 C0.2.1 dX7_spreads_4 rfl (lv_at hl 0 rfl) ?_
              refine lv_if_eq (tgt := 275) C0.1 C0.2.1 dX7_spreads_5 (by decide) (fun _ => ?_) (fun h9 => absurd h9 (by decide))
              refine lv_aload_n C0.1 C0.2.1 dX7_spreads_275 rfl (lv_at hl 4 rfl) ?_
              refine gf_X7_15 C0 w hV156 rfl dX7_spreads_276 ?_
              refine lv_iload_n C0.1 C0.2.1 dX7_spreads_279 rfl (lv_at hl 5 rfl) ?_
              refine lv_iload_n C0.1 C0.2.1 dX7_spreads_280 rfl (lv_at hl 6 rfl) ?_
              refine hv_iast C0 w hV152 (hn_in hj (by decide)) dX7_spreads_281 (fun Hq lq w => ?_)
              have hc157 : (nI j).toNatClampNeg = j := nI_clamp (by omega)
              rw [hc157] at w
              obtain ⟨V158, eV159⟩ : ∃ W9, W9 = hv_up V149 (mo + 2) (.inl (X.2.1 0, 6, .inl (upd ma j (nI n)))) := ⟨_, rfl⟩
              have w : hv_w X s V158 Hq lq := by rw [eV159]; exact w
              have hV160 : V158 (mo + 1) = some (.inl (X.2.1 0, 6, .inl ki)) := by rw [eV159, hv_un (by omega)]; exact hV151
              have hV162 : V158 (mo + 3) = some (.inl (X.2.1 6, 6, .inr (.inr (.inr (.inr rf))))) := by rw [eV159, hv_un (by omega)]; exact hV153
              have hV163 : V158 (mo + 4 + j) = some (.inl (X.2.1 0, 16, .inl f1)) := by rw [eV159, hv_un (by omega)]; exact hV154
              have hV164 : V158 mo = some (.inr (7, [.ref (mo + 1), .ref (mo + 2), .ref (mo + 3), .long F1.1, .long F1.2.1, .ref (mo + 10), .int (nI tx), .int pl, .int cl, .ref (mo + 11), .ref (mo + 12), .ref (mo + 13), .int sg, .ref (mo + 14), .ref (mo + 15), .ref (mo + 16), .ref (mo + 17), .int (nI se), .ref (mo + 18), .ref (mo + 19), .int (nI ev), .ref (mo + 20), .ref (mo + 21), .ref (mo + 22), .int (nI bk), .int ik, .ref (mo + 23), .ref (mo + 24), .ref (mo + 25), .ref (mo + 26), .ref (mo + 33), .ref (mo + 41), .ref (mo + 42), .ref (mo + 43)])) := by rw [eV159, hv_un (by omega)]; exact hV156
              have hV165 : V158 (mo + 2) = some (.inl (X.2.1 0, 6, .inl (upd ma j (nI n)))) := by rw [eV159]; exact hv_us
              refine lv_aload_n C0.1 C0.2.1 dX7_spreads_282 rfl (lv_at hl 4 rfl) ?_
              refine gf_X7_103 C0 w hV164 rfl dX7_spreads_283 ?_
              refine lv_lconst (v := 0) C0.1 C0.2.1 dX7_spreads_286 (by decide) ?_
              refine hv_lc_ne (tgt := 295) C0.1 C0.2.1 dX7_spreads_287 dX7_spreads_288 (by decide) (fun c_287 => ?_) (fun c_287 => absurd c_287 (c_13))
              refine lv_iconst (v := 0) C0.1 C0.2.1 dX7_spreads_295 (by decide) ?_
              exact hv_iret C0 w hr hlk (by rw [← he, fx_unf_n pr9 (by rw [na9]; exact c_106) (by rw [na9]; exact fm9.no.mp hi131)]; exact ⟨_, _, by rw [eV159, eV150, eV142, hp119, e8, hv_uu, hv_uu, hv_m1 (a := mo) (b := mo + 4 + j) (by omega)], (if_neg (fun h9 => h9.1 (by rw [na9]; exact fm9.no.mp hi131))).symm⟩) dX7_spreads_296
        by_cases c_41_2 : (ki j) = 2
        · refine lv_tableIn (off := 92) (tgt := 133) C0.1 C0.2.1 dX7_spreads_41 (by rw [c_41_2]; decide) (by rw [c_41_2]; decide) (by rw [c_41_2]; rfl) (by decide) ?_
          refine lv_aload_n C0.1 C0.2.1 dX7_spreads_133 rfl (lv_at hl 2 rfl) ?_
          refine gf_X7_107 C0 w q0 rfl dX7_spreads_134 ?_
          refine lv_aload_n C0.1 C0.2.1 dX7_spreads_137 rfl (lv_at hl 2 rfl) ?_
          refine gf_X7_103 C0 w q0 rfl dX7_spreads_138 ?_
          refine lv_ldiv C0.1 C0.2.1 dX7_spreads_141 (c_13) ?_
          have na9 : fx_next (ki j) n F1 = F1.2.1 / F1.1 := by rw [fx_next, if_neg (fun h9 => h9.elim (by rw [c_41_2]; decide) (by rw [c_41_2]; decide)), if_pos c_41_2, if_pos pos9]
          have ho9 := fx_o2 h1 c_13
          obtain ⟨a9, ea9⟩ : ∃ a9, a9 = F1.2.1 / F1.1 := ⟨_, rfl⟩
          rw [← ea9]
          rw [← ea9] at na9 ho9
          refine lv_lstore (lv' := [(4, .long a9), (8, .long F1.2.1), (6, .long F1.1), (0, .ref mo), (1, .int (nI j)), (2, .int (nI n)), (3, .int 1)]) C0.1 C0.2.1 dX7_spreads_142 hl (by decide) rfl (fun ls hl => ?_)
          refine lv_lload C0.1 C0.2.1 dX7_spreads_144 (lv_at hl 0 rfl) ?_
          refine lv_ldc2 C0.1 C0.2.1 C0.2.2.2.1 (C0.2.2.2.2.1 _ kk_X7_110) dX7_spreads_146 ?_
          refine hv_lc_gt (tgt := 217) C0.1 C0.2.1 dX7_spreads_149 dX7_spreads_150 (by decide) (fun c_149 => ?_) (fun c_149 => ?_)
          · skip
            refine lv_lload C0.1 C0.2.1 dX7_spreads_217 (lv_at hl 0 rfl) ?_
            refine lv_ldc2 C0.1 C0.2.1 C0.2.2.2.1 (C0.2.2.2.2.1 _ kk_X7_110) dX7_spreads_219 ?_
            refine hv_lc_gt (tgt := 237) C0.1 C0.2.1 dX7_spreads_222 dX7_spreads_223 (by decide) (fun c_222 => ?_) (fun c_222 => absurd (c_149) c_222)
            refine lv_iconst (v := 0) C0.1 C0.2.1 dX7_spreads_237 (by decide) ?_
            refine lv_istore_n (lv' := [(3, .int 0), (4, .long a9), (8, .long F1.2.1), (6, .long F1.1), (0, .ref mo), (1, .int (nI j)), (2, .int (nI n))]) C0.1 C0.2.1 dX7_spreads_238 rfl hl (by decide) rfl (fun ls hl => ?_)
            refine lv_iload_n C0.1 C0.2.1 dX7_spreads_239 rfl (lv_at hl 0 rfl) ?_
            refine lv_if_eq (tgt := 260) C0.1 C0.2.1 dX7_spreads_240 (by decide) (fun _ => ?_) (fun h9 => absurd h9 (by decide))
            refine lv_aload_n C0.1 C0.2.1 dX7_spreads_260 rfl (lv_at hl 4 rfl) ?_
            refine lv_lload C0.1 C0.2.1 dX7_spreads_261 (lv_at hl 3 rfl) ?_
            refine pf_X7_103 C0 w q0 (by simp) dX7_spreads_263 (fun Hq lq w => ?_)
            obtain ⟨V166, eV167⟩ : ∃ W9, W9 = hv_up V8 mo (.inr (7, [.ref (mo + 1), .ref (mo + 2), .ref (mo + 3), .long F1.1, .long F1.2.1, .ref (mo + 10), .int (nI tx), .int pl, .int cl, .ref (mo + 11), .ref (mo + 12), .ref (mo + 13), .int sg, .ref (mo + 14), .ref (mo + 15), .ref (mo + 16), .ref (mo + 17), .int (nI se), .ref (mo + 18), .ref (mo + 19), .int (nI ev), .ref (mo + 20), .ref (mo + 21), .ref (mo + 22), .int (nI bk), .int ik, .ref (mo + 23), .ref (mo + 24), .ref (mo + 25), .ref (mo + 26), .ref (mo + 33), .ref (mo + 41), .ref (mo + 42), .ref (mo + 43)])) := ⟨_, rfl⟩
            have w : hv_w X s V166 Hq lq := by rw [eV167]; exact w
            have hV169 : V166 (mo + 1) = some (.inl (X.2.1 0, 6, .inl ki)) := by rw [eV167, hv_un (by omega)]; exact q1
            have hV170 : V166 (mo + 2) = some (.inl (X.2.1 0, 6, .inl ma)) := by rw [eV167, hv_un (by omega)]; exact q2
            have hV171 : V166 (mo + 3) = some (.inl (X.2.1 6, 6, .inr (.inr (.inr (.inr rf))))) := by rw [eV167, hv_un (by omega)]; exact q3
            have hV172 : V166 (mo + 4 + j) = some (.inl (X.2.1 0, 16, .inl f1)) := by rw [eV167, hv_un (by omega)]; exact q4
            have hV173 : V166 mo = some (.inr (7, [.ref (mo + 1), .ref (mo + 2), .ref (mo + 3), .long F1.1, .long F1.2.1, .ref (mo + 10), .int (nI tx), .int pl, .int cl, .ref (mo + 11), .ref (mo + 12), .ref (mo + 13), .int sg, .ref (mo + 14), .ref (mo + 15), .ref (mo + 16), .ref (mo + 17), .int (nI se), .ref (mo + 18), .ref (mo + 19), .int (nI ev), .ref (mo + 20), .ref (mo + 21), .ref (mo + 22), .int (nI bk), .int ik, .ref (mo + 23), .ref (mo + 24), .ref (mo + 25), .ref (mo + 26), .ref (mo + 33), .ref (mo + 41), .ref (mo + 42), .ref (mo + 43)])) := by rw [eV167]; exact hv_us
            refine lv_aload_n C0.1 C0.2.1 dX7_spreads_266 rfl (lv_at hl 4 rfl) ?_
            refine lv_lload C0.1 C0.2.1 dX7_spreads_267 (lv_at hl 2 rfl) ?_
            refine pf_X7_107 C0 w hV173 (by simp) dX7_spreads_269 (fun Hq lq w => ?_)
            obtain ⟨V174, eV175⟩ : ∃ W9, W9 = hv_up V166 mo (.inr (7, [.ref (mo + 1), .ref (mo + 2), .ref (mo + 3), .long F1.1, .long F1.2.1, .ref (mo + 10), .int (nI tx), .int pl, .int cl, .ref (mo + 11), .ref (mo + 12), .ref (mo + 13), .int sg, .ref (mo + 14), .ref (mo + 15), .ref (mo + 16), .ref (mo + 17), .int (nI se), .ref (mo + 18), .ref (mo + 19), .int (nI ev), .ref (mo + 20), .ref (mo + 21), .ref (mo + 22), .int (nI bk), .int ik, .ref (mo + 23), .ref (mo + 24), .ref (mo + 25), .ref (mo + 26), .ref (mo + 33), .ref (mo + 41), .ref (mo + 42), .ref (mo + 43)])) := ⟨_, rfl⟩
            have w : hv_w X s V174 Hq lq := by rw [eV175]; exact w
            have hV176 : V174 (mo + 1) = some (.inl (X.2.1 0, 6, .inl ki)) := by rw [eV175, hv_un (by omega)]; exact hV169
            have hV177 : V174 (mo + 2) = some (.inl (X.2.1 0, 6, .inl ma)) := by rw [eV175, hv_un (by omega)]; exact hV170
            have hV178 : V174 (mo + 3) = some (.inl (X.2.1 6, 6, .inr (.inr (.inr (.inr rf))))) := by rw [eV175, hv_un (by omega)]; exact hV171
            have hV179 : V174 (mo + 4 + j) = some (.inl (X.2.1 0, 16, .inl f1)) := by rw [eV175, hv_un (by omega)]; exact hV172
            have hV181 : V174 mo = some (.inr (7, [.ref (mo + 1), .ref (mo + 2), .ref (mo + 3), .long F1.1, .long F1.2.1, .ref (mo + 10), .int (nI tx), .int pl, .int cl, .ref (mo + 11), .ref (mo + 12), .ref (mo + 13), .int sg, .ref (mo + 14), .ref (mo + 15), .ref (mo + 16), .ref (mo + 17), .int (nI se), .ref (mo + 18), .ref (mo + 19), .int (nI ev), .ref (mo + 20), .ref (mo + 21), .ref (mo + 22), .int (nI bk), .int ik, .ref (mo + 23), .ref (mo + 24), .ref (mo + 25), .ref (mo + 26), .ref (mo + 33), .ref (mo + 41), .ref (mo + 42), .ref (mo + 43)])) := by rw [eV175]; exact hv_us
            refine lv_goto (tgt := 4) C0.1 C0.2.1 dX7_spreads_272 (by decide) ?_
            refine lv_iload_n C0.1 C0.2.1 dX7_spreads_4 rfl (lv_at hl 0 rfl) ?_
            refine lv_if_eq (tgt := 275) C0.1 C0.2.1 dX7_spreads_5 (by decide) (fun _ => ?_) (fun h9 => absurd h9 (by decide))
            refine lv_aload_n C0.1 C0.2.1 dX7_spreads_275 rfl (lv_at hl 4 rfl) ?_
            refine gf_X7_15 C0 w hV181 rfl dX7_spreads_276 ?_
            refine lv_iload_n C0.1 C0.2.1 dX7_spreads_279 rfl (lv_at hl 5 rfl) ?_
            refine lv_iload_n C0.1 C0.2.1 dX7_spreads_280 rfl (lv_at hl 6 rfl) ?_
            refine hv_iast C0 w hV177 (hn_in hj (by decide)) dX7_spreads_281 (fun Hq lq w => ?_)
            have hc182 : (nI j).toNatClampNeg = j := nI_clamp (by omega)
            rw [hc182] at w
            obtain ⟨V183, eV184⟩ : ∃ W9, W9 = hv_up V174 (mo + 2) (.inl (X.2.1 0, 6, .inl (upd ma j (nI n)))) := ⟨_, rfl⟩
            have w : hv_w X s V183 Hq lq := by rw [eV184]; exact w
            have hV185 : V183 (mo + 1) = some (.inl (X.2.1 0, 6, .inl ki)) := by rw [eV184, hv_un (by omega)]; exact hV176
            have hV187 : V183 (mo + 3) = some (.inl (X.2.1 6, 6, .inr (.inr (.inr (.inr rf))))) := by rw [eV184, hv_un (by omega)]; exact hV178
            have hV188 : V183 (mo + 4 + j) = some (.inl (X.2.1 0, 16, .inl f1)) := by rw [eV184, hv_un (by omega)]; exact hV179
            have hV189 : V183 mo = some (.inr (7, [.ref (mo + 1), .ref (mo + 2), .ref (mo + 3), .long F1.1, .long F1.2.1, .ref (mo + 10), .int (nI tx), .int pl, .int cl, .ref (mo + 11), .ref (mo + 12), .ref (mo + 13), .int sg, .ref (mo + 14), .ref (mo + 15), .ref (mo + 16), .ref (mo + 17), .int (nI se), .ref (mo + 18), .ref (mo + 19), .int (nI ev), .ref (mo + 20), .ref (mo + 21), .ref (mo + 22), .int (nI bk), .int ik, .ref (mo + 23), .ref (mo + 24), .ref (mo + 25), .ref (mo + 26), .ref (mo + 33), .ref (mo + 41), .ref (mo + 42), .ref (mo + 43)])) := by rw [eV184, hv_un (by omega)]; exact hV181
            have hV190 : V183 (mo + 2) = some (.inl (X.2.1 0, 6, .inl (upd ma j (nI n)))) := by rw [eV184]; exact hv_us
            refine lv_aload_n C0.1 C0.2.1 dX7_spreads_282 rfl (lv_at hl 4 rfl) ?_
            refine gf_X7_103 C0 w hV189 rfl dX7_spreads_283 ?_
            refine lv_lconst (v := 0) C0.1 C0.2.1 dX7_spreads_286 (by decide) ?_
            refine hv_lc_ne (tgt := 295) C0.1 C0.2.1 dX7_spreads_287 dX7_spreads_288 (by decide) (fun c_287 => ?_) (fun c_287 => absurd c_287 (c_13))
            refine lv_iconst (v := 0) C0.1 C0.2.1 dX7_spreads_295 (by decide) ?_
            exact hv_iret C0 w hr hlk (by rw [← he, fx_unf_w pr9 (by rw [na9]; exact c_149)]; exact ⟨_, _, by rw [eV184, eV175, eV167, e8, hv_uu, hv_m1 (a := mo) (b := mo + 4 + j) (by omega)], (if_neg (fun h9 => c_13 h9.2)).symm⟩) dX7_spreads_296
          · skip
            refine lv_aload_n C0.1 C0.2.1 dX7_spreads_153 rfl (lv_at hl 3 rfl) ?_
            refine lv_aload_n C0.1 C0.2.1 dX7_spreads_154 rfl (lv_at hl 3 rfl) ?_
            refine gf_X7_107 C0 w q0 rfl dX7_spreads_155 ?_
            refine lv_aload_n C0.1 C0.2.1 dX7_spreads_158 rfl (lv_at hl 3 rfl) ?_
            refine gf_X7_103 C0 w q0 rfl dX7_spreads_159 ?_
            refine lv_lload C0.1 C0.2.1 dX7_spreads_162 (lv_at hl 0 rfl) ?_
            refine lv_lmul C0.1 C0.2.1 dX7_spreads_164 ?_
            refine lv_lsub C0.1 C0.2.1 dX7_spreads_165 ?_
            refine lv_aload_n C0.1 C0.2.1 dX7_spreads_166 rfl (lv_at hl 3 rfl) ?_
            refine gf_X7_107 C0 w q0 rfl dX7_spreads_167 ?_
            refine hv_cVv C0 w kl_X7_116 kv_X7_lay rfl q0 (c_X7_lay q0 (a := F1.2.1 - (F1.1 * a9)) (b := F1.2.1) (by have h9 := ho9.1; omega) (by have h9 := h1.2.1.2.1; omega)) (by decide) (by decide) rfl hl.1 rfl (Nat.le_of_ble_eq_true rfl) dX7_spreads_170 ⟨Nat.le_refl _, Nat.le_refl _⟩ (fun V192 Hq lq hp193 w => ?_)
            have fm9 : fm (fx_become (F1.2.1 - (F1.1 * a9)) (F1.2.1)) (fl_a (F1.2.1 - (F1.1 * a9)) (F1.2.1)) (fl_b (F1.2.1 - (F1.1 * a9)) (F1.2.1)) := fx_become_ok (by have h9 := ho9.1; omega) (by have h9 := h1.2.1.2.1; omega)
            obtain ⟨ab194, eA9⟩ : ∃ q9, q9 = fl_a (F1.2.1 - (F1.1 * a9)) (F1.2.1) := ⟨_, rfl⟩
            obtain ⟨be195, eB9⟩ : ∃ q9, q9 = fl_b (F1.2.1 - (F1.1 * a9)) (F1.2.1) := ⟨_, rfl⟩
            rw [← eA9, ← eB9] at hp193 fm9
            have hV197 : V192 (mo + 1) = some (.inl (X.2.1 0, 6, .inl ki)) := by rw [hp193, hv_un (by omega)]; exact q1
            have hV198 : V192 (mo + 2) = some (.inl (X.2.1 0, 6, .inl ma)) := by rw [hp193, hv_un (by omega)]; exact q2
            have hV199 : V192 (mo + 3) = some (.inl (X.2.1 6, 6, .inr (.inr (.inr (.inr rf))))) := by rw [hp193, hv_un (by omega)]; exact q3
            have hV200 : V192 (mo + 4 + j) = some (.inl (X.2.1 0, 16, .inl f1)) := by rw [hp193, hv_un (by omega)]; exact q4
            have hV201 : V192 mo = some (.inr (7, [.ref (mo + 1), .ref (mo + 2), .ref (mo + 3), .long ab194, .long be195, .ref (mo + 10), .int (nI tx), .int pl, .int cl, .ref (mo + 11), .ref (mo + 12), .ref (mo + 13), .int sg, .ref (mo + 14), .ref (mo + 15), .ref (mo + 16), .ref (mo + 17), .int (nI se), .ref (mo + 18), .ref (mo + 19), .int (nI ev), .ref (mo + 20), .ref (mo + 21), .ref (mo + 22), .int (nI bk), .int ik, .ref (mo + 23), .ref (mo + 24), .ref (mo + 25), .ref (mo + 26), .ref (mo + 33), .ref (mo + 41), .ref (mo + 42), .ref (mo + 43)])) := by rw [hp193]; exact hv_us
            have eo9 : fx_out (ki j) n a9 F1 = fx_become (F1.2.1 - (F1.1 * a9)) (F1.2.1) := by rw [fx_out, if_neg (by rw [c_41_2]; decide), if_neg (by rw [c_41_2]; decide), if_pos c_41_2]
            have hl9 : ¬ be195 = 0 → fx_lt1 (fx_out (ki j) n a9 F1) ∧ ab194 = (fx_out (ki j) n a9 F1).1 ∧ be195 = (fx_out (ki j) n a9 F1).2.1 := fun h9 => by rw [eo9]; exact fx_lt1_of (ho9).1 (ho9).2 fm9 h9
            rw [← eo9] at fm9
            refine lv_goto (tgt := 217) C0.1 C0.2.1 dX7_spreads_173 (by decide) ?_
            refine lv_lload C0.1 C0.2.1 dX7_spreads_217 (lv_at hl 0 rfl) ?_
            refine lv_ldc2 C0.1 C0.2.1 C0.2.2.2.1 (C0.2.2.2.2.1 _ kk_X7_110) dX7_spreads_219 ?_
            refine hv_lc_gt (tgt := 237) C0.1 C0.2.1 dX7_spreads_222 dX7_spreads_223 (by decide) (fun c_222 => absurd c_222 (c_149)) (fun c_222 => ?_)
            refine lv_aload_n C0.1 C0.2.1 dX7_spreads_226 rfl (lv_at hl 3 rfl) ?_
            refine hv_cVi C0 w kl_X7_112 kv_X7_isThere rfl hV201 (c_X7_isThere hV201) (by decide) (by decide) rfl hl.1 rfl (Nat.le_of_ble_eq_true rfl) dX7_spreads_227 ⟨Nat.le_refl _, Nat.le_refl _⟩ (fun x202 V203 Hq lq hp204 w => ?_)
            obtain ⟨e9, hz9⟩ := hp204
            rw [e9] at w; clear e9
            rcases hz9 with ⟨rfl, hi205⟩ | ⟨rfl, hi205⟩
            · skip
              refine lv_if_eq (tgt := 237) C0.1 C0.2.1 dX7_spreads_230 (by decide) (fun h9 => absurd h9 (by decide)) (fun _ => ?_)
              refine lv_iconst (v := 1) C0.1 C0.2.1 dX7_spreads_233 (by decide) ?_
              refine lv_goto (tgt := 238) C0.1 C0.2.1 dX7_spreads_234 (by decide) ?_
              refine lv_istore_n (lv' := [(3, .int 1), (4, .long a9), (8, .long F1.2.1), (6, .long F1.1), (0, .ref mo), (1, .int (nI j)), (2, .int (nI n))]) C0.1 C0.2.1 dX7_spreads_238 rfl hl (by decide) rfl (fun ls hl => ?_)
              refine lv_iload_n C0.1 C0.2.1 dX7_spreads_239 rfl (lv_at hl 0 rfl) ?_
              refine lv_if_eq (tgt := 260) C0.1 C0.2.1 dX7_spreads_240 (by decide) (fun h9 => absurd h9 (by decide)) (fun _ => ?_)
              refine lv_aload_n C0.1 C0.2.1 dX7_spreads_243 rfl (lv_at hl 4 rfl) ?_
              refine gf_X7_20 C0 w hV201 rfl dX7_spreads_244 ?_
              refine lv_iload_n C0.1 C0.2.1 dX7_spreads_247 rfl (lv_at hl 5 rfl) ?_
              refine hv_aalA 6 rfl C0 w rfl hV199 (hn_in hj (by decide)) (by rw [kj]; exact rj) dX7_spreads_248 ?_
              refine lv_iload_n C0.1 C0.2.1 dX7_spreads_249 rfl (lv_at hl 6 rfl) ?_
              refine lv_lload C0.1 C0.2.1 dX7_spreads_250 (lv_at hl 1 rfl) ?_
              refine lv_l2i (v := a9.toInt32) C0.1 C0.2.1 dX7_spreads_252 rfl ?_
              refine hv_iast C0 w hV200 (hn_in (by omega) (by decide)) dX7_spreads_253 (fun Hq lq w => ?_)
              have hc206 : (nI n).toNatClampNeg = n := nI_clamp (by omega)
              rw [hc206] at w
              obtain ⟨V207, eV208⟩ : ∃ W9, W9 = hv_up V192 (mo + 4 + j) (.inl (X.2.1 0, 16, .inl (upd f1 n (a9.toInt32)))) := ⟨_, rfl⟩
              have w : hv_w X s V207 Hq lq := by rw [eV208]; exact w
              have hV209 : V207 (mo + 1) = some (.inl (X.2.1 0, 6, .inl ki)) := by rw [eV208, hv_un (by omega)]; exact hV197
              have hV210 : V207 (mo + 2) = some (.inl (X.2.1 0, 6, .inl ma)) := by rw [eV208, hv_un (by omega)]; exact hV198
              have hV211 : V207 (mo + 3) = some (.inl (X.2.1 6, 6, .inr (.inr (.inr (.inr rf))))) := by rw [eV208, hv_un (by omega)]; exact hV199
              have hV213 : V207 mo = some (.inr (7, [.ref (mo + 1), .ref (mo + 2), .ref (mo + 3), .long ab194, .long be195, .ref (mo + 10), .int (nI tx), .int pl, .int cl, .ref (mo + 11), .ref (mo + 12), .ref (mo + 13), .int sg, .ref (mo + 14), .ref (mo + 15), .ref (mo + 16), .ref (mo + 17), .int (nI se), .ref (mo + 18), .ref (mo + 19), .int (nI ev), .ref (mo + 20), .ref (mo + 21), .ref (mo + 22), .int (nI bk), .int ik, .ref (mo + 23), .ref (mo + 24), .ref (mo + 25), .ref (mo + 26), .ref (mo + 33), .ref (mo + 41), .ref (mo + 42), .ref (mo + 43)])) := by rw [eV208, hv_un (by omega)]; exact hV201
              have hV214 : V207 (mo + 4 + j) = some (.inl (X.2.1 0, 16, .inl (upd f1 n (a9.toInt32)))) := by rw [eV208]; exact hv_us
              refine lv_iinc (v := (nI n) + 1) (lv' := [(2, .int ((nI n) + 1)), (3, .int 1), (4, .long a9), (8, .long F1.2.1), (6, .long F1.1), (0, .ref mo), (1, .int (nI j))]) C0.1 C0.2.1 dX7_spreads_254 hl (k := 6) rfl rfl (by decide) rfl (fun ls hl => ?_)
              refine lv_goto (tgt := 272) C0.1 C0.2.1 dX7_spreads_257 (by decide) ?_
              refine lv_goto (tgt := 4) C0.1 C0.2.1 dX7_spreads_272 (by decide) ?_
              exact ih (n + 1) (upd f1 n a9.toInt32) (fx_out (ki j) n a9 F1) _ _ ls (by omega) (hl9 hi205).1 (by rw [← he, fx_unf_s pr9 (by rw [na9]; exact c_149) (by rw [na9]; exact fun h9 => hi205 (fm9.no.mpr h9)), na9]) (by rw [eV208, hp193, e8, hv_m1 (a := mo) (b := mo + 4 + j) (by omega), hv_uu, (hl9 hi205).2.1, (hl9 hi205).2.2] at w; exact w) (by have h9 := (lv_sub (l' := [(0, .ref mo), (1, .int (nI j)), (2, .int (nI n + 1)), (3, .int 1)]) hl [5, 6, 0, 1] rfl); rw [nI_1] at h9; exact h9)
            · skip
              have hi205 := Classical.byContradiction hi205
              refine lv_if_eq (tgt := 237) C0.1 C0.2.1 dX7_spreads_230 (by decide) (fun _ => ?_) (fun h9 => absurd h9 (by decide))
              refine lv_iconst (v := 0) C0.1 C0.2.1 dX7_spreads_237 (by decide) ?_
              refine lv_istore_n (lv' := [(3, .int 0), (4, .long a9), (8, .long F1.2.1), (6, .long F1.1), (0, .ref mo), (1, .int (nI j)), (2, .int (nI n))]) C0.1 C0.2.1 dX7_spreads_238 rfl hl (by decide) rfl (fun ls hl => ?_)
              refine lv_iload_n C0.1 C0.2.1 dX7_spreads_239 rfl (lv_at hl 0 rfl) ?_
              refine lv_if_eq (tgt := 260) C0.1 C0.2.1 dX7_spreads_240 (by decide) (fun _ => ?_) (fun h9 => absurd h9 (by decide))
              refine lv_aload_n C0.1 C0.2.1 dX7_spreads_260 rfl (lv_at hl 4 rfl) ?_
              refine lv_lload C0.1 C0.2.1 dX7_spreads_261 (lv_at hl 3 rfl) ?_
              refine pf_X7_103 C0 w hV201 (by simp) dX7_spreads_263 (fun Hq lq w => ?_)
              obtain ⟨V215, eV216⟩ : ∃ W9, W9 = hv_up V192 mo (.inr (7, [.ref (mo + 1), .ref (mo + 2), .ref (mo + 3), .long F1.1, .long be195, .ref (mo + 10), .int (nI tx), .int pl, .int cl, .ref (mo + 11), .ref (mo + 12), .ref (mo + 13), .int sg, .ref (mo + 14), .ref (mo + 15), .ref (mo + 16), .ref (mo + 17), .int (nI se), .ref (mo + 18), .ref (mo + 19), .int (nI ev), .ref (mo + 20), .ref (mo + 21), .ref (mo + 22), .int (nI bk), .int ik, .ref (mo + 23), .ref (mo + 24), .ref (mo + 25), .ref (mo + 26), .ref (mo + 33), .ref (mo + 41), .ref (mo + 42), .ref (mo + 43)])) := ⟨_, rfl⟩
              have w : hv_w X s V215 Hq lq := by rw [eV216]; exact w
              have hV217 : V215 (mo + 1) = some (.inl (X.2.1 0, 6, .inl ki)) := by rw [eV216, hv_un (by omega)]; exact hV197
              have hV218 : V215 (mo + 2) = some (.inl (X.2.1 0, 6, .inl ma)) := by rw [eV216, hv_un (by omega)]; exact hV198
              have hV219 : V215 (mo + 3) = some (.inl (X.2.1 6, 6, .inr (.inr (.inr (.inr rf))))) := by rw [eV216, hv_un (by omega)]; exact hV199
              have hV220 : V215 (mo + 4 + j) = some (.inl (X.2.1 0, 16, .inl f1)) := by rw [eV216, hv_un (by omega)]; exact hV200
              have hV222 : V215 mo = some (.inr (7, [.ref (mo + 1), .ref (mo + 2), .ref (mo + 3), .long F1.1, .long be195, .ref (mo + 10), .int (nI tx), .int pl, .int cl, .ref (mo + 11), .ref (mo + 12), .ref (mo + 13), .int sg, .ref (mo + 14), .ref (mo + 15), .ref (mo + 16), .ref (mo + 17), .int (nI se), .ref (mo + 18), .ref (mo + 19), .int (nI ev), .ref (mo + 20), .ref (mo + 21), .ref (mo + 22), .int (nI bk), .int ik, .ref (mo + 23), .ref (mo + 24), .ref (mo + 25), .ref (mo + 26), .ref (mo + 33), .ref (mo + 41), .ref (mo + 42), .ref (mo + 43)])) := by rw [eV216]; exact hv_us
              refine lv_aload_n C0.1 C0.2.1 dX7_spreads_266 rfl (lv_at hl 4 rfl) ?_
              refine lv_lload C0.1 C0.2.1 dX7_spreads_267 (lv_at hl 2 rfl) ?_
              refine pf_X7_107 C0 w hV222 (by simp) dX7_spreads_269 (fun Hq lq w => ?_)
              obtain ⟨V223, eV224⟩ : ∃ W9, W9 = hv_up V215 mo (.inr (7, [.ref (mo + 1), .ref (mo + 2), .ref (mo + 3), .long F1.1, .long F1.2.1, .ref (mo + 10), .int (nI tx), .int pl, .int cl, .ref (mo + 11), .ref (mo + 12), .ref (mo + 13), .int sg, .ref (mo + 14), .ref (mo + 15), .ref (mo + 16), .ref (mo + 17), .int (nI se), .ref (mo + 18), .ref (mo + 19), .int (nI ev), .ref (mo + 20), .ref (mo + 21), .ref (mo + 22), .int (nI bk), .int ik, .ref (mo + 23), .ref (mo + 24), .ref (mo + 25), .ref (mo + 26), .ref (mo + 33), .ref (mo + 41), .ref (mo + 42), .ref (mo + 43)])) := ⟨_, rfl⟩
              have w : hv_w X s V223 Hq lq := by rw [eV224]; exact w
              have hV225 : V223 (mo + 1) = some (.inl (X.2.1 0, 6, .inl ki)) := by rw [eV224, hv_un (by omega)]; exact hV217
              have hV226 : V223 (mo + 2) = some (.inl (X.2.1 0, 6, .inl ma)) := by rw [eV224, hv_un (by omega)]; exact hV218
              have hV227 : V223 (mo + 3) = some (.inl (X.2.1 6, 6, .inr (.inr (.inr (.inr rf))))) := by rw [eV224, hv_un (by omega)]; exact hV219
              have hV228 : V223 (mo + 4 + j) = some (.inl (X.2.1 0, 16, .inl f1)) := by rw [eV224, hv_un (by omega)]; exact hV220
              have hV230 : V223 mo = some (.inr (7, [.ref (mo + 1), .ref (mo + 2), .ref (mo + 3), .long F1.1, .long F1.2.1, .ref (mo + 10), .int (nI tx), .int pl, .int cl, .ref (mo + 11), .ref (mo + 12), .ref (mo + 13), .int sg, .ref (mo + 14), .ref (mo + 15), .ref (mo + 16), .ref (mo + 17), .int (nI se), .ref (mo + 18), .ref (mo + 19), .int (nI ev), .ref (mo + 20), .ref (mo + 21), .ref (mo + 22), .int (nI bk), .int ik, .ref (mo + 23), .ref (mo + 24), .ref (mo + 25), .ref (mo + 26), .ref (mo + 33), .ref (mo + 41), .ref (mo + 42), .ref (mo + 43)])) := by rw [eV224]; exact hv_us
              refine lv_goto (tgt := 4) C0.1 C0.2.1 dX7_spreads_272 (by decide) ?_
              refine lv_iload_n C0.1 C0.2.1 dX7_spreads_4 rfl (lv_at hl 0 rfl) ?_
              refine lv_if_eq (tgt := 275) C0.1 C0.2.1 dX7_spreads_5 (by decide) (fun _ => ?_) (fun h9 => absurd h9 (by decide))
              refine lv_aload_n C0.1 C0.2.1 dX7_spreads_275 rfl (lv_at hl 4 rfl) ?_
              refine gf_X7_15 C0 w hV230 rfl dX7_spreads_276 ?_
              refine lv_iload_n C0.1 C0.2.1 dX7_spreads_279 rfl (lv_at hl 5 rfl) ?_
              refine lv_iload_n C0.1 C0.2.1 dX7_spreads_280 rfl (lv_at hl 6 rfl) ?_
              refine hv_iast C0 w hV226 (hn_in hj (by decide)) dX7_spreads_281 (fun Hq lq w => ?_)
              have hc231 : (nI j).toNatClampNeg = j := nI_clamp (by omega)
              rw [hc231] at w
              obtain ⟨V232, eV233⟩ : ∃ W9, W9 = hv_up V223 (mo + 2) (.inl (X.2.1 0, 6, .inl (upd ma j (nI n)))) := ⟨_, rfl⟩
              have w : hv_w X s V232 Hq lq := by rw [eV233]; exact w
              have hV234 : V232 (mo + 1) = some (.inl (X.2.1 0, 6, .inl ki)) := by rw [eV233, hv_un (by omega)]; exact hV225
              have hV236 : V232 (mo + 3) = some (.inl (X.2.1 6, 6, .inr (.inr (.inr (.inr rf))))) := by rw [eV233, hv_un (by omega)]; exact hV227
              have hV237 : V232 (mo + 4 + j) = some (.inl (X.2.1 0, 16, .inl f1)) := by rw [eV233, hv_un (by omega)]; exact hV228
              have hV238 : V232 mo = some (.inr (7, [.ref (mo + 1), .ref (mo + 2), .ref (mo + 3), .long F1.1, .long F1.2.1, .ref (mo + 10), .int (nI tx), .int pl, .int cl, .ref (mo + 11), .ref (mo + 12), .ref (mo + 13), .int sg, .ref (mo + 14), .ref (mo + 15), .ref (mo + 16), .ref (mo + 17), .int (nI se), .ref (mo + 18), .ref (mo + 19), .int (nI ev), .ref (mo + 20), .ref (mo + 21), .ref (mo + 22), .int (nI bk), .int ik, .ref (mo + 23), .ref (mo + 24), .ref (mo + 25), .ref (mo + 26), .ref (mo + 33), .ref (mo + 41), .ref (mo + 42), .ref (mo + 43)])) := by rw [eV233, hv_un (by omega)]; exact hV230
              have hV239 : V232 (mo + 2) = some (.inl (X.2.1 0, 6, .inl (upd ma j (nI n)))) := by rw [eV233]; exact hv_us
              refine lv_aload_n C0.1 C0.2.1 dX7_spreads_282 rfl (lv_at hl 4 rfl) ?_
              refine gf_X7_103 C0 w hV238 rfl dX7_spreads_283 ?_
              refine lv_lconst (v := 0) C0.1 C0.2.1 dX7_spreads_286 (by decide) ?_
              refine hv_lc_ne (tgt := 295) C0.1 C0.2.1 dX7_spreads_287 dX7_spreads_288 (by decide) (fun c_287 => ?_) (fun c_287 => absurd c_287 (c_13))
              refine lv_iconst (v := 0) C0.1 C0.2.1 dX7_spreads_295 (by decide) ?_
              exact hv_iret C0 w hr hlk (by rw [← he, fx_unf_n pr9 (by rw [na9]; exact c_149) (by rw [na9]; exact fm9.no.mp hi205)]; exact ⟨_, _, by rw [eV233, eV224, eV216, hp193, e8, hv_uu, hv_uu, hv_m1 (a := mo) (b := mo + 4 + j) (by omega)], (if_neg (fun h9 => h9.1 (by rw [na9]; exact fm9.no.mp hi205))).symm⟩) dX7_spreads_296
        have tc_41_0 : (ki j).toInt ≠ 0 := fun h9 => c_41_0 (Int32.toInt_inj.mp (h9.trans (by decide)))
        have tc_41_1 : (ki j).toInt ≠ 1 := fun h9 => c_41_1 (Int32.toInt_inj.mp (h9.trans (by decide)))
        have tc_41_2 : (ki j).toInt ≠ 2 := fun h9 => c_41_2 (Int32.toInt_inj.mp (h9.trans (by decide)))
        refine lv_tableOut (tgt := 176) C0.1 C0.2.1 dX7_spreads_41 (by omega) (by decide) ?_
        refine lv_aload_n C0.1 C0.2.1 dX7_spreads_176 rfl (lv_at hl 2 rfl) ?_
        refine gf_X7_103 C0 w q0 rfl dX7_spreads_177 ?_
        refine lv_iload_n C0.1 C0.2.1 dX7_spreads_180 rfl (lv_at hl 4 rfl) ?_
        refine lv_iconst (v := 2) C0.1 C0.2.1 dX7_spreads_181 (by decide) ?_
        refine lv_iadd C0.1 C0.2.1 dX7_spreads_182 ?_
        refine lv_i2l (v := ((nI n) + 2).toInt64) C0.1 C0.2.1 dX7_spreads_183 rfl ?_
        refine lv_lmul C0.1 C0.2.1 dX7_spreads_184 ?_
        refine lv_aload_n C0.1 C0.2.1 dX7_spreads_185 rfl (lv_at hl 2 rfl) ?_
        refine gf_X7_107 C0 w q0 rfl dX7_spreads_186 ?_
        refine lv_ldiv C0.1 C0.2.1 dX7_spreads_189 (fun h9 => by have h8 := h1.2.1.2.1; rw [h9, i64_0] at h8; omega) ?_
        have na9 : fx_next (ki j) n F1 = F1.1 * (nI n + 2).toInt64 / F1.2.1 := by rw [fx_next, if_neg (fun h9 => h9.elim c_41_0 c_41_1), if_neg c_41_2, if_pos low9]
        have ho9 := fx_o3 h1 (n := n) (by omega)
        obtain ⟨a9, ea9⟩ : ∃ a9, a9 = F1.1 * (nI n + 2).toInt64 / F1.2.1 := ⟨_, rfl⟩
        rw [← ea9]
        rw [← ea9] at na9 ho9
        refine lv_lstore (lv' := [(4, .long a9), (8, .long F1.2.1), (6, .long F1.1), (0, .ref mo), (1, .int (nI j)), (2, .int (nI n)), (3, .int 1)]) C0.1 C0.2.1 dX7_spreads_190 hl (by decide) rfl (fun ls hl => ?_)
        refine lv_aload_n C0.1 C0.2.1 dX7_spreads_192 rfl (lv_at hl 3 rfl) ?_
        refine lv_aload_n C0.1 C0.2.1 dX7_spreads_193 rfl (lv_at hl 3 rfl) ?_
        refine gf_X7_103 C0 w q0 rfl dX7_spreads_194 ?_
        refine lv_iload_n C0.1 C0.2.1 dX7_spreads_197 rfl (lv_at hl 5 rfl) ?_
        refine lv_iconst (v := 2) C0.1 C0.2.1 dX7_spreads_198 (by decide) ?_
        refine lv_iadd C0.1 C0.2.1 dX7_spreads_199 ?_
        refine lv_i2l (v := ((nI n) + 2).toInt64) C0.1 C0.2.1 dX7_spreads_200 rfl ?_
        refine lv_lmul C0.1 C0.2.1 dX7_spreads_201 ?_
        refine lv_lload C0.1 C0.2.1 dX7_spreads_202 (lv_at hl 0 rfl) ?_
        refine lv_aload_n C0.1 C0.2.1 dX7_spreads_204 rfl (lv_at hl 3 rfl) ?_
        refine gf_X7_107 C0 w q0 rfl dX7_spreads_205 ?_
        refine lv_lmul C0.1 C0.2.1 dX7_spreads_208 ?_
        refine lv_lsub C0.1 C0.2.1 dX7_spreads_209 ?_
        refine lv_aload_n C0.1 C0.2.1 dX7_spreads_210 rfl (lv_at hl 3 rfl) ?_
        refine gf_X7_107 C0 w q0 rfl dX7_spreads_211 ?_
        refine hv_cVv C0 w kl_X7_116 kv_X7_lay rfl q0 (c_X7_lay q0 (a := (F1.1 * (((nI n) + 2).toInt64)) - (a9 * F1.2.1)) (b := F1.2.1) (by have h9 := ho9.1.1; omega) (by have h9 := h1.2.1.2.1; omega)) (by decide) (by decide) rfl hl.1 rfl (Nat.le_of_ble_eq_true rfl) dX7_spreads_214 ⟨Nat.le_refl _, Nat.le_refl _⟩ (fun V241 Hq lq hp242 w => ?_)
        have fm9 : fm (fx_become ((F1.1 * (((nI n) + 2).toInt64)) - (a9 * F1.2.1)) (F1.2.1)) (fl_a ((F1.1 * (((nI n) + 2).toInt64)) - (a9 * F1.2.1)) (F1.2.1)) (fl_b ((F1.1 * (((nI n) + 2).toInt64)) - (a9 * F1.2.1)) (F1.2.1)) := fx_become_ok (by have h9 := ho9.1.1; omega) (by have h9 := h1.2.1.2.1; omega)
        obtain ⟨ab243, eA9⟩ : ∃ q9, q9 = fl_a ((F1.1 * (((nI n) + 2).toInt64)) - (a9 * F1.2.1)) (F1.2.1) := ⟨_, rfl⟩
        obtain ⟨be244, eB9⟩ : ∃ q9, q9 = fl_b ((F1.1 * (((nI n) + 2).toInt64)) - (a9 * F1.2.1)) (F1.2.1) := ⟨_, rfl⟩
        rw [← eA9, ← eB9] at hp242 fm9
        have hV246 : V241 (mo + 1) = some (.inl (X.2.1 0, 6, .inl ki)) := by rw [hp242, hv_un (by omega)]; exact q1
        have hV247 : V241 (mo + 2) = some (.inl (X.2.1 0, 6, .inl ma)) := by rw [hp242, hv_un (by omega)]; exact q2
        have hV248 : V241 (mo + 3) = some (.inl (X.2.1 6, 6, .inr (.inr (.inr (.inr rf))))) := by rw [hp242, hv_un (by omega)]; exact q3
        have hV249 : V241 (mo + 4 + j) = some (.inl (X.2.1 0, 16, .inl f1)) := by rw [hp242, hv_un (by omega)]; exact q4
        have hV250 : V241 mo = some (.inr (7, [.ref (mo + 1), .ref (mo + 2), .ref (mo + 3), .long ab243, .long be244, .ref (mo + 10), .int (nI tx), .int pl, .int cl, .ref (mo + 11), .ref (mo + 12), .ref (mo + 13), .int sg, .ref (mo + 14), .ref (mo + 15), .ref (mo + 16), .ref (mo + 17), .int (nI se), .ref (mo + 18), .ref (mo + 19), .int (nI ev), .ref (mo + 20), .ref (mo + 21), .ref (mo + 22), .int (nI bk), .int ik, .ref (mo + 23), .ref (mo + 24), .ref (mo + 25), .ref (mo + 26), .ref (mo + 33), .ref (mo + 41), .ref (mo + 42), .ref (mo + 43)])) := by rw [hp242]; exact hv_us
        have eo9 : fx_out (ki j) n a9 F1 = fx_become ((F1.1 * (((nI n) + 2).toInt64)) - (a9 * F1.2.1)) (F1.2.1) := by rw [fx_out, if_neg c_41_0, if_neg c_41_1, if_neg c_41_2]
        have hl9 : ¬ be244 = 0 → fx_lt1 (fx_out (ki j) n a9 F1) ∧ ab243 = (fx_out (ki j) n a9 F1).1 ∧ be244 = (fx_out (ki j) n a9 F1).2.1 := fun h9 => by rw [eo9]; exact fx_lt1_of (ho9.1).1 (ho9.1).2 fm9 h9
        rw [← eo9] at fm9
        refine lv_lload C0.1 C0.2.1 dX7_spreads_217 (lv_at hl 0 rfl) ?_
        refine lv_ldc2 C0.1 C0.2.1 C0.2.2.2.1 (C0.2.2.2.2.1 _ kk_X7_110) dX7_spreads_219 ?_
        refine hv_lc_gt (tgt := 237) C0.1 C0.2.1 dX7_spreads_222 dX7_spreads_223 (by decide) (fun c_222 => absurd c_222 (ho9.2)) (fun c_222 => ?_)
        refine lv_aload_n C0.1 C0.2.1 dX7_spreads_226 rfl (lv_at hl 3 rfl) ?_
        refine hv_cVi C0 w kl_X7_112 kv_X7_isThere rfl hV250 (c_X7_isThere hV250) (by decide) (by decide) rfl hl.1 rfl (Nat.le_of_ble_eq_true rfl) dX7_spreads_227 ⟨Nat.le_refl _, Nat.le_refl _⟩ (fun x251 V252 Hq lq hp253 w => ?_)
        obtain ⟨e9, hz9⟩ := hp253
        rw [e9] at w; clear e9
        rcases hz9 with ⟨rfl, hi254⟩ | ⟨rfl, hi254⟩
        · skip
          refine lv_if_eq (tgt := 237) C0.1 C0.2.1 dX7_spreads_230 (by decide) (fun h9 => absurd h9 (by decide)) (fun _ => ?_)
          refine lv_iconst (v := 1) C0.1 C0.2.1 dX7_spreads_233 (by decide) ?_
          refine lv_goto (tgt := 238) C0.1 C0.2.1 dX7_spreads_234 (by decide) ?_
          refine lv_istore_n (lv' := [(3, .int 1), (4, .long a9), (8, .long F1.2.1), (6, .long F1.1), (0, .ref mo), (1, .int (nI j)), (2, .int (nI n))]) C0.1 C0.2.1 dX7_spreads_238 rfl hl (by decide) rfl (fun ls hl => ?_)
          refine lv_iload_n C0.1 C0.2.1 dX7_spreads_239 rfl (lv_at hl 0 rfl) ?_
          refine lv_if_eq (tgt := 260) C0.1 C0.2.1 dX7_spreads_240 (by decide) (fun h9 => absurd h9 (by decide)) (fun _ => ?_)
          refine lv_aload_n C0.1 C0.2.1 dX7_spreads_243 rfl (lv_at hl 4 rfl) ?_
          refine gf_X7_20 C0 w hV250 rfl dX7_spreads_244 ?_
          refine lv_iload_n C0.1 C0.2.1 dX7_spreads_247 rfl (lv_at hl 5 rfl) ?_
          refine hv_aalA 6 rfl C0 w rfl hV248 (hn_in hj (by decide)) (by rw [kj]; exact rj) dX7_spreads_248 ?_
          refine lv_iload_n C0.1 C0.2.1 dX7_spreads_249 rfl (lv_at hl 6 rfl) ?_
          refine lv_lload C0.1 C0.2.1 dX7_spreads_250 (lv_at hl 1 rfl) ?_
          refine lv_l2i (v := a9.toInt32) C0.1 C0.2.1 dX7_spreads_252 rfl ?_
          refine hv_iast C0 w hV249 (hn_in (by omega) (by decide)) dX7_spreads_253 (fun Hq lq w => ?_)
          have hc255 : (nI n).toNatClampNeg = n := nI_clamp (by omega)
          rw [hc255] at w
          obtain ⟨V256, eV257⟩ : ∃ W9, W9 = hv_up V241 (mo + 4 + j) (.inl (X.2.1 0, 16, .inl (upd f1 n (a9.toInt32)))) := ⟨_, rfl⟩
          have w : hv_w X s V256 Hq lq := by rw [eV257]; exact w
          have hV258 : V256 (mo + 1) = some (.inl (X.2.1 0, 6, .inl ki)) := by rw [eV257, hv_un (by omega)]; exact hV246
          have hV259 : V256 (mo + 2) = some (.inl (X.2.1 0, 6, .inl ma)) := by rw [eV257, hv_un (by omega)]; exact hV247
          have hV260 : V256 (mo + 3) = some (.inl (X.2.1 6, 6, .inr (.inr (.inr (.inr rf))))) := by rw [eV257, hv_un (by omega)]; exact hV248
          have hV262 : V256 mo = some (.inr (7, [.ref (mo + 1), .ref (mo + 2), .ref (mo + 3), .long ab243, .long be244, .ref (mo + 10), .int (nI tx), .int pl, .int cl, .ref (mo + 11), .ref (mo + 12), .ref (mo + 13), .int sg, .ref (mo + 14), .ref (mo + 15), .ref (mo + 16), .ref (mo + 17), .int (nI se), .ref (mo + 18), .ref (mo + 19), .int (nI ev), .ref (mo + 20), .ref (mo + 21), .ref (mo + 22), .int (nI bk), .int ik, .ref (mo + 23), .ref (mo + 24), .ref (mo + 25), .ref (mo + 26), .ref (mo + 33), .ref (mo + 41), .ref (mo + 42), .ref (mo + 43)])) := by rw [eV257, hv_un (by omega)]; exact hV250
          have hV263 : V256 (mo + 4 + j) = some (.inl (X.2.1 0, 16, .inl (upd f1 n (a9.toInt32)))) := by rw [eV257]; exact hv_us
          refine lv_iinc (v := (nI n) + 1) (lv' := [(2, .int ((nI n) + 1)), (3, .int 1), (4, .long a9), (8, .long F1.2.1), (6, .long F1.1), (0, .ref mo), (1, .int (nI j))]) C0.1 C0.2.1 dX7_spreads_254 hl (k := 6) rfl rfl (by decide) rfl (fun ls hl => ?_)
          refine lv_goto (tgt := 272) C0.1 C0.2.1 dX7_spreads_257 (by decide) ?_
          refine lv_goto (tgt := 4) C0.1 C0.2.1 dX7_spreads_272 (by decide) ?_
          exact ih (n + 1) (upd f1 n a9.toInt32) (fx_out (ki j) n a9 F1) _ _ ls (by omega) (hl9 hi254).1 (by rw [← he, fx_unf_s pr9 (by rw [na9]; exact ho9.2) (by rw [na9]; exact fun h9 => hi254 (fm9.no.mpr h9)), na9]) (by rw [eV257, hp242, e8, hv_m1 (a := mo) (b := mo + 4 + j) (by omega), hv_uu, (hl9 hi254).2.1, (hl9 hi254).2.2] at w; exact w) (by have h9 := (lv_sub (l' := [(0, .ref mo), (1, .int (nI j)), (2, .int (nI n + 1)), (3, .int 1)]) hl [5, 6, 0, 1] rfl); rw [nI_1] at h9; exact h9)
        · skip
          have hi254 := Classical.byContradiction hi254
          refine lv_if_eq (tgt := 237) C0.1 C0.2.1 dX7_spreads_230 (by decide) (fun _ => ?_) (fun h9 => absurd h9 (by decide))
          refine lv_iconst (v := 0) C0.1 C0.2.1 dX7_spreads_237 (by decide) ?_
          refine lv_istore_n (lv' := [(3, .int 0), (4, .long a9), (8, .long F1.2.1), (6, .long F1.1), (0, .ref mo), (1, .int (nI j)), (2, .int (nI n))]) C0.1 C0.2.1 dX7_spreads_238 rfl hl (by decide) rfl (fun ls hl => ?_)
          refine lv_iload_n C0.1 C0.2.1 dX7_spreads_239 rfl (lv_at hl 0 rfl) ?_
          refine lv_if_eq (tgt := 260) C0.1 C0.2.1 dX7_spreads_240 (by decide) (fun _ => ?_) (fun h9 => absurd h9 (by decide))
          refine lv_aload_n C0.1 C0.2.1 dX7_spreads_260 rfl (lv_at hl 4 rfl) ?_
          refine lv_lload C0.1 C0.2.1 dX7_spreads_261 (lv_at hl 3 rfl) ?_
          refine pf_X7_103 C0 w hV250 (by simp) dX7_spreads_263 (fun Hq lq w => ?_)
          obtain ⟨V264, eV265⟩ : ∃ W9, W9 = hv_up V241 mo (.inr (7, [.ref (mo + 1), .ref (mo + 2), .ref (mo + 3), .long F1.1, .long be244, .ref (mo + 10), .int (nI tx), .int pl, .int cl, .ref (mo + 11), .ref (mo + 12), .ref (mo + 13), .int sg, .ref (mo + 14), .ref (mo + 15), .ref (mo + 16), .ref (mo + 17), .int (nI se), .ref (mo + 18), .ref (mo + 19), .int (nI ev), .ref (mo + 20), .ref (mo + 21), .ref (mo + 22), .int (nI bk), .int ik, .ref (mo + 23), .ref (mo + 24), .ref (mo + 25), .ref (mo + 26), .ref (mo + 33), .ref (mo + 41), .ref (mo + 42), .ref (mo + 43)])) := ⟨_, rfl⟩
          have w : hv_w X s V264 Hq lq := by rw [eV265]; exact w
          have hV266 : V264 (mo + 1) = some (.inl (X.2.1 0, 6, .inl ki)) := by rw [eV265, hv_un (by omega)]; exact hV246
          have hV267 : V264 (mo + 2) = some (.inl (X.2.1 0, 6, .inl ma)) := by rw [eV265, hv_un (by omega)]; exact hV247
          have hV268 : V264 (mo + 3) = some (.inl (X.2.1 6, 6, .inr (.inr (.inr (.inr rf))))) := by rw [eV265, hv_un (by omega)]; exact hV248
          have hV269 : V264 (mo + 4 + j) = some (.inl (X.2.1 0, 16, .inl f1)) := by rw [eV265, hv_un (by omega)]; exact hV249
          have hV271 : V264 mo = some (.inr (7, [.ref (mo + 1), .ref (mo + 2), .ref (mo + 3), .long F1.1, .long be244, .ref (mo + 10), .int (nI tx), .int pl, .int cl, .ref (mo + 11), .ref (mo + 12), .ref (mo + 13), .int sg, .ref (mo + 14), .ref (mo + 15), .ref (mo + 16), .ref (mo + 17), .int (nI se), .ref (mo + 18), .ref (mo + 19), .int (nI ev), .ref (mo + 20), .ref (mo + 21), .ref (mo + 22), .int (nI bk), .int ik, .ref (mo + 23), .ref (mo + 24), .ref (mo + 25), .ref (mo + 26), .ref (mo + 33), .ref (mo + 41), .ref (mo + 42), .ref (mo + 43)])) := by rw [eV265]; exact hv_us
          refine lv_aload_n C0.1 C0.2.1 dX7_spreads_266 rfl (lv_at hl 4 rfl) ?_
          refine lv_lload C0.1 C0.2.1 dX7_spreads_267 (lv_at hl 2 rfl) ?_
          refine pf_X7_107 C0 w hV271 (by simp) dX7_spreads_269 (fun Hq lq w => ?_)
          obtain ⟨V272, eV273⟩ : ∃ W9, W9 = hv_up V264 mo (.inr (7, [.ref (mo + 1), .ref (mo + 2), .ref (mo + 3), .long F1.1, .long F1.2.1, .ref (mo + 10), .int (nI tx), .int pl, .int cl, .ref (mo + 11), .ref (mo + 12), .ref (mo + 13), .int sg, .ref (mo + 14), .ref (mo + 15), .ref (mo + 16), .ref (mo + 17), .int (nI se), .ref (mo + 18), .ref (mo + 19), .int (nI ev), .ref (mo + 20), .ref (mo + 21), .ref (mo + 22), .int (nI bk), .int ik, .ref (mo + 23), .ref (mo + 24), .ref (mo + 25), .ref (mo + 26), .ref (mo + 33), .ref (mo + 41), .ref (mo + 42), .ref (mo + 43)])) := ⟨_, rfl⟩
          have w : hv_w X s V272 Hq lq := by rw [eV273]; exact w
          have hV274 : V272 (mo + 1) = some (.inl (X.2.1 0, 6, .inl ki)) := by rw [eV273, hv_un (by omega)]; exact hV266
          have hV275 : V272 (mo + 2) = some (.inl (X.2.1 0, 6, .inl ma)) := by rw [eV273, hv_un (by omega)]; exact hV267
          have hV276 : V272 (mo + 3) = some (.inl (X.2.1 6, 6, .inr (.inr (.inr (.inr rf))))) := by rw [eV273, hv_un (by omega)]; exact hV268
          have hV277 : V272 (mo + 4 + j) = some (.inl (X.2.1 0, 16, .inl f1)) := by rw [eV273, hv_un (by omega)]; exact hV269
          have hV279 : V272 mo = some (.inr (7, [.ref (mo + 1), .ref (mo + 2), .ref (mo + 3), .long F1.1, .long F1.2.1, .ref (mo + 10), .int (nI tx), .int pl, .int cl, .ref (mo + 11), .ref (mo + 12), .ref (mo + 13), .int sg, .ref (mo + 14), .ref (mo + 15), .ref (mo + 16), .ref (mo + 17), .int (nI se), .ref (mo + 18), .ref (mo + 19), .int (nI ev), .ref (mo + 20), .ref (mo + 21), .ref (mo + 22), .int (nI bk), .int ik, .ref (mo + 23), .ref (mo + 24), .ref (mo + 25), .ref (mo + 26), .ref (mo + 33), .ref (mo + 41), .ref (mo + 42), .ref (mo + 43)])) := by rw [eV273]; exact hv_us
          refine lv_goto (tgt := 4) C0.1 C0.2.1 dX7_spreads_272 (by decide) ?_
          refine lv_iload_n C0.1 C0.2.1 dX7_spreads_4 rfl (lv_at hl 0 rfl) ?_
          refine lv_if_eq (tgt := 275) C0.1 C0.2.1 dX7_spreads_5 (by decide) (fun _ => ?_) (fun h9 => absurd h9 (by decide))
          refine lv_aload_n C0.1 C0.2.1 dX7_spreads_275 rfl (lv_at hl 4 rfl) ?_
          refine gf_X7_15 C0 w hV279 rfl dX7_spreads_276 ?_
          refine lv_iload_n C0.1 C0.2.1 dX7_spreads_279 rfl (lv_at hl 5 rfl) ?_
          refine lv_iload_n C0.1 C0.2.1 dX7_spreads_280 rfl (lv_at hl 6 rfl) ?_
          refine hv_iast C0 w hV275 (hn_in hj (by decide)) dX7_spreads_281 (fun Hq lq w => ?_)
          have hc280 : (nI j).toNatClampNeg = j := nI_clamp (by omega)
          rw [hc280] at w
          obtain ⟨V281, eV282⟩ : ∃ W9, W9 = hv_up V272 (mo + 2) (.inl (X.2.1 0, 6, .inl (upd ma j (nI n)))) := ⟨_, rfl⟩
          have w : hv_w X s V281 Hq lq := by rw [eV282]; exact w
          have hV283 : V281 (mo + 1) = some (.inl (X.2.1 0, 6, .inl ki)) := by rw [eV282, hv_un (by omega)]; exact hV274
          have hV285 : V281 (mo + 3) = some (.inl (X.2.1 6, 6, .inr (.inr (.inr (.inr rf))))) := by rw [eV282, hv_un (by omega)]; exact hV276
          have hV286 : V281 (mo + 4 + j) = some (.inl (X.2.1 0, 16, .inl f1)) := by rw [eV282, hv_un (by omega)]; exact hV277
          have hV287 : V281 mo = some (.inr (7, [.ref (mo + 1), .ref (mo + 2), .ref (mo + 3), .long F1.1, .long F1.2.1, .ref (mo + 10), .int (nI tx), .int pl, .int cl, .ref (mo + 11), .ref (mo + 12), .ref (mo + 13), .int sg, .ref (mo + 14), .ref (mo + 15), .ref (mo + 16), .ref (mo + 17), .int (nI se), .ref (mo + 18), .ref (mo + 19), .int (nI ev), .ref (mo + 20), .ref (mo + 21), .ref (mo + 22), .int (nI bk), .int ik, .ref (mo + 23), .ref (mo + 24), .ref (mo + 25), .ref (mo + 26), .ref (mo + 33), .ref (mo + 41), .ref (mo + 42), .ref (mo + 43)])) := by rw [eV282, hv_un (by omega)]; exact hV279
          have hV288 : V281 (mo + 2) = some (.inl (X.2.1 0, 6, .inl (upd ma j (nI n)))) := by rw [eV282]; exact hv_us
          refine lv_aload_n C0.1 C0.2.1 dX7_spreads_282 rfl (lv_at hl 4 rfl) ?_
          refine gf_X7_103 C0 w hV287 rfl dX7_spreads_283 ?_
          refine lv_lconst (v := 0) C0.1 C0.2.1 dX7_spreads_286 (by decide) ?_
          refine hv_lc_ne (tgt := 295) C0.1 C0.2.1 dX7_spreads_287 dX7_spreads_288 (by decide) (fun c_287 => ?_) (fun c_287 => absurd c_287 (c_13))
          refine lv_iconst (v := 0) C0.1 C0.2.1 dX7_spreads_295 (by decide) ?_
          exact hv_iret C0 w hr hlk (by rw [← he, fx_unf_n pr9 (by rw [na9]; exact ho9.2) (by rw [na9]; exact fm9.no.mp hi254)]; exact ⟨_, _, by rw [eV282, eV273, eV265, hp242, e8, hv_uu, hv_uu, hv_m1 (a := mo) (b := mo + 4 + j) (by omega)], (if_neg (fun h9 => h9.1 (by rw [na9]; exact fm9.no.mp hi254))).symm⟩) dX7_spreads_296
  refine lv_iconst (v := 0) C0.1 C0.2.1 dX7_spreads_0 (by decide) ?_
  refine lv_istore_n (lv' := [(2, .int 0), (0, .ref mo), (1, .int (nI j))]) C0.1 C0.2.1 dX7_spreads_1 rfl hl (by decide) rfl (fun ls hl => ?_)
  refine lv_iconst (v := 1) C0.1 C0.2.1 dX7_spreads_2 (by decide) ?_
  refine lv_istore_n (lv' := [(3, .int 1), (2, .int 0), (0, .ref mo), (1, .int (nI j))]) C0.1 C0.2.1 dX7_spreads_3 rfl hl (by decide) rfl (fun ls hl => ?_)
  exact loop 16 0 f F _ _ ls rfl hF rfl (by rw [← ea, ← eb, hv_id hO, hv_id hN]; exact w) (lv_sub hl [2, 3, 1, 0] rfl)

