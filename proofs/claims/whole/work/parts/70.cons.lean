/-! CONSTRUCTORS -/
set_option maxHeartbeats 8000000 in
set_option maxRecDepth 100000 in
theorem n_X0_init {l : Launch} {X : hv_X} {V : hv_V} {o : Nat} (hA : ∀ q, o < q → X.2.2.1 q) (hO : V o = some (.inr (0, [.long 0, .long 0, .int 0]))) : hv_Mc l X 1 yX0_init cX0_init 1 (o + 1) 0 0 V [.ref o] (fun V1 => V1 o = some (fE (0, 1, 1)) ∧ ∀ q : Nat, q < o → V1 q = V q) := by
  refine hv_enterC (by decide) (Nat.le_of_ble_eq_true rfl) ?_
  intro p e s m below meth c ls C0 hOO hz0 hr hlk hnm w hl
  have hAA : ∀ q, s.heap.size ≤ q → X.2.2.1 q := fun q h => hA q (by omega)
  have hl : lv_has ls 1 [(0, .ref o)] := hl
  refine lv_aload_n C0.1 C0.2.1 dX0_init_0 rfl (lv_at hl 0 rfl) ?_
  refine hv_objI C0 ko_X0 hl.1 dX0_init_1 (by decide) ?_
  refine lv_aload_n C0.1 C0.2.1 dX0_init_4 rfl (lv_at hl 0 rfl) ?_
  refine lv_lconst (v := 1) C0.1 C0.2.1 dX0_init_5 (by decide) ?_
  refine pf_X0_9 C0 w hO (by simp) dX0_init_6 (fun Hq lq w => ?_)
  obtain ⟨V1, eV2⟩ : ∃ W9, W9 = hv_up V o (.inr (0, [.long 0, .long 1, .int 0])) := ⟨_, rfl⟩
  have w : hv_w X s V1 Hq lq := by rw [eV2]; exact w
  have fr3 : ∀ q : Nat, q ≠ o → V1 q = V q := fun q h => by rw [eV2]; exact hv_un h
  have hV4 : V1 o = some (.inr (0, [.long 0, .long 1, .int 0])) := by rw [eV2]; exact hv_us
  refine lv_aload_n C0.1 C0.2.1 dX0_init_9 rfl (lv_at hl 0 rfl) ?_
  refine lv_iconst (v := 1) C0.1 C0.2.1 dX0_init_10 (by decide) ?_
  refine pf_X0_15 C0 w hV4 (by simp) (by decide) (by decide) dX0_init_11 (fun Hq lq w => ?_)
  obtain ⟨V5, eV6⟩ : ∃ W9, W9 = hv_up V1 o (.inr (0, [.long 0, .long 1, .int 1])) := ⟨_, rfl⟩
  have w : hv_w X s V5 Hq lq := by rw [eV6]; exact w
  have fr7 : ∀ q : Nat, q ≠ o → V5 q = V1 q := fun q h => by rw [eV6]; exact hv_un h
  have hV8 : V5 o = some (.inr (0, [.long 0, .long 1, .int 1])) := by rw [eV6]; exact hv_us
  refine hw_sz (fun hzz => ?_)
  exact hv_vretC (k := 0) C0 w hr hlk (by have h7 := w.2.1; omega) (⟨hV8, (fun q hq => ((fr7 q (by omega)).trans (fr3 q (by omega))))⟩) dX0_init_14

set_option maxHeartbeats 8000000 in
set_option maxRecDepth 100000 in
theorem n_X3_init {l : Launch} {X : hv_X} {V : hv_V} {o : Nat} (hA : ∀ q, o < q → X.2.2.1 q) (hO : V o = some (.inr (3, [.int 0, .int 0, .null]))) : hv_Mc l X 1 yX3_init cX3_init 1 (o + 1) 1 16 V [.ref o] (fun V1 => ok_row X V1 o 0 0 (fun _ => 0) ∧ ∀ q : Nat, q < o → V1 q = V q) := by
  refine hv_enterC (by decide) (Nat.le_of_ble_eq_true rfl) ?_
  intro p e s m below meth c ls C0 hOO hz0 hr hlk hnm w hl
  have hAA : ∀ q, s.heap.size ≤ q → X.2.2.1 q := fun q h => hA q (by omega)
  have hl : lv_has ls 1 [(0, .ref o)] := hl
  refine lv_aload_n C0.1 C0.2.1 dX3_init_0 rfl (lv_at hl 0 rfl) ?_
  refine hv_objI C0 ko_X3 hl.1 dX3_init_1 (by decide) ?_
  refine lv_aload_n C0.1 C0.2.1 dX3_init_4 rfl (lv_at hl 0 rfl) ?_
  refine lv_bipush (v := 16) C0.1 C0.2.1 dX3_init_5 (by decide) ?_
  refine hw_sz (fun hzz => ?_)
  refine hv_newa (atype := .int) 0 C0 w hAA ka_int rfl (N := 16) (a0 := (16, .inl (fun _ => 0))) (fun _ => rfl) (by decide) (by decide) (by decide) (Nat.le_of_ble_eq_true rfl) (Nat.le_of_ble_eq_true rfl) (sz := o + 1) (by have h7 := w.2.1; omega) dX3_init_7 (fun Hq w _ => ?_)
  refine W.widen (k := 1) (n := 16) (Nat.le_of_ble_eq_true rfl) (Nat.le_of_ble_eq_true rfl) ?_
  obtain ⟨V1, eV2⟩ : ∃ W9, W9 = hv_up V (o + 1) (.inl (X.2.1 0, 16, .inl (fun _ => 0))) := ⟨_, rfl⟩
  rw [← eV2] at w
  have hN3 : V1 (o + 1) = some (.inl (X.2.1 0, 16, .inl (fun _ => 0))) := by rw [eV2]; exact hv_us
  have fr4 : ∀ q : Nat, q ≠ o + 1 → V1 q = V q := fun q h => by rw [eV2]; exact hv_un h
  have hV5 : V1 o = some (.inr (3, [.int 0, .int 0, .null])) := (fr4 _ (by omega)).trans hO
  refine hv_putF C0 hnm w kc_X3 2 (by decide) rfl rfl hq_80 rfl hV5 rfl rfl (by simp) dX3_init_9 (fun Hq lq w => ?_)
  obtain ⟨V6, eV7⟩ : ∃ W9, W9 = hv_up V1 o (.inr (3, [.int 0, .int 0, .ref (o + 1)])) := ⟨_, rfl⟩
  have w : hv_w X s V6 Hq lq := by rw [eV7]; exact w
  have fr8 : ∀ q : Nat, q ≠ o → V6 q = V1 q := fun q h => by rw [eV7]; exact hv_un h
  have hV9 : V6 (o + 1) = some (.inl (X.2.1 0, 16, .inl (fun _ => 0))) := (fr8 _ (by omega)).trans hN3
  have hV10 : V6 o = some (.inr (3, [.int 0, .int 0, .ref (o + 1)])) := by rw [eV7]; exact hv_us
  have hN11 := (fr8 _ (by omega)).trans hN3
  refine hw_sz (fun hzz => ?_)
  exact hv_vretC (k := 0) C0 w hr hlk (by have h7 := w.2.1; have h6 := w.1.lt hN11; omega) (⟨⟨hV10, hV9⟩, (fun q hq => ((fr8 q (by omega)).trans (fr4 q (by omega))))⟩) dX3_init_12

set_option maxHeartbeats 8000000 in
set_option maxRecDepth 100000 in
theorem n_X5_init {l : Launch} {X : hv_X} {V : hv_V} {o : Nat} (hA : ∀ q, o < q → X.2.2.1 q) (hO : V o = some (.inr (5, [.int 0, .int 0, .null]))) : hv_Mc l X 1 yX5_init cX5_init 1 (o + 1) 1 60 V [.ref o] (fun V1 => V1 o = some (tE o (-1) 0) ∧ V1 (o + 1) = some (jE X (fun _ => 0)) ∧ ∀ q : Nat, q < o → V1 q = V q) := by
  refine hv_enterC (by decide) (Nat.le_of_ble_eq_true rfl) ?_
  intro p e s m below meth c ls C0 hOO hz0 hr hlk hnm w hl
  have hAA : ∀ q, s.heap.size ≤ q → X.2.2.1 q := fun q h => hA q (by omega)
  have hl : lv_has ls 1 [(0, .ref o)] := hl
  refine lv_aload_n C0.1 C0.2.1 dX5_init_0 rfl (lv_at hl 0 rfl) ?_
  refine hv_objI C0 ko_X5 hl.1 dX5_init_1 (by decide) ?_
  refine lv_aload_n C0.1 C0.2.1 dX5_init_4 rfl (lv_at hl 0 rfl) ?_
  refine lv_iconst (v := -1) C0.1 C0.2.1 dX5_init_5 (by decide) ?_
  refine pf_X5_9 C0 w hO (by simp) dX5_init_6 (fun Hq lq w => ?_)
  obtain ⟨V1, eV2⟩ : ∃ W9, W9 = hv_up V o (.inr (5, [.int (-1), .int 0, .null])) := ⟨_, rfl⟩
  have w : hv_w X s V1 Hq lq := by rw [eV2]; exact w
  have fr3 : ∀ q : Nat, q ≠ o → V1 q = V q := fun q h => by rw [eV2]; exact hv_un h
  have hV4 : V1 o = some (.inr (5, [.int (-1), .int 0, .null])) := by rw [eV2]; exact hv_us
  refine lv_aload_n C0.1 C0.2.1 dX5_init_9 rfl (lv_at hl 0 rfl) ?_
  refine lv_bipush (v := 60) C0.1 C0.2.1 dX5_init_10 (by decide) ?_
  refine hw_sz (fun hzz => ?_)
  refine hv_newa (atype := .long) 1 C0 w hAA ka_long rfl (N := 60) (a0 := (60, .inr (.inl (fun _ => 0)))) (fun _ => rfl) (by decide) (by decide) (by decide) (Nat.le_of_ble_eq_true rfl) (Nat.le_of_ble_eq_true rfl) (sz := o + 1) (by have h7 := w.2.1; omega) dX5_init_12 (fun Hq w _ => ?_)
  refine W.widen (k := 1) (n := 60) (Nat.le_of_ble_eq_true rfl) (Nat.le_of_ble_eq_true rfl) ?_
  obtain ⟨V5, eV6⟩ : ∃ W9, W9 = hv_up V1 (o + 1) (.inl (X.2.1 1, 60, .inr (.inl (fun _ => 0)))) := ⟨_, rfl⟩
  rw [← eV6] at w
  have hN7 : V5 (o + 1) = some (.inl (X.2.1 1, 60, .inr (.inl (fun _ => 0)))) := by rw [eV6]; exact hv_us
  have fr8 : ∀ q : Nat, q ≠ o + 1 → V5 q = V1 q := fun q h => by rw [eV6]; exact hv_un h
  have hV9 : V5 o = some (.inr (5, [.int (-1), .int 0, .null])) := (fr8 _ (by omega)).trans hV4
  refine hv_putF C0 hnm w kc_X5 2 (by decide) rfl rfl hq_111 rfl hV9 rfl rfl (by simp) dX5_init_14 (fun Hq lq w => ?_)
  obtain ⟨V10, eV11⟩ : ∃ W9, W9 = hv_up V5 o (.inr (5, [.int (-1), .int 0, .ref (o + 1)])) := ⟨_, rfl⟩
  have w : hv_w X s V10 Hq lq := by rw [eV11]; exact w
  have fr12 : ∀ q : Nat, q ≠ o → V10 q = V5 q := fun q h => by rw [eV11]; exact hv_un h
  have hV13 : V10 (o + 1) = some (.inl (X.2.1 1, 60, .inr (.inl (fun _ => 0)))) := (fr12 _ (by omega)).trans hN7
  have hV14 : V10 o = some (.inr (5, [.int (-1), .int 0, .ref (o + 1)])) := by rw [eV11]; exact hv_us
  have hN15 := (fr12 _ (by omega)).trans hN7
  refine hw_sz (fun hzz => ?_)
  exact hv_vretC (k := 0) C0 w hr hlk (by have h7 := w.2.1; have h6 := w.1.lt hN15; omega) (⟨hV14, hV13, (fun q hq => ((fr12 q (by omega)).trans ((fr8 q (by omega)).trans (fr3 q (by omega)))))⟩) dX5_init_17

set_option maxHeartbeats 8000000 in
set_option maxRecDepth 100000 in
theorem n_X4_init {l : Launch} {X : hv_X} {V : hv_V} {o : Nat} (hA : ∀ q, o < q → X.2.2.1 q) (hO : V o = some (.inr (4, [.null, .int 0, .int 0, .int 0, .null, .null]))) : hv_Mc l X 1 yX4_init cX4_init 1 (o + 1) 3 160 V [.ref o] (fun V1 => V1 o = some (sE o 0 0 0) ∧ V1 (o + 1) = some (bE X 100 (fun _ => 0)) ∧ V1 (o + 2) = some (iE X 12 (fun _ => 0)) ∧ V1 (o + 3) = some (iE X 48 (fun _ => 0)) ∧ ∀ q : Nat, q < o → V1 q = V q) := by
  refine hv_enterC (by decide) (Nat.le_of_ble_eq_true rfl) ?_
  intro p e s m below meth c ls C0 hOO hz0 hr hlk hnm w hl
  have hAA : ∀ q, s.heap.size ≤ q → X.2.2.1 q := fun q h => hA q (by omega)
  have hl : lv_has ls 1 [(0, .ref o)] := hl
  refine lv_aload_n C0.1 C0.2.1 dX4_init_0 rfl (lv_at hl 0 rfl) ?_
  refine hv_objI C0 ko_X4 hl.1 dX4_init_1 (by decide) ?_
  refine lv_aload_n C0.1 C0.2.1 dX4_init_4 rfl (lv_at hl 0 rfl) ?_
  refine lv_bipush (v := 100) C0.1 C0.2.1 dX4_init_5 (by decide) ?_
  refine hw_sz (fun hzz => ?_)
  refine hv_newa (atype := .byte) 2 C0 w hAA ka_byte rfl (N := 100) (a0 := (100, .inl (fun _ => 0))) (fun _ => rfl) (by decide) (by decide) (by decide) (Nat.le_of_ble_eq_true rfl) (Nat.le_of_ble_eq_true rfl) (sz := o + 1) (by have h7 := w.2.1; omega) dX4_init_7 (fun Hq w _ => ?_)
  refine W.widen (k := 1) (n := 100) (Nat.le_of_ble_eq_true rfl) (Nat.le_of_ble_eq_true rfl) ?_
  obtain ⟨V1, eV2⟩ : ∃ W9, W9 = hv_up V (o + 1) (.inl (X.2.1 2, 100, .inl (fun _ => 0))) := ⟨_, rfl⟩
  rw [← eV2] at w
  have hN3 : V1 (o + 1) = some (.inl (X.2.1 2, 100, .inl (fun _ => 0))) := by rw [eV2]; exact hv_us
  have fr4 : ∀ q : Nat, q ≠ o + 1 → V1 q = V q := fun q h => by rw [eV2]; exact hv_un h
  have hV5 : V1 o = some (.inr (4, [.null, .int 0, .int 0, .int 0, .null, .null])) := (fr4 _ (by omega)).trans hO
  refine hv_putF C0 hnm w kc_X4 0 (by decide) rfl rfl hq_90 rfl hV5 rfl rfl (by simp) dX4_init_9 (fun Hq lq w => ?_)
  obtain ⟨V6, eV7⟩ : ∃ W9, W9 = hv_up V1 o (.inr (4, [.ref (o + 1), .int 0, .int 0, .int 0, .null, .null])) := ⟨_, rfl⟩
  have w : hv_w X s V6 Hq lq := by rw [eV7]; exact w
  have fr8 : ∀ q : Nat, q ≠ o → V6 q = V1 q := fun q h => by rw [eV7]; exact hv_un h
  have hV9 : V6 (o + 1) = some (.inl (X.2.1 2, 100, .inl (fun _ => 0))) := (fr8 _ (by omega)).trans hN3
  have hV10 : V6 o = some (.inr (4, [.ref (o + 1), .int 0, .int 0, .int 0, .null, .null])) := by rw [eV7]; exact hv_us
  have hN11 := (fr8 _ (by omega)).trans hN3
  refine lv_aload_n C0.1 C0.2.1 dX4_init_12 rfl (lv_at hl 0 rfl) ?_
  refine lv_bipush (v := 12) C0.1 C0.2.1 dX4_init_13 (by decide) ?_
  refine hw_sz (fun hzz => ?_)
  refine hv_newa (atype := .int) 0 C0 w hAA ka_int rfl (N := 12) (a0 := (12, .inl (fun _ => 0))) (fun _ => rfl) (by decide) (by decide) (by decide) (Nat.le_of_ble_eq_true rfl) (Nat.le_of_ble_eq_true rfl) (sz := o + 2) (by have h7 := w.2.1; have h6 := w.1.lt hN11; omega) dX4_init_15 (fun Hq w _ => ?_)
  refine W.widen (k := 2) (n := 112) (Nat.le_of_ble_eq_true rfl) (Nat.le_of_ble_eq_true rfl) ?_
  obtain ⟨V12, eV13⟩ : ∃ W9, W9 = hv_up V6 (o + 2) (.inl (X.2.1 0, 12, .inl (fun _ => 0))) := ⟨_, rfl⟩
  rw [← eV13] at w
  have hN14 : V12 (o + 2) = some (.inl (X.2.1 0, 12, .inl (fun _ => 0))) := by rw [eV13]; exact hv_us
  have fr15 : ∀ q : Nat, q ≠ o + 2 → V12 q = V6 q := fun q h => by rw [eV13]; exact hv_un h
  have hV16 : V12 (o + 1) = some (.inl (X.2.1 2, 100, .inl (fun _ => 0))) := (fr15 _ (by omega)).trans hV9
  have hV17 : V12 o = some (.inr (4, [.ref (o + 1), .int 0, .int 0, .int 0, .null, .null])) := (fr15 _ (by omega)).trans hV10
  refine hv_putF C0 hnm w kc_X4 4 (by decide) rfl rfl hq_96 rfl hV17 rfl rfl (by simp) dX4_init_17 (fun Hq lq w => ?_)
  obtain ⟨V18, eV19⟩ : ∃ W9, W9 = hv_up V12 o (.inr (4, [.ref (o + 1), .int 0, .int 0, .int 0, .ref (o + 2), .null])) := ⟨_, rfl⟩
  have w : hv_w X s V18 Hq lq := by rw [eV19]; exact w
  have fr20 : ∀ q : Nat, q ≠ o → V18 q = V12 q := fun q h => by rw [eV19]; exact hv_un h
  have hV21 : V18 (o + 1) = some (.inl (X.2.1 2, 100, .inl (fun _ => 0))) := (fr20 _ (by omega)).trans hV16
  have hV22 : V18 (o + 2) = some (.inl (X.2.1 0, 12, .inl (fun _ => 0))) := (fr20 _ (by omega)).trans hN14
  have hV23 : V18 o = some (.inr (4, [.ref (o + 1), .int 0, .int 0, .int 0, .ref (o + 2), .null])) := by rw [eV19]; exact hv_us
  have hN24 := (fr20 _ (by omega)).trans hN14
  refine lv_aload_n C0.1 C0.2.1 dX4_init_20 rfl (lv_at hl 0 rfl) ?_
  refine lv_bipush (v := 48) C0.1 C0.2.1 dX4_init_21 (by decide) ?_
  refine hw_sz (fun hzz => ?_)
  refine hv_newa (atype := .int) 0 C0 w hAA ka_int rfl (N := 48) (a0 := (48, .inl (fun _ => 0))) (fun _ => rfl) (by decide) (by decide) (by decide) (Nat.le_of_ble_eq_true rfl) (Nat.le_of_ble_eq_true rfl) (sz := o + 3) (by have h7 := w.2.1; have h6 := w.1.lt hN24; omega) dX4_init_23 (fun Hq w _ => ?_)
  refine W.widen (k := 3) (n := 160) (Nat.le_of_ble_eq_true rfl) (Nat.le_of_ble_eq_true rfl) ?_
  obtain ⟨V25, eV26⟩ : ∃ W9, W9 = hv_up V18 (o + 3) (.inl (X.2.1 0, 48, .inl (fun _ => 0))) := ⟨_, rfl⟩
  rw [← eV26] at w
  have hN27 : V25 (o + 3) = some (.inl (X.2.1 0, 48, .inl (fun _ => 0))) := by rw [eV26]; exact hv_us
  have fr28 : ∀ q : Nat, q ≠ o + 3 → V25 q = V18 q := fun q h => by rw [eV26]; exact hv_un h
  have hV29 : V25 (o + 1) = some (.inl (X.2.1 2, 100, .inl (fun _ => 0))) := (fr28 _ (by omega)).trans hV21
  have hV30 : V25 (o + 2) = some (.inl (X.2.1 0, 12, .inl (fun _ => 0))) := (fr28 _ (by omega)).trans hV22
  have hV31 : V25 o = some (.inr (4, [.ref (o + 1), .int 0, .int 0, .int 0, .ref (o + 2), .null])) := (fr28 _ (by omega)).trans hV23
  refine hv_putF C0 hnm w kc_X4 5 (by decide) rfl rfl hq_97 rfl hV31 rfl rfl (by simp) dX4_init_25 (fun Hq lq w => ?_)
  obtain ⟨V32, eV33⟩ : ∃ W9, W9 = hv_up V25 o (.inr (4, [.ref (o + 1), .int 0, .int 0, .int 0, .ref (o + 2), .ref (o + 3)])) := ⟨_, rfl⟩
  have w : hv_w X s V32 Hq lq := by rw [eV33]; exact w
  have fr34 : ∀ q : Nat, q ≠ o → V32 q = V25 q := fun q h => by rw [eV33]; exact hv_un h
  have hV35 : V32 (o + 1) = some (.inl (X.2.1 2, 100, .inl (fun _ => 0))) := (fr34 _ (by omega)).trans hV29
  have hV36 : V32 (o + 2) = some (.inl (X.2.1 0, 12, .inl (fun _ => 0))) := (fr34 _ (by omega)).trans hV30
  have hV37 : V32 (o + 3) = some (.inl (X.2.1 0, 48, .inl (fun _ => 0))) := (fr34 _ (by omega)).trans hN27
  have hV38 : V32 o = some (.inr (4, [.ref (o + 1), .int 0, .int 0, .int 0, .ref (o + 2), .ref (o + 3)])) := by rw [eV33]; exact hv_us
  have hN39 := (fr34 _ (by omega)).trans hN27
  refine hw_sz (fun hzz => ?_)
  exact hv_vretC (k := 0) C0 w hr hlk (by have h7 := w.2.1; have h6 := w.1.lt hN39; omega) (⟨hV38, hV35, hV36, hV37, (fun q hq => ((fr34 q (by omega)).trans ((fr28 q (by omega)).trans ((fr20 q (by omega)).trans ((fr15 q (by omega)).trans ((fr8 q (by omega)).trans (fr4 q (by omega))))))))⟩) dX4_init_28

set_option maxHeartbeats 8000000 in
set_option maxRecDepth 100000 in
theorem n_X1_init4 {l : Launch} {X : hv_X} {V : hv_V} {o : Nat} (hA : ∀ q, o < q → X.2.2.1 q) (hO : V o = some (.inr (1, [.null, .null, .null, .int 0]))) : hv_Mc l X 1 yX1_init cX1_init 3 (o + 1) 3 12 V [.ref o, .int 4] (fun V1 => V1 o = some (lE o 0) ∧ V1 (o + 1) = some (iE X 4 (fun _ => 0)) ∧ V1 (o + 2) = some (iE X 4 (fun _ => 0)) ∧ V1 (o + 3) = some (iE X 4 (fun _ => 0)) ∧ ∀ q : Nat, q < o → V1 q = V q) := by
  refine hv_enterC (by decide) (Nat.le_of_ble_eq_true rfl) ?_
  intro p e s m below meth c ls C0 hOO hz0 hr hlk hnm w hl
  have hAA : ∀ q, s.heap.size ≤ q → X.2.2.1 q := fun q h => hA q (by omega)
  have hl : lv_has ls 3 [(0, .ref o), (1, .int 4)] := hl
  refine lv_aload_n C0.1 C0.2.1 dX1_init_0 rfl (lv_at hl 0 rfl) ?_
  refine hv_objI C0 ko_X1 hl.1 dX1_init_1 (by decide) ?_
  refine lv_iconst (v := 0) C0.1 C0.2.1 dX1_init_4 (by decide) ?_
  refine lv_iload_n C0.1 C0.2.1 dX1_init_5 rfl (lv_at hl 1 rfl) ?_
  refine va_mmax C0.1 C0.2.1 (C0.2.2.1.trans hl.1.symm) C0.2.2.2.1 (C0.2.2.2.2.1 _ kj_X1_9) (C0.2.2.2.2.1 _ kj_max_s) (C0.2.2.2.2.1 _ kj_Math) (C0.2.2.2.2.1 _ kj_max_c) (by decide) (Nat.le_of_ble_eq_true rfl) (Nat.zero_le _) (Nat.zero_le _) dX1_init_6 ?_
  rw [show (if (0 : Int32) < 4 then (4 : Int32) else 0) = 4 from by decide]
  refine lv_istore_n (lv' := [(2, .int 4), (0, .ref o), (1, .int 4)]) C0.1 C0.2.1 dX1_init_9 rfl hl (by decide) rfl (fun ls hl => ?_)
  refine lv_aload_n C0.1 C0.2.1 dX1_init_10 rfl (lv_at hl 1 rfl) ?_
  refine lv_iload_n C0.1 C0.2.1 dX1_init_11 rfl (lv_at hl 0 rfl) ?_
  refine hw_sz (fun hzz => ?_)
  refine hv_newa (atype := .int) 0 C0 w hAA ka_int rfl (N := 4) (a0 := (4, .inl (fun _ => 0))) (fun _ => rfl) (by decide) (by decide) (by decide) (Nat.le_of_ble_eq_true rfl) (Nat.le_of_ble_eq_true rfl) (sz := o + 1) (by have h7 := w.2.1; omega) dX1_init_12 (fun Hq w _ => ?_)
  refine W.widen (k := 1) (n := 4) (Nat.le_of_ble_eq_true rfl) (Nat.le_of_ble_eq_true rfl) ?_
  obtain ⟨V1, eV2⟩ : ∃ W9, W9 = hv_up V (o + 1) (.inl (X.2.1 0, 4, .inl (fun _ => 0))) := ⟨_, rfl⟩
  rw [← eV2] at w
  have hN3 : V1 (o + 1) = some (.inl (X.2.1 0, 4, .inl (fun _ => 0))) := by rw [eV2]; exact hv_us
  have fr4 : ∀ q : Nat, q ≠ o + 1 → V1 q = V q := fun q h => by rw [eV2]; exact hv_un h
  have hV5 : V1 o = some (.inr (1, [.null, .null, .null, .int 0])) := (fr4 _ (by omega)).trans hO
  refine hv_putF C0 hnm w kc_X1 0 (by decide) rfl rfl hq_67 rfl hV5 rfl rfl (by simp) dX1_init_14 (fun Hq lq w => ?_)
  obtain ⟨V6, eV7⟩ : ∃ W9, W9 = hv_up V1 o (.inr (1, [.ref (o + 1), .null, .null, .int 0])) := ⟨_, rfl⟩
  have w : hv_w X s V6 Hq lq := by rw [eV7]; exact w
  have fr8 : ∀ q : Nat, q ≠ o → V6 q = V1 q := fun q h => by rw [eV7]; exact hv_un h
  have hV9 : V6 (o + 1) = some (.inl (X.2.1 0, 4, .inl (fun _ => 0))) := (fr8 _ (by omega)).trans hN3
  have hV10 : V6 o = some (.inr (1, [.ref (o + 1), .null, .null, .int 0])) := by rw [eV7]; exact hv_us
  have hN11 := (fr8 _ (by omega)).trans hN3
  refine lv_aload_n C0.1 C0.2.1 dX1_init_17 rfl (lv_at hl 1 rfl) ?_
  refine lv_iload_n C0.1 C0.2.1 dX1_init_18 rfl (lv_at hl 0 rfl) ?_
  refine hw_sz (fun hzz => ?_)
  refine hv_newa (atype := .int) 0 C0 w hAA ka_int rfl (N := 4) (a0 := (4, .inl (fun _ => 0))) (fun _ => rfl) (by decide) (by decide) (by decide) (Nat.le_of_ble_eq_true rfl) (Nat.le_of_ble_eq_true rfl) (sz := o + 2) (by have h7 := w.2.1; have h6 := w.1.lt hN11; omega) dX1_init_19 (fun Hq w _ => ?_)
  refine W.widen (k := 2) (n := 8) (Nat.le_of_ble_eq_true rfl) (Nat.le_of_ble_eq_true rfl) ?_
  obtain ⟨V12, eV13⟩ : ∃ W9, W9 = hv_up V6 (o + 2) (.inl (X.2.1 0, 4, .inl (fun _ => 0))) := ⟨_, rfl⟩
  rw [← eV13] at w
  have hN14 : V12 (o + 2) = some (.inl (X.2.1 0, 4, .inl (fun _ => 0))) := by rw [eV13]; exact hv_us
  have fr15 : ∀ q : Nat, q ≠ o + 2 → V12 q = V6 q := fun q h => by rw [eV13]; exact hv_un h
  have hV16 : V12 (o + 1) = some (.inl (X.2.1 0, 4, .inl (fun _ => 0))) := (fr15 _ (by omega)).trans hV9
  have hV17 : V12 o = some (.inr (1, [.ref (o + 1), .null, .null, .int 0])) := (fr15 _ (by omega)).trans hV10
  refine hv_putF C0 hnm w kc_X1 1 (by decide) rfl rfl hq_69 rfl hV17 rfl rfl (by simp) dX1_init_21 (fun Hq lq w => ?_)
  obtain ⟨V18, eV19⟩ : ∃ W9, W9 = hv_up V12 o (.inr (1, [.ref (o + 1), .ref (o + 2), .null, .int 0])) := ⟨_, rfl⟩
  have w : hv_w X s V18 Hq lq := by rw [eV19]; exact w
  have fr20 : ∀ q : Nat, q ≠ o → V18 q = V12 q := fun q h => by rw [eV19]; exact hv_un h
  have hV21 : V18 (o + 1) = some (.inl (X.2.1 0, 4, .inl (fun _ => 0))) := (fr20 _ (by omega)).trans hV16
  have hV22 : V18 (o + 2) = some (.inl (X.2.1 0, 4, .inl (fun _ => 0))) := (fr20 _ (by omega)).trans hN14
  have hV23 : V18 o = some (.inr (1, [.ref (o + 1), .ref (o + 2), .null, .int 0])) := by rw [eV19]; exact hv_us
  have hN24 := (fr20 _ (by omega)).trans hN14
  refine lv_aload_n C0.1 C0.2.1 dX1_init_24 rfl (lv_at hl 1 rfl) ?_
  refine lv_iload_n C0.1 C0.2.1 dX1_init_25 rfl (lv_at hl 0 rfl) ?_
  refine hw_sz (fun hzz => ?_)
  refine hv_newa (atype := .int) 0 C0 w hAA ka_int rfl (N := 4) (a0 := (4, .inl (fun _ => 0))) (fun _ => rfl) (by decide) (by decide) (by decide) (Nat.le_of_ble_eq_true rfl) (Nat.le_of_ble_eq_true rfl) (sz := o + 3) (by have h7 := w.2.1; have h6 := w.1.lt hN24; omega) dX1_init_26 (fun Hq w _ => ?_)
  refine W.widen (k := 3) (n := 12) (Nat.le_of_ble_eq_true rfl) (Nat.le_of_ble_eq_true rfl) ?_
  obtain ⟨V25, eV26⟩ : ∃ W9, W9 = hv_up V18 (o + 3) (.inl (X.2.1 0, 4, .inl (fun _ => 0))) := ⟨_, rfl⟩
  rw [← eV26] at w
  have hN27 : V25 (o + 3) = some (.inl (X.2.1 0, 4, .inl (fun _ => 0))) := by rw [eV26]; exact hv_us
  have fr28 : ∀ q : Nat, q ≠ o + 3 → V25 q = V18 q := fun q h => by rw [eV26]; exact hv_un h
  have hV29 : V25 (o + 1) = some (.inl (X.2.1 0, 4, .inl (fun _ => 0))) := (fr28 _ (by omega)).trans hV21
  have hV30 : V25 (o + 2) = some (.inl (X.2.1 0, 4, .inl (fun _ => 0))) := (fr28 _ (by omega)).trans hV22
  have hV31 : V25 o = some (.inr (1, [.ref (o + 1), .ref (o + 2), .null, .int 0])) := (fr28 _ (by omega)).trans hV23
  refine hv_putF C0 hnm w kc_X1 2 (by decide) rfl rfl hq_71 rfl hV31 rfl rfl (by simp) dX1_init_28 (fun Hq lq w => ?_)
  obtain ⟨V32, eV33⟩ : ∃ W9, W9 = hv_up V25 o (.inr (1, [.ref (o + 1), .ref (o + 2), .ref (o + 3), .int 0])) := ⟨_, rfl⟩
  have w : hv_w X s V32 Hq lq := by rw [eV33]; exact w
  have fr34 : ∀ q : Nat, q ≠ o → V32 q = V25 q := fun q h => by rw [eV33]; exact hv_un h
  have hV35 : V32 (o + 1) = some (.inl (X.2.1 0, 4, .inl (fun _ => 0))) := (fr34 _ (by omega)).trans hV29
  have hV36 : V32 (o + 2) = some (.inl (X.2.1 0, 4, .inl (fun _ => 0))) := (fr34 _ (by omega)).trans hV30
  have hV37 : V32 (o + 3) = some (.inl (X.2.1 0, 4, .inl (fun _ => 0))) := (fr34 _ (by omega)).trans hN27
  have hV38 : V32 o = some (.inr (1, [.ref (o + 1), .ref (o + 2), .ref (o + 3), .int 0])) := by rw [eV33]; exact hv_us
  have hN39 := (fr34 _ (by omega)).trans hN27
  refine hw_sz (fun hzz => ?_)
  exact hv_vretC (k := 0) C0 w hr hlk (by have h7 := w.2.1; have h6 := w.1.lt hN39; omega) (⟨hV38, hV35, hV36, hV37, (fun q hq => ((fr34 q (by omega)).trans ((fr28 q (by omega)).trans ((fr20 q (by omega)).trans ((fr15 q (by omega)).trans ((fr8 q (by omega)).trans (fr4 q (by omega))))))))⟩) dX1_init_31

set_option maxHeartbeats 8000000 in
set_option maxRecDepth 100000 in
theorem n_X1_init8 {l : Launch} {X : hv_X} {V : hv_V} {o : Nat} (hA : ∀ q, o < q → X.2.2.1 q) (hO : V o = some (.inr (1, [.null, .null, .null, .int 0]))) : hv_Mc l X 1 yX1_init cX1_init 3 (o + 1) 3 24 V [.ref o, .int 8] (fun V1 => V1 o = some (lE o 0) ∧ V1 (o + 1) = some (iE X 8 (fun _ => 0)) ∧ V1 (o + 2) = some (iE X 8 (fun _ => 0)) ∧ V1 (o + 3) = some (iE X 8 (fun _ => 0)) ∧ ∀ q : Nat, q < o → V1 q = V q) := by
  refine hv_enterC (by decide) (Nat.le_of_ble_eq_true rfl) ?_
  intro p e s m below meth c ls C0 hOO hz0 hr hlk hnm w hl
  have hAA : ∀ q, s.heap.size ≤ q → X.2.2.1 q := fun q h => hA q (by omega)
  have hl : lv_has ls 3 [(0, .ref o), (1, .int 8)] := hl
  refine lv_aload_n C0.1 C0.2.1 dX1_init_0 rfl (lv_at hl 0 rfl) ?_
  refine hv_objI C0 ko_X1 hl.1 dX1_init_1 (by decide) ?_
  refine lv_iconst (v := 0) C0.1 C0.2.1 dX1_init_4 (by decide) ?_
  refine lv_iload_n C0.1 C0.2.1 dX1_init_5 rfl (lv_at hl 1 rfl) ?_
  refine va_mmax C0.1 C0.2.1 (C0.2.2.1.trans hl.1.symm) C0.2.2.2.1 (C0.2.2.2.2.1 _ kj_X1_9) (C0.2.2.2.2.1 _ kj_max_s) (C0.2.2.2.2.1 _ kj_Math) (C0.2.2.2.2.1 _ kj_max_c) (by decide) (Nat.le_of_ble_eq_true rfl) (Nat.zero_le _) (Nat.zero_le _) dX1_init_6 ?_
  rw [show (if (0 : Int32) < 8 then (8 : Int32) else 0) = 8 from by decide]
  refine lv_istore_n (lv' := [(2, .int 8), (0, .ref o), (1, .int 8)]) C0.1 C0.2.1 dX1_init_9 rfl hl (by decide) rfl (fun ls hl => ?_)
  refine lv_aload_n C0.1 C0.2.1 dX1_init_10 rfl (lv_at hl 1 rfl) ?_
  refine lv_iload_n C0.1 C0.2.1 dX1_init_11 rfl (lv_at hl 0 rfl) ?_
  refine hw_sz (fun hzz => ?_)
  refine hv_newa (atype := .int) 0 C0 w hAA ka_int rfl (N := 8) (a0 := (8, .inl (fun _ => 0))) (fun _ => rfl) (by decide) (by decide) (by decide) (Nat.le_of_ble_eq_true rfl) (Nat.le_of_ble_eq_true rfl) (sz := o + 1) (by have h7 := w.2.1; omega) dX1_init_12 (fun Hq w _ => ?_)
  refine W.widen (k := 1) (n := 8) (Nat.le_of_ble_eq_true rfl) (Nat.le_of_ble_eq_true rfl) ?_
  obtain ⟨V1, eV2⟩ : ∃ W9, W9 = hv_up V (o + 1) (.inl (X.2.1 0, 8, .inl (fun _ => 0))) := ⟨_, rfl⟩
  rw [← eV2] at w
  have hN3 : V1 (o + 1) = some (.inl (X.2.1 0, 8, .inl (fun _ => 0))) := by rw [eV2]; exact hv_us
  have fr4 : ∀ q : Nat, q ≠ o + 1 → V1 q = V q := fun q h => by rw [eV2]; exact hv_un h
  have hV5 : V1 o = some (.inr (1, [.null, .null, .null, .int 0])) := (fr4 _ (by omega)).trans hO
  refine hv_putF C0 hnm w kc_X1 0 (by decide) rfl rfl hq_67 rfl hV5 rfl rfl (by simp) dX1_init_14 (fun Hq lq w => ?_)
  obtain ⟨V6, eV7⟩ : ∃ W9, W9 = hv_up V1 o (.inr (1, [.ref (o + 1), .null, .null, .int 0])) := ⟨_, rfl⟩
  have w : hv_w X s V6 Hq lq := by rw [eV7]; exact w
  have fr8 : ∀ q : Nat, q ≠ o → V6 q = V1 q := fun q h => by rw [eV7]; exact hv_un h
  have hV9 : V6 (o + 1) = some (.inl (X.2.1 0, 8, .inl (fun _ => 0))) := (fr8 _ (by omega)).trans hN3
  have hV10 : V6 o = some (.inr (1, [.ref (o + 1), .null, .null, .int 0])) := by rw [eV7]; exact hv_us
  have hN11 := (fr8 _ (by omega)).trans hN3
  refine lv_aload_n C0.1 C0.2.1 dX1_init_17 rfl (lv_at hl 1 rfl) ?_
  refine lv_iload_n C0.1 C0.2.1 dX1_init_18 rfl (lv_at hl 0 rfl) ?_
  refine hw_sz (fun hzz => ?_)
  refine hv_newa (atype := .int) 0 C0 w hAA ka_int rfl (N := 8) (a0 := (8, .inl (fun _ => 0))) (fun _ => rfl) (by decide) (by decide) (by decide) (Nat.le_of_ble_eq_true rfl) (Nat.le_of_ble_eq_true rfl) (sz := o + 2) (by have h7 := w.2.1; have h6 := w.1.lt hN11; omega) dX1_init_19 (fun Hq w _ => ?_)
  refine W.widen (k := 2) (n := 16) (Nat.le_of_ble_eq_true rfl) (Nat.le_of_ble_eq_true rfl) ?_
  obtain ⟨V12, eV13⟩ : ∃ W9, W9 = hv_up V6 (o + 2) (.inl (X.2.1 0, 8, .inl (fun _ => 0))) := ⟨_, rfl⟩
  rw [← eV13] at w
  have hN14 : V12 (o + 2) = some (.inl (X.2.1 0, 8, .inl (fun _ => 0))) := by rw [eV13]; exact hv_us
  have fr15 : ∀ q : Nat, q ≠ o + 2 → V12 q = V6 q := fun q h => by rw [eV13]; exact hv_un h
  have hV16 : V12 (o + 1) = some (.inl (X.2.1 0, 8, .inl (fun _ => 0))) := (fr15 _ (by omega)).trans hV9
  have hV17 : V12 o = some (.inr (1, [.ref (o + 1), .null, .null, .int 0])) := (fr15 _ (by omega)).trans hV10
  refine hv_putF C0 hnm w kc_X1 1 (by decide) rfl rfl hq_69 rfl hV17 rfl rfl (by simp) dX1_init_21 (fun Hq lq w => ?_)
  obtain ⟨V18, eV19⟩ : ∃ W9, W9 = hv_up V12 o (.inr (1, [.ref (o + 1), .ref (o + 2), .null, .int 0])) := ⟨_, rfl⟩
  have w : hv_w X s V18 Hq lq := by rw [eV19]; exact w
  have fr20 : ∀ q : Nat, q ≠ o → V18 q = V12 q := fun q h => by rw [eV19]; exact hv_un h
  have hV21 : V18 (o + 1) = some (.inl (X.2.1 0, 8, .inl (fun _ => 0))) := (fr20 _ (by omega)).trans hV16
  have hV22 : V18 (o + 2) = some (.inl (X.2.1 0, 8, .inl (fun _ => 0))) := (fr20 _ (by omega)).trans hN14
  have hV23 : V18 o = some (.inr (1, [.ref (o + 1), .ref (o + 2), .null, .int 0])) := by rw [eV19]; exact hv_us
  have hN24 := (fr20 _ (by omega)).trans hN14
  refine lv_aload_n C0.1 C0.2.1 dX1_init_24 rfl (lv_at hl 1 rfl) ?_
  refine lv_iload_n C0.1 C0.2.1 dX1_init_25 rfl (lv_at hl 0 rfl) ?_
  refine hw_sz (fun hzz => ?_)
  refine hv_newa (atype := .int) 0 C0 w hAA ka_int rfl (N := 8) (a0 := (8, .inl (fun _ => 0))) (fun _ => rfl) (by decide) (by decide) (by decide) (Nat.le_of_ble_eq_true rfl) (Nat.le_of_ble_eq_true rfl) (sz := o + 3) (by have h7 := w.2.1; have h6 := w.1.lt hN24; omega) dX1_init_26 (fun Hq w _ => ?_)
  refine W.widen (k := 3) (n := 24) (Nat.le_of_ble_eq_true rfl) (Nat.le_of_ble_eq_true rfl) ?_
  obtain ⟨V25, eV26⟩ : ∃ W9, W9 = hv_up V18 (o + 3) (.inl (X.2.1 0, 8, .inl (fun _ => 0))) := ⟨_, rfl⟩
  rw [← eV26] at w
  have hN27 : V25 (o + 3) = some (.inl (X.2.1 0, 8, .inl (fun _ => 0))) := by rw [eV26]; exact hv_us
  have fr28 : ∀ q : Nat, q ≠ o + 3 → V25 q = V18 q := fun q h => by rw [eV26]; exact hv_un h
  have hV29 : V25 (o + 1) = some (.inl (X.2.1 0, 8, .inl (fun _ => 0))) := (fr28 _ (by omega)).trans hV21
  have hV30 : V25 (o + 2) = some (.inl (X.2.1 0, 8, .inl (fun _ => 0))) := (fr28 _ (by omega)).trans hV22
  have hV31 : V25 o = some (.inr (1, [.ref (o + 1), .ref (o + 2), .null, .int 0])) := (fr28 _ (by omega)).trans hV23
  refine hv_putF C0 hnm w kc_X1 2 (by decide) rfl rfl hq_71 rfl hV31 rfl rfl (by simp) dX1_init_28 (fun Hq lq w => ?_)
  obtain ⟨V32, eV33⟩ : ∃ W9, W9 = hv_up V25 o (.inr (1, [.ref (o + 1), .ref (o + 2), .ref (o + 3), .int 0])) := ⟨_, rfl⟩
  have w : hv_w X s V32 Hq lq := by rw [eV33]; exact w
  have fr34 : ∀ q : Nat, q ≠ o → V32 q = V25 q := fun q h => by rw [eV33]; exact hv_un h
  have hV35 : V32 (o + 1) = some (.inl (X.2.1 0, 8, .inl (fun _ => 0))) := (fr34 _ (by omega)).trans hV29
  have hV36 : V32 (o + 2) = some (.inl (X.2.1 0, 8, .inl (fun _ => 0))) := (fr34 _ (by omega)).trans hV30
  have hV37 : V32 (o + 3) = some (.inl (X.2.1 0, 8, .inl (fun _ => 0))) := (fr34 _ (by omega)).trans hN27
  have hV38 : V32 o = some (.inr (1, [.ref (o + 1), .ref (o + 2), .ref (o + 3), .int 0])) := by rw [eV33]; exact hv_us
  have hN39 := (fr34 _ (by omega)).trans hN27
  refine hw_sz (fun hzz => ?_)
  exact hv_vretC (k := 0) C0 w hr hlk (by have h7 := w.2.1; have h6 := w.1.lt hN39; omega) (⟨hV38, hV35, hV36, hV37, (fun q hq => ((fr34 q (by omega)).trans ((fr28 q (by omega)).trans ((fr20 q (by omega)).trans ((fr15 q (by omega)).trans ((fr8 q (by omega)).trans (fr4 q (by omega))))))))⟩) dX1_init_31

