/-! THE PAGE's and the class's constructors -/
theorem hw_rf {rf : Nat → Option Nat} {f : Nat → Nat} {i : Nat} (h : ∀ j, j < i → rf j = some (f j)) : ∀ j, j < i + 1 → va_up rf i (some (f i)) j = some (f j) := fun j hj => by
  unfold va_up
  by_cases q : j = i
  · rw [if_pos q, q]
  · rw [if_neg q]; exact h j (by omega)
set_option maxHeartbeats 8000000 in
set_option maxRecDepth 100000 in
theorem n_X2_init {l : Launch} {X : hv_X} {V : hv_V} {o : Nat} (hA : ∀ q, o < q → X.2.2.1 q) (hO : V o = some (.inr (2, [.null, .null, .null, .null]))) : hv_Mc l X 2 yX2_init cX2_init 2 (o + 1) 25 192 V [.ref o] (fun V1 => ok_page X V1 o hs_P0 ∧ ∀ q : Nat, q < o → V1 q = V q) := by
  refine hv_enterC (by decide) (Nat.le_of_ble_eq_true rfl) ?_
  intro p e s m below meth c ls C0 hOO hz0 hr hlk hnm w hl
  have hAA : ∀ q, s.heap.size ≤ q → X.2.2.1 q := fun q h => hA q (by omega)
  have hl : lv_has ls 2 [(0, .ref o)] := hl
  refine lv_aload_n C0.1 C0.2.1 dX2_init_0 rfl (lv_at hl 0 rfl) ?_
  refine hv_objI C0 ko_X2 hl.1 dX2_init_1 (by decide) ?_
  refine lv_aload_n C0.1 C0.2.1 dX2_init_4 rfl (lv_at hl 0 rfl) ?_
  refine lv_bipush (v := 6) C0.1 C0.2.1 dX2_init_5 (by decide) ?_
  refine hw_sz (fun hzz => ?_)
  refine hv_newq 3 C0 w hAA kx_X2_9 hOO.1 rfl (N := 6) (by decide) (by decide) (by decide) (Nat.le_of_ble_eq_true rfl) (Nat.le_of_ble_eq_true rfl) (sz := o + 1) (by have h7 := w.2.1; omega) dX2_init_7 (fun Hq w _ => ?_)
  clear hzz
  refine W.widen (k := 1) (n := 6) (Nat.le_of_ble_eq_true rfl) (Nat.le_of_ble_eq_true rfl) ?_
  obtain ⟨V1, eV2⟩ : ∃ W9, W9 = hv_up V (o + 1) (.inl (X.2.1 3, 6, .inr (.inr (.inr (.inr (fun _ => none)))))) := ⟨_, rfl⟩
  rw [← eV2] at w
  have hN3 : V1 (o + 1) = some (.inl (X.2.1 3, 6, .inr (.inr (.inr (.inr (fun _ => none)))))) := by rw [eV2]; exact hv_us
  have fr4 : ∀ q : Nat, q ≠ o + 1 → V1 q = V q := fun q h => by rw [eV2]; exact hv_un h
  have hV5 : V1 o = some (.inr (2, [.null, .null, .null, .null])) := (fr4 _ (by omega)).trans hO
  refine hv_putF C0 hnm w kc_X2 0 (by decide) rfl rfl hq_82 rfl hV5 rfl rfl (by simp) dX2_init_10 (fun Hq lq w => ?_)
  obtain ⟨V6, eV7⟩ : ∃ W9, W9 = hv_up V1 o (.inr (2, [.ref (o + 1), .null, .null, .null])) := ⟨_, rfl⟩
  have w : hv_w X s V6 Hq lq := by rw [eV7]; exact w
  have fr8 : ∀ q : Nat, q ≠ o → V6 q = V1 q := fun q h => by rw [eV7]; exact hv_un h
  have hV9 : V6 (o + 1) = some (.inl (X.2.1 3, 6, .inr (.inr (.inr (.inr (fun _ => none)))))) := (fr8 _ (by omega)).trans hN3
  have hV10 : V6 o = some (.inr (2, [.ref (o + 1), .null, .null, .null])) := by rw [eV7]; exact hv_us
  have hN11 := (fr8 _ (by omega)).trans hN3
  refine lv_aload_n C0.1 C0.2.1 dX2_init_13 rfl (lv_at hl 0 rfl) ?_
  refine hw_sz (fun hzz => ?_)
  refine hv_new (fs := [.null, .null, .null, .int 0]) C0 w hAA kc_X1 kx_X2_17 kn_X1 kz_X1 (fun j hj => by rcases (show j = 0 ∨ j = 1 ∨ j = 2 ∨ j = 3 by omega) with rfl | rfl | rfl | rfl <;> rfl) (Nat.le_of_ble_eq_true rfl) (Nat.le_of_ble_eq_true rfl) (sz := o + 2) (by have h7 := w.2.1; have h6 := w.1.lt hN11; omega) dX2_init_14 (fun Hq w _ => ?_)
  clear hzz
  refine W.widen (k := 2) (n := 10) (Nat.le_of_ble_eq_true rfl) (Nat.le_of_ble_eq_true rfl) ?_
  obtain ⟨V12, eV13⟩ : ∃ W9, W9 = hv_up V6 (o + 2) (.inr (1, [.null, .null, .null, .int 0])) := ⟨_, rfl⟩
  rw [← eV13] at w
  have hN14 : V12 (o + 2) = some (.inr (1, [.null, .null, .null, .int 0])) := by rw [eV13]; exact hv_us
  have fr15 : ∀ q : Nat, q ≠ o + 2 → V12 q = V6 q := fun q h => by rw [eV13]; exact hv_un h
  have hV16 : V12 (o + 1) = some (.inl (X.2.1 3, 6, .inr (.inr (.inr (.inr (fun _ => none)))))) := (fr15 _ (by omega)).trans hV9
  have hV17 : V12 o = some (.inr (2, [.ref (o + 1), .null, .null, .null])) := (fr15 _ (by omega)).trans hV10
  refine lv_dup C0.1 C0.2.1 dX2_init_17 rfl ?_
  refine lv_iconst (v := 4) C0.1 C0.2.1 dX2_init_18 (by decide) ?_
  refine hw_sz (fun hzz => ?_)
  refine hv_cI C0 hOO w kl_X2_19 ki_X1_init (n_X1_init4 (o := o + 2) (fun q h => hA q (by omega)) hN14) (by have h7 := w.2.1; have h6 := w.1.lt hN14; omega) (by decide) (by decide) rfl hl.1 rfl (Nat.le_of_ble_eq_true rfl) dX2_init_19 ⟨(Nat.le_of_ble_eq_true rfl), (Nat.le_of_ble_eq_true rfl)⟩ (fun V18 Hq lq hp19 w _ => ?_)
  clear hzz
  refine W.widen (k := 5) (n := 22) (Nat.le_of_ble_eq_true rfl) (Nat.le_of_ble_eq_true rfl) ?_
  obtain ⟨p0, p1, p2, p3, pf20⟩ := hp19
  have fr21 : ∀ q : Nat, q < o + 2 → V18 q = V12 q := pf20
  have hV22 : V18 (o + 1) = some (.inl (X.2.1 3, 6, .inr (.inr (.inr (.inr (fun _ => none)))))) := (fr21 _ (by omega)).trans hV16
  have hV23 : V18 o = some (.inr (2, [.ref (o + 1), .null, .null, .null])) := (fr21 _ (by omega)).trans hV17
  have hT24 : ok_list X V18 (o + 2) 4 (0, fun _ => 0, fun _ => 0, fun _ => 0) := ⟨_, _, _, p0, p1, p2, p3, fun j hj => absurd hj (Nat.not_lt_zero j)⟩
  have hN25 := p3
  refine hv_putF C0 hnm w kc_X2 1 (by decide) rfl rfl hq_84 rfl hV23 rfl rfl (by simp) dX2_init_22 (fun Hq lq w => ?_)
  obtain ⟨V26, eV27⟩ : ∃ W9, W9 = hv_up V18 o (.inr (2, [.ref (o + 1), .ref (o + 2), .null, .null])) := ⟨_, rfl⟩
  have w : hv_w X s V26 Hq lq := by rw [eV27]; exact w
  have fr28 : ∀ q : Nat, q ≠ o → V26 q = V18 q := fun q h => by rw [eV27]; exact hv_un h
  have hV29 : V26 (o + 1) = some (.inl (X.2.1 3, 6, .inr (.inr (.inr (.inr (fun _ => none)))))) := (fr28 _ (by omega)).trans hV22
  have hT30 : ok_list X V26 (o + 2) 4 (0, fun _ => 0, fun _ => 0, fun _ => 0) := hT24.fr (fun q9 h7 h8 => fr28 q9 (by omega))
  have hV31 : V26 o = some (.inr (2, [.ref (o + 1), .ref (o + 2), .null, .null])) := by rw [eV27]; exact hv_us
  have hN32 := (fr28 _ (by omega)).trans hN25
  refine lv_aload_n C0.1 C0.2.1 dX2_init_25 rfl (lv_at hl 0 rfl) ?_
  refine hw_sz (fun hzz => ?_)
  refine hv_new (fs := [.null, .null, .null, .int 0]) C0 w hAA kc_X1 kx_X2_17 kn_X1 kz_X1 (fun j hj => by rcases (show j = 0 ∨ j = 1 ∨ j = 2 ∨ j = 3 by omega) with rfl | rfl | rfl | rfl <;> rfl) (Nat.le_of_ble_eq_true rfl) (Nat.le_of_ble_eq_true rfl) (sz := o + 6) (by have h7 := w.2.1; have h6 := w.1.lt hN32; omega) dX2_init_26 (fun Hq w _ => ?_)
  clear hzz
  refine W.widen (k := 6) (n := 26) (Nat.le_of_ble_eq_true rfl) (Nat.le_of_ble_eq_true rfl) ?_
  obtain ⟨V33, eV34⟩ : ∃ W9, W9 = hv_up V26 (o + 6) (.inr (1, [.null, .null, .null, .int 0])) := ⟨_, rfl⟩
  rw [← eV34] at w
  have hN35 : V33 (o + 6) = some (.inr (1, [.null, .null, .null, .int 0])) := by rw [eV34]; exact hv_us
  have fr36 : ∀ q : Nat, q ≠ o + 6 → V33 q = V26 q := fun q h => by rw [eV34]; exact hv_un h
  have hV37 : V33 (o + 1) = some (.inl (X.2.1 3, 6, .inr (.inr (.inr (.inr (fun _ => none)))))) := (fr36 _ (by omega)).trans hV29
  have hV38 : V33 o = some (.inr (2, [.ref (o + 1), .ref (o + 2), .null, .null])) := (fr36 _ (by omega)).trans hV31
  have hT39 : ok_list X V33 (o + 2) 4 (0, fun _ => 0, fun _ => 0, fun _ => 0) := hT30.fr (fun q9 h7 h8 => fr36 q9 (by omega))
  refine lv_dup C0.1 C0.2.1 dX2_init_29 rfl ?_
  refine lv_bipush (v := 8) C0.1 C0.2.1 dX2_init_30 (by decide) ?_
  refine hw_sz (fun hzz => ?_)
  refine hv_cI C0 hOO w kl_X2_19 ki_X1_init (n_X1_init8 (o := o + 6) (fun q h => hA q (by omega)) hN35) (by have h7 := w.2.1; have h6 := w.1.lt hN35; omega) (by decide) (by decide) rfl hl.1 rfl (Nat.le_of_ble_eq_true rfl) dX2_init_32 ⟨(Nat.le_of_ble_eq_true rfl), (Nat.le_of_ble_eq_true rfl)⟩ (fun V40 Hq lq hp41 w _ => ?_)
  clear hzz
  refine W.widen (k := 9) (n := 50) (Nat.le_of_ble_eq_true rfl) (Nat.le_of_ble_eq_true rfl) ?_
  obtain ⟨p0, p1, p2, p3, pf42⟩ := hp41
  have fr43 : ∀ q : Nat, q < o + 6 → V40 q = V33 q := pf42
  have hV44 : V40 (o + 1) = some (.inl (X.2.1 3, 6, .inr (.inr (.inr (.inr (fun _ => none)))))) := (fr43 _ (by omega)).trans hV37
  have hV45 : V40 o = some (.inr (2, [.ref (o + 1), .ref (o + 2), .null, .null])) := (fr43 _ (by omega)).trans hV38
  have hT46 : ok_list X V40 (o + 2) 4 (0, fun _ => 0, fun _ => 0, fun _ => 0) := hT39.fr (fun q9 h7 h8 => fr43 q9 (by omega))
  have hT47 : ok_list X V40 (o + 6) 8 (0, fun _ => 0, fun _ => 0, fun _ => 0) := ⟨_, _, _, p0, p1, p2, p3, fun j hj => absurd hj (Nat.not_lt_zero j)⟩
  have hN48 := p3
  refine hv_putF C0 hnm w kc_X2 2 (by decide) rfl rfl hq_86 rfl hV45 rfl rfl (by simp) dX2_init_35 (fun Hq lq w => ?_)
  obtain ⟨V49, eV50⟩ : ∃ W9, W9 = hv_up V40 o (.inr (2, [.ref (o + 1), .ref (o + 2), .ref (o + 6), .null])) := ⟨_, rfl⟩
  have w : hv_w X s V49 Hq lq := by rw [eV50]; exact w
  have fr51 : ∀ q : Nat, q ≠ o → V49 q = V40 q := fun q h => by rw [eV50]; exact hv_un h
  have hV52 : V49 (o + 1) = some (.inl (X.2.1 3, 6, .inr (.inr (.inr (.inr (fun _ => none)))))) := (fr51 _ (by omega)).trans hV44
  have hT53 : ok_list X V49 (o + 2) 4 (0, fun _ => 0, fun _ => 0, fun _ => 0) := hT46.fr (fun q9 h7 h8 => fr51 q9 (by omega))
  have hT54 : ok_list X V49 (o + 6) 8 (0, fun _ => 0, fun _ => 0, fun _ => 0) := hT47.fr (fun q9 h7 h8 => fr51 q9 (by omega))
  have hV55 : V49 o = some (.inr (2, [.ref (o + 1), .ref (o + 2), .ref (o + 6), .null])) := by rw [eV50]; exact hv_us
  have hN56 := (fr51 _ (by omega)).trans hN48
  refine lv_aload_n C0.1 C0.2.1 dX2_init_38 rfl (lv_at hl 0 rfl) ?_
  refine hw_sz (fun hzz => ?_)
  refine hv_new (fs := [.null, .null, .null, .int 0]) C0 w hAA kc_X1 kx_X2_17 kn_X1 kz_X1 (fun j hj => by rcases (show j = 0 ∨ j = 1 ∨ j = 2 ∨ j = 3 by omega) with rfl | rfl | rfl | rfl <;> rfl) (Nat.le_of_ble_eq_true rfl) (Nat.le_of_ble_eq_true rfl) (sz := o + 10) (by have h7 := w.2.1; have h6 := w.1.lt hN56; omega) dX2_init_39 (fun Hq w _ => ?_)
  clear hzz
  refine W.widen (k := 10) (n := 54) (Nat.le_of_ble_eq_true rfl) (Nat.le_of_ble_eq_true rfl) ?_
  obtain ⟨V57, eV58⟩ : ∃ W9, W9 = hv_up V49 (o + 10) (.inr (1, [.null, .null, .null, .int 0])) := ⟨_, rfl⟩
  rw [← eV58] at w
  have hN59 : V57 (o + 10) = some (.inr (1, [.null, .null, .null, .int 0])) := by rw [eV58]; exact hv_us
  have fr60 : ∀ q : Nat, q ≠ o + 10 → V57 q = V49 q := fun q h => by rw [eV58]; exact hv_un h
  have hV61 : V57 (o + 1) = some (.inl (X.2.1 3, 6, .inr (.inr (.inr (.inr (fun _ => none)))))) := (fr60 _ (by omega)).trans hV52
  have hV62 : V57 o = some (.inr (2, [.ref (o + 1), .ref (o + 2), .ref (o + 6), .null])) := (fr60 _ (by omega)).trans hV55
  have hT63 : ok_list X V57 (o + 2) 4 (0, fun _ => 0, fun _ => 0, fun _ => 0) := hT53.fr (fun q9 h7 h8 => fr60 q9 (by omega))
  have hT64 : ok_list X V57 (o + 6) 8 (0, fun _ => 0, fun _ => 0, fun _ => 0) := hT54.fr (fun q9 h7 h8 => fr60 q9 (by omega))
  refine lv_dup C0.1 C0.2.1 dX2_init_42 rfl ?_
  refine lv_bipush (v := 8) C0.1 C0.2.1 dX2_init_43 (by decide) ?_
  refine hw_sz (fun hzz => ?_)
  refine hv_cI C0 hOO w kl_X2_19 ki_X1_init (n_X1_init8 (o := o + 10) (fun q h => hA q (by omega)) hN59) (by have h7 := w.2.1; have h6 := w.1.lt hN59; omega) (by decide) (by decide) rfl hl.1 rfl (Nat.le_of_ble_eq_true rfl) dX2_init_45 ⟨(Nat.le_of_ble_eq_true rfl), (Nat.le_of_ble_eq_true rfl)⟩ (fun V65 Hq lq hp66 w _ => ?_)
  clear hzz
  refine W.widen (k := 13) (n := 78) (Nat.le_of_ble_eq_true rfl) (Nat.le_of_ble_eq_true rfl) ?_
  obtain ⟨p0, p1, p2, p3, pf67⟩ := hp66
  have fr68 : ∀ q : Nat, q < o + 10 → V65 q = V57 q := pf67
  have hV69 : V65 (o + 1) = some (.inl (X.2.1 3, 6, .inr (.inr (.inr (.inr (fun _ => none)))))) := (fr68 _ (by omega)).trans hV61
  have hV70 : V65 o = some (.inr (2, [.ref (o + 1), .ref (o + 2), .ref (o + 6), .null])) := (fr68 _ (by omega)).trans hV62
  have hT71 : ok_list X V65 (o + 2) 4 (0, fun _ => 0, fun _ => 0, fun _ => 0) := hT63.fr (fun q9 h7 h8 => fr68 q9 (by omega))
  have hT72 : ok_list X V65 (o + 6) 8 (0, fun _ => 0, fun _ => 0, fun _ => 0) := hT64.fr (fun q9 h7 h8 => fr68 q9 (by omega))
  have hT73 : ok_list X V65 (o + 10) 8 (0, fun _ => 0, fun _ => 0, fun _ => 0) := ⟨_, _, _, p0, p1, p2, p3, fun j hj => absurd hj (Nat.not_lt_zero j)⟩
  have hN74 := p3
  refine hv_putF C0 hnm w kc_X2 3 (by decide) rfl rfl hq_88 rfl hV70 rfl rfl (by simp) dX2_init_48 (fun Hq lq w => ?_)
  obtain ⟨V75, eV76⟩ : ∃ W9, W9 = hv_up V65 o (.inr (2, [.ref (o + 1), .ref (o + 2), .ref (o + 6), .ref (o + 10)])) := ⟨_, rfl⟩
  have w : hv_w X s V75 Hq lq := by rw [eV76]; exact w
  have fr77 : ∀ q : Nat, q ≠ o → V75 q = V65 q := fun q h => by rw [eV76]; exact hv_un h
  have hV78 : V75 (o + 1) = some (.inl (X.2.1 3, 6, .inr (.inr (.inr (.inr (fun _ => none)))))) := (fr77 _ (by omega)).trans hV69
  have hT79 : ok_list X V75 (o + 2) 4 (0, fun _ => 0, fun _ => 0, fun _ => 0) := hT71.fr (fun q9 h7 h8 => fr77 q9 (by omega))
  have hT80 : ok_list X V75 (o + 6) 8 (0, fun _ => 0, fun _ => 0, fun _ => 0) := hT72.fr (fun q9 h7 h8 => fr77 q9 (by omega))
  have hT81 : ok_list X V75 (o + 10) 8 (0, fun _ => 0, fun _ => 0, fun _ => 0) := hT73.fr (fun q9 h7 h8 => fr77 q9 (by omega))
  have hV82 : V75 o = some (.inr (2, [.ref (o + 1), .ref (o + 2), .ref (o + 6), .ref (o + 10)])) := by rw [eV76]; exact hv_us
  have hN83 := (fr77 _ (by omega)).trans hN74
  refine lv_iconst (v := 0) C0.1 C0.2.1 dX2_init_51 (by decide) ?_
  refine lv_istore_n (lv' := [(1, .int 0), (0, .ref o)]) C0.1 C0.2.1 dX2_init_52 rfl hl (by decide) rfl (fun ls hl => ?_)
  have hl : lv_has ls 2 [(1, .int (nI 0)), (0, .ref o)] := by rw [show ((nI 0)) = (0) from rfl]; exact hl
  have hFRa : ∀ q : Nat, q < o → V75 q = V q := (fun q hq => ((fr77 q (by omega)).trans ((fr68 q (by omega)).trans ((fr60 q (by omega)).trans ((fr51 q (by omega)).trans ((fr43 q (by omega)).trans ((fr36 q (by omega)).trans ((fr28 q (by omega)).trans ((fr21 q (by omega)).trans ((fr15 q (by omega)).trans ((fr8 q (by omega)).trans (fr4 q (by omega)))))))))))))
  have loopa : ∀ (m9 i9 : Nat) (V8 : hv_V) (rfa : Nat → Option Nat) (Hq : Heap) (lq : List Loc) (ls : Array Slot), i9 + m9 = 6 → V8 (o + 1) = some (qE X 3 6 rfa) → (∀ j, j < i9 → rfa j = some (o + 14 + 2 * j)) → (∀ j, j < i9 → ok_row X V8 (o + 14 + 2 * j) 0 0 (fun _ => 0)) → (∀ q : Nat, (q < o + 14 ∧ q ≠ o + 1) → V8 q = V75 q) → Hq.size = o + 14 + 2 * i9 → hv_w X s V8 Hq lq → lv_has ls 2 [(0, .ref o), (1, .int (nI i9))] → W p l e (hv_rm 2 25 192) s m ([.ref o] : List Value).toArray below meth c Hq lq (13 + 2 * i9) (78 + 19 * i9) (MQ below (hv_QC X (o + 1) 25 (fun V1 => ok_page X V1 o hs_P0 ∧ ∀ q : Nat, q < o → V1 q = V q)) ([.ref o] : List Value).toArray s 25 192 X.2.2.1) (F0 m 53 ls []) := by
    clear w hl
    intro m9
    induction m9 with
    | zero =>
      intro i9 V8 rfa Hq lq ls hi ha8 hrfa hela hfa hz8 w hl
      have q0 : V8 o = some (.inr (2, [.ref (o + 1), .ref (o + 2), .ref (o + 6), .ref (o + 10)])) := (hfa _ (by omega)).trans hV82
      obtain rfl : i9 = 6 := by omega
      refine W.widen (k := 25) (n := 192) (by omega) (by omega) ?_
      have hT84 : ok_list X V8 (o + 2) 4 (0, fun _ => 0, fun _ => 0, fun _ => 0) := hT79.fr (fun q9 h7 h8 => hfa q9 (by omega))
      have hT85 : ok_list X V8 (o + 6) 8 (0, fun _ => 0, fun _ => 0, fun _ => 0) := hT80.fr (fun q9 h7 h8 => hfa q9 (by omega))
      have hT86 : ok_list X V8 (o + 10) 8 (0, fun _ => 0, fun _ => 0, fun _ => 0) := hT81.fr (fun q9 h7 h8 => hfa q9 (by omega))
      have hFQa : ∀ q : Nat, q < o → V8 q = V q := fun q hq => (hfa q (by omega)).trans (hFRa q hq)
      have hN87 := (hela 5 (by decide)).2
      rw [show nI 6 = (6 : Int32) from rfl] at hl
      refine lv_iload_n C0.1 C0.2.1 dX2_init_53 rfl (lv_at hl 1 rfl) ?_
      refine lv_bipush (v := 6) C0.1 C0.2.1 dX2_init_54 (by decide) ?_
      refine lv_icmp_ge (tgt := 78) C0.1 C0.2.1 dX2_init_56 (by decide) (fun _ => ?_) (fun h9 => absurd h9 (by decide))
      refine hw_sz (fun hzz => ?_)
      exact hv_vretC (k := 0) C0 w hr hlk (by have h7 := w.2.1; have h6 := w.1.lt hN87; omega) (⟨⟨q0, ⟨rfa, ha8, hrfa⟩, fun j hj => hela j hj, hT84, hT85, hT86⟩, (fun q hq => (hFQa q (by omega)))⟩) dX2_init_78
    | succ m9 ih =>
      intro i9 V8 rfa Hq lq ls hi ha8 hrfa hela hfa hz8 w hl
      have q0 : V8 o = some (.inr (2, [.ref (o + 1), .ref (o + 2), .ref (o + 6), .ref (o + 10)])) := (hfa _ (by omega)).trans hV82
      refine lv_iload_n C0.1 C0.2.1 dX2_init_53 rfl (lv_at hl 1 rfl) ?_
      refine lv_bipush (v := 6) C0.1 C0.2.1 dX2_init_54 (by decide) ?_
      refine lv_icmp_ge (tgt := 78) C0.1 C0.2.1 dX2_init_56 (by decide) (fun c_56 => absurd c_56 (show ¬ nI 6 ≤ nI i9 from nI_ge (by omega) (by omega))) (fun c_56 => ?_)
      refine lv_aload_n C0.1 C0.2.1 dX2_init_59 rfl (lv_at hl 0 rfl) ?_
      refine gf_X2_11 C0 w q0 rfl dX2_init_60 ?_
      refine lv_iload_n C0.1 C0.2.1 dX2_init_63 rfl (lv_at hl 1 rfl) ?_
      refine hw_sz (fun hzz => ?_)
      refine hv_new (fs := [.int 0, .int 0, .null]) C0 w hAA kc_X3 kx_X2_9 kn_X3 kz_X3 (fun j hj => by rcases (show j = 0 ∨ j = 1 ∨ j = 2 by omega) with rfl | rfl | rfl <;> rfl) (show 13 + 2 * i9 + 1 ≤ 25 by omega) (show 78 + 19 * i9 + 3 ≤ 192 by omega) (sz := o + 14 + 2 * i9) (by have h7 := w.2.1; omega) dX2_init_64 (fun Hq w _ => ?_)
      clear hzz
      refine W.widen (k := 13 + 2 * i9 + 1) (n := 78 + 19 * i9 + 3) (by omega) (by omega) ?_
      obtain ⟨V88, eV89⟩ : ∃ W9, W9 = hv_up V8 (o + 14 + 2 * i9) (.inr (3, [.int 0, .int 0, .null])) := ⟨_, rfl⟩
      rw [← eV89] at w
      have hN90 : V88 (o + 14 + 2 * i9) = some (.inr (3, [.int 0, .int 0, .null])) := by rw [eV89]; exact hv_us
      have fr91 : ∀ q : Nat, q ≠ o + 14 + 2 * i9 → V88 q = V8 q := fun q h => by rw [eV89]; exact hv_un h
      have hV92 : V88 o = some (.inr (2, [.ref (o + 1), .ref (o + 2), .ref (o + 6), .ref (o + 10)])) := (fr91 _ (by omega)).trans q0
      have hV93 : V88 (o + 1) = some (.inl (X.2.1 3, 6, .inr (.inr (.inr (.inr rfa))))) := (fr91 _ (by omega)).trans ha8
      refine lv_dup C0.1 C0.2.1 dX2_init_67 rfl ?_
      refine hw_sz (fun hzz => ?_)
      refine hv_cI C0 hOO w kl_X2_32 ki_X3_init (n_X3_init (o := o + 14 + 2 * i9) (fun q h => hA q (by omega)) hN90) (by have h7 := w.2.1; have h6 := w.1.lt hN90; omega) (by decide) (by decide) rfl hl.1 rfl (Nat.le_of_ble_eq_true rfl) dX2_init_68 ⟨(show 13 + 2 * i9 + 1 + 1 ≤ 25 by omega), (show 78 + 19 * i9 + 3 + 16 ≤ 192 by omega)⟩ (fun V94 Hq lq hp95 w _ => ?_)
      clear hzz
      refine W.widen (k := 13 + 2 * i9 + 1 + 1) (n := 78 + 19 * i9 + 3 + 16) (by omega) (by omega) ?_
      obtain ⟨p0, pf96⟩ := hp95
      have fr97 : ∀ q : Nat, q < o + 14 + 2 * i9 → V94 q = V88 q := pf96
      have hV98 : V94 o = some (.inr (2, [.ref (o + 1), .ref (o + 2), .ref (o + 6), .ref (o + 10)])) := (fr97 _ (by omega)).trans hV92
      have hV99 : V94 (o + 1) = some (.inl (X.2.1 3, 6, .inr (.inr (.inr (.inr rfa))))) := (fr97 _ (by omega)).trans hV93
      have hT100 : ok_row X V94 (o + 14 + 2 * i9) 0 0 (fun _ => 0) := p0
      have hN101 := p0.2
      refine hv_astq 3 C0 w rfl (r := (RX3, TX3, 3)) rfl hV99 hT100.1 (hn_in (by omega) (by decide)) dX2_init_71 (fun Hq lq w => ?_)
      rw [nI_clamp (by omega)] at w
      obtain ⟨V102, eV103⟩ : ∃ W9, W9 = hv_up V94 (o + 1) (.inl (X.2.1 3, 6, .inr (.inr (.inr (.inr (va_up rfa i9 (some (o + 14 + 2 * i9)))))))) := ⟨_, rfl⟩
      have w : hv_w X s V102 Hq lq := by rw [eV103]; exact w
      have fr104 : ∀ q : Nat, q ≠ o + 1 → V102 q = V94 q := fun q h => by rw [eV103]; exact hv_un h
      have hV105 : V102 o = some (.inr (2, [.ref (o + 1), .ref (o + 2), .ref (o + 6), .ref (o + 10)])) := (fr104 _ (by omega)).trans hV98
      have hT106 : ok_row X V102 (o + 14 + 2 * i9) 0 0 (fun _ => 0) := hT100.fr (fun q9 h7 h8 => fr104 q9 (by omega))
      have hV107 : V102 (o + 1) = some (.inl (X.2.1 3, 6, .inr (.inr (.inr (.inr (va_up rfa i9 (some (o + 14 + 2 * i9)))))))) := by rw [eV103]; exact hv_us
      have hN108 := (fr104 _ (by omega)).trans hN101
      refine lv_iinc (v := (nI i9) + 1) (lv' := [(1, .int ((nI i9) + 1)), (0, .ref o)]) C0.1 C0.2.1 dX2_init_72 hl (k := 1) rfl rfl (by decide) rfl (fun ls hl => ?_)
      refine lv_goto (tgt := 53) C0.1 C0.2.1 dX2_init_75 (by decide) ?_
      have hel9 : ∀ j, j < i9 + 1 → ok_row X V102 (o + 14 + 2 * j) 0 0 (fun _ => 0) := by
        intro j hj
        rcases Nat.lt_or_ge j i9 with r9 | r9
        · exact (hela j r9).fr (fun q9 h7 h8 => ((fr104 q9 (by omega)).trans ((fr97 q9 (by omega)).trans (fr91 q9 (by omega)))))
        · rw [show j = i9 by omega]; exact hT106
      refine hw_sz (fun hzz => ?_)
      refine W.widen (k := 13 + 2 * (i9 + 1)) (n := 78 + 19 * (i9 + 1)) (by omega) (by omega) ?_
      exact ih (i9 + 1) V102 _ _ _ ls (by omega) hV107 (hw_rf (f := fun j => o + 14 + 2 * j) hrfa) hel9 (fun q9 h9 => ((fr104 q9 (by omega)).trans ((fr97 q9 (by omega)).trans (fr91 q9 (by omega)))).trans (hfa q9 h9)) (by have h7 := w.2.1; have h6 := w.1.lt hN108; omega) w (by have h9 := (lv_sub (l' := [(0, .ref o), (1, .int (nI i9 + 1))]) hl [1, 0] rfl); rw [nI_1] at h9; exact h9)
  refine hw_sz (fun hzz => ?_)
  exact loopa 6 0 V75 _ _ _ ls (by omega) hV78 (fun j hj => absurd hj (Nat.not_lt_zero j)) (fun j hj => absurd hj (Nat.not_lt_zero j)) (fun _ _ => rfl) (by have h7 := w.2.1; have h6 := w.1.lt hN83; omega) w (lv_sub hl [1, 0] rfl)
