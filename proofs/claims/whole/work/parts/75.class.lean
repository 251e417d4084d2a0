set_option maxHeartbeats 8000000 in
set_option maxRecDepth 100000 in
theorem n_X6_init {l : Launch} {X : hv_X} {V : hv_V} {o : Nat} (hA : ∀ q, o < q → X.2.2.1 q) (hO : V o = some (.inr (6, [.null, .null, .int 0, .null, .null, .null, .null, .null, .null, .null]))) : hv_Mc l X 3 yX6_init cX6_init 2 (o + 1) 91 1034 V [.ref o] (fun V1 => okX X V1 o hs_0 ∧ ∀ q : Nat, q < o → V1 q = V q) := by
  refine hv_enterC (by decide) (Nat.le_of_ble_eq_true rfl) ?_
  intro p e s m below meth c ls C0 hOO hz0 hr hlk hnm w hl
  have hAA : ∀ q, s.heap.size ≤ q → X.2.2.1 q := fun q h => hA q (by omega)
  have hl : lv_has ls 2 [(0, .ref o)] := hl
  refine lv_aload_n C0.1 C0.2.1 dX6_init_0 rfl (lv_at hl 0 rfl) ?_
  refine hv_objI C0 ko_X6 hl.1 dX6_init_1 (by decide) ?_
  refine lv_aload_n C0.1 C0.2.1 dX6_init_4 rfl (lv_at hl 0 rfl) ?_
  refine hw_sz (fun hzz => ?_)
  refine hv_new (fs := [.null, .null, .null, .null]) C0 w hAA kc_X2 kx_X6_9 kn_X2 kz_X2 (fun j hj => by rcases (show j = 0 ∨ j = 1 ∨ j = 2 ∨ j = 3 by omega) with rfl | rfl | rfl | rfl <;> rfl) (Nat.le_of_ble_eq_true rfl) (Nat.le_of_ble_eq_true rfl) (sz := o + 1) (by have h7 := w.2.1; omega) dX6_init_5 (fun Hq w _ => ?_)
  refine W.widen (k := 1) (n := 4) (Nat.le_of_ble_eq_true rfl) (Nat.le_of_ble_eq_true rfl) ?_
  obtain ⟨V1, eV2⟩ : ∃ W9, W9 = hv_up V (o + 1) (.inr (2, [.null, .null, .null, .null])) := ⟨_, rfl⟩
  rw [← eV2] at w
  have hN3 : V1 (o + 1) = some (.inr (2, [.null, .null, .null, .null])) := by rw [eV2]; exact hv_us
  have fr4 : ∀ q : Nat, q ≠ o + 1 → V1 q = V q := fun q h => by rw [eV2]; exact hv_un h
  have hV5 : V1 o = some (.inr (6, [.null, .null, .int 0, .null, .null, .null, .null, .null, .null, .null])) := (fr4 _ (by omega)).trans hO
  refine lv_dup C0.1 C0.2.1 dX6_init_8 rfl ?_
  refine hw_sz (fun hzz => ?_)
  refine hv_cI C0 hOO w kl_X6_11 ki_X2_init (n_X2_init (o := o + 1) (fun q h => hA q (by omega)) hN3) (by have h7 := w.2.1; have h6 := w.1.lt hN3; omega) (by decide) (by decide) rfl hl.1 rfl (Nat.le_of_ble_eq_true rfl) dX6_init_9 ⟨(Nat.le_of_ble_eq_true rfl), (Nat.le_of_ble_eq_true rfl)⟩ (fun V6 Hq lq hp7 w _ => ?_)
  refine W.widen (k := 26) (n := 196) (Nat.le_of_ble_eq_true rfl) (Nat.le_of_ble_eq_true rfl) ?_
  obtain ⟨p0, pf8⟩ := hp7
  have fr9 : ∀ q : Nat, q < o + 1 → V6 q = V1 q := pf8
  have hV10 : V6 o = some (.inr (6, [.null, .null, .int 0, .null, .null, .null, .null, .null, .null, .null])) := (fr9 _ (by omega)).trans hV5
  have hT11 : ok_page X V6 (o + 1) hs_P0 := p0
  have hN12 := (p0.2.2.1 5 (by decide)).2
  refine hv_putF C0 hnm w kc_X6 0 (by decide) rfl rfl hq_113 rfl hV10 rfl rfl (by simp) dX6_init_12 (fun Hq lq w => ?_)
  obtain ⟨V13, eV14⟩ : ∃ W9, W9 = hv_up V6 o (.inr (6, [.ref (o + 1), .null, .int 0, .null, .null, .null, .null, .null, .null, .null])) := ⟨_, rfl⟩
  have w : hv_w X s V13 Hq lq := by rw [eV14]; exact w
  have fr15 : ∀ q : Nat, q ≠ o → V13 q = V6 q := fun q h => by rw [eV14]; exact hv_un h
  have hT16 : ok_page X V13 (o + 1) hs_P0 := hT11.fr (fun q9 h7 h8 => fr15 q9 (by omega))
  have hV17 : V13 o = some (.inr (6, [.ref (o + 1), .null, .int 0, .null, .null, .null, .null, .null, .null, .null])) := by rw [eV14]; exact hv_us
  have hN18 := (fr15 _ (by omega)).trans hN12
  refine lv_aload_n C0.1 C0.2.1 dX6_init_15 rfl (lv_at hl 0 rfl) ?_
  refine hw_sz (fun hzz => ?_)
  refine hv_new (fs := [.null, .null, .null, .null]) C0 w hAA kc_X2 kx_X6_9 kn_X2 kz_X2 (fun j hj => by rcases (show j = 0 ∨ j = 1 ∨ j = 2 ∨ j = 3 by omega) with rfl | rfl | rfl | rfl <;> rfl) (Nat.le_of_ble_eq_true rfl) (Nat.le_of_ble_eq_true rfl) (sz := o + 27) (by have h7 := w.2.1; have h6 := w.1.lt hN18; omega) dX6_init_16 (fun Hq w _ => ?_)
  refine W.widen (k := 27) (n := 200) (Nat.le_of_ble_eq_true rfl) (Nat.le_of_ble_eq_true rfl) ?_
  obtain ⟨V19, eV20⟩ : ∃ W9, W9 = hv_up V13 (o + 27) (.inr (2, [.null, .null, .null, .null])) := ⟨_, rfl⟩
  rw [← eV20] at w
  have hN21 : V19 (o + 27) = some (.inr (2, [.null, .null, .null, .null])) := by rw [eV20]; exact hv_us
  have fr22 : ∀ q : Nat, q ≠ o + 27 → V19 q = V13 q := fun q h => by rw [eV20]; exact hv_un h
  have hV23 : V19 o = some (.inr (6, [.ref (o + 1), .null, .int 0, .null, .null, .null, .null, .null, .null, .null])) := (fr22 _ (by omega)).trans hV17
  have hT24 : ok_page X V19 (o + 1) hs_P0 := hT16.fr (fun q9 h7 h8 => fr22 q9 (by omega))
  refine lv_dup C0.1 C0.2.1 dX6_init_19 rfl ?_
  refine hw_sz (fun hzz => ?_)
  refine hv_cI C0 hOO w kl_X6_11 ki_X2_init (n_X2_init (o := o + 27) (fun q h => hA q (by omega)) hN21) (by have h7 := w.2.1; have h6 := w.1.lt hN21; omega) (by decide) (by decide) rfl hl.1 rfl (Nat.le_of_ble_eq_true rfl) dX6_init_20 ⟨(Nat.le_of_ble_eq_true rfl), (Nat.le_of_ble_eq_true rfl)⟩ (fun V25 Hq lq hp26 w _ => ?_)
  refine W.widen (k := 52) (n := 392) (Nat.le_of_ble_eq_true rfl) (Nat.le_of_ble_eq_true rfl) ?_
  obtain ⟨p0, pf27⟩ := hp26
  have fr28 : ∀ q : Nat, q < o + 27 → V25 q = V19 q := pf27
  have hV29 : V25 o = some (.inr (6, [.ref (o + 1), .null, .int 0, .null, .null, .null, .null, .null, .null, .null])) := (fr28 _ (by omega)).trans hV23
  have hT30 : ok_page X V25 (o + 1) hs_P0 := hT24.fr (fun q9 h7 h8 => fr28 q9 (by omega))
  have hT31 : ok_page X V25 (o + 27) hs_P0 := p0
  have hN32 := (p0.2.2.1 5 (by decide)).2
  refine hv_putF C0 hnm w kc_X6 1 (by decide) rfl rfl hq_114 rfl hV29 rfl rfl (by simp) dX6_init_23 (fun Hq lq w => ?_)
  obtain ⟨V33, eV34⟩ : ∃ W9, W9 = hv_up V25 o (.inr (6, [.ref (o + 1), .ref (o + 27), .int 0, .null, .null, .null, .null, .null, .null, .null])) := ⟨_, rfl⟩
  have w : hv_w X s V33 Hq lq := by rw [eV34]; exact w
  have fr35 : ∀ q : Nat, q ≠ o → V33 q = V25 q := fun q h => by rw [eV34]; exact hv_un h
  have hT36 : ok_page X V33 (o + 1) hs_P0 := hT30.fr (fun q9 h7 h8 => fr35 q9 (by omega))
  have hT37 : ok_page X V33 (o + 27) hs_P0 := hT31.fr (fun q9 h7 h8 => fr35 q9 (by omega))
  have hV38 : V33 o = some (.inr (6, [.ref (o + 1), .ref (o + 27), .int 0, .null, .null, .null, .null, .null, .null, .null])) := by rw [eV34]; exact hv_us
  have hN39 := (fr35 _ (by omega)).trans hN32
  refine lv_aload_n C0.1 C0.2.1 dX6_init_26 rfl (lv_at hl 0 rfl) ?_
  refine hw_sz (fun hzz => ?_)
  refine hv_new (fs := [.null, .int 0, .int 0, .int 0, .null, .null]) C0 w hAA kc_X4 kx_X6_21 kn_X4 kz_X4 (fun j hj => by rcases (show j = 0 ∨ j = 1 ∨ j = 2 ∨ j = 3 ∨ j = 4 ∨ j = 5 by omega) with rfl | rfl | rfl | rfl | rfl | rfl <;> rfl) (Nat.le_of_ble_eq_true rfl) (Nat.le_of_ble_eq_true rfl) (sz := o + 53) (by have h7 := w.2.1; have h6 := w.1.lt hN39; omega) dX6_init_27 (fun Hq w _ => ?_)
  refine W.widen (k := 53) (n := 398) (Nat.le_of_ble_eq_true rfl) (Nat.le_of_ble_eq_true rfl) ?_
  obtain ⟨V40, eV41⟩ : ∃ W9, W9 = hv_up V33 (o + 53) (.inr (4, [.null, .int 0, .int 0, .int 0, .null, .null])) := ⟨_, rfl⟩
  rw [← eV41] at w
  have hN42 : V40 (o + 53) = some (.inr (4, [.null, .int 0, .int 0, .int 0, .null, .null])) := by rw [eV41]; exact hv_us
  have fr43 : ∀ q : Nat, q ≠ o + 53 → V40 q = V33 q := fun q h => by rw [eV41]; exact hv_un h
  have hV44 : V40 o = some (.inr (6, [.ref (o + 1), .ref (o + 27), .int 0, .null, .null, .null, .null, .null, .null, .null])) := (fr43 _ (by omega)).trans hV38
  have hT45 : ok_page X V40 (o + 1) hs_P0 := hT36.fr (fun q9 h7 h8 => fr43 q9 (by omega))
  have hT46 : ok_page X V40 (o + 27) hs_P0 := hT37.fr (fun q9 h7 h8 => fr43 q9 (by omega))
  refine lv_dup C0.1 C0.2.1 dX6_init_30 rfl ?_
  refine hw_sz (fun hzz => ?_)
  refine hv_cI C0 hOO w kl_X6_23 ki_X4_init (n_X4_init (o := o + 53) (fun q h => hA q (by omega)) hN42) (by have h7 := w.2.1; have h6 := w.1.lt hN42; omega) (by decide) (by decide) rfl hl.1 rfl (Nat.le_of_ble_eq_true rfl) dX6_init_31 ⟨(Nat.le_of_ble_eq_true rfl), (Nat.le_of_ble_eq_true rfl)⟩ (fun V47 Hq lq hp48 w _ => ?_)
  refine W.widen (k := 56) (n := 558) (Nat.le_of_ble_eq_true rfl) (Nat.le_of_ble_eq_true rfl) ?_
  obtain ⟨p0, p1, p2, p3, pf49⟩ := hp48
  have fr50 : ∀ q : Nat, q < o + 53 → V47 q = V40 q := pf49
  have hV51 : V47 o = some (.inr (6, [.ref (o + 1), .ref (o + 27), .int 0, .null, .null, .null, .null, .null, .null, .null])) := (fr50 _ (by omega)).trans hV44
  have hT52 : ok_page X V47 (o + 1) hs_P0 := hT45.fr (fun q9 h7 h8 => fr50 q9 (by omega))
  have hT53 : ok_page X V47 (o + 27) hs_P0 := hT46.fr (fun q9 h7 h8 => fr50 q9 (by omega))
  have hT54 : ok_text X V47 (o + 53) (0, fun _ => 0) := ⟨0, 0, _, _, p0, p1, p2, p3⟩
  have hN55 := p3
  refine hv_putF C0 hnm w kc_X6 3 (by decide) rfl rfl hq_116 rfl hV51 rfl rfl (by simp) dX6_init_34 (fun Hq lq w => ?_)
  obtain ⟨V56, eV57⟩ : ∃ W9, W9 = hv_up V47 o (.inr (6, [.ref (o + 1), .ref (o + 27), .int 0, .ref (o + 53), .null, .null, .null, .null, .null, .null])) := ⟨_, rfl⟩
  have w : hv_w X s V56 Hq lq := by rw [eV57]; exact w
  have fr58 : ∀ q : Nat, q ≠ o → V56 q = V47 q := fun q h => by rw [eV57]; exact hv_un h
  have hT59 : ok_page X V56 (o + 1) hs_P0 := hT52.fr (fun q9 h7 h8 => fr58 q9 (by omega))
  have hT60 : ok_page X V56 (o + 27) hs_P0 := hT53.fr (fun q9 h7 h8 => fr58 q9 (by omega))
  have hT61 : ok_text X V56 (o + 53) (0, fun _ => 0) := hT54.fr (fun q9 h7 h8 => fr58 q9 (by omega))
  have hV62 : V56 o = some (.inr (6, [.ref (o + 1), .ref (o + 27), .int 0, .ref (o + 53), .null, .null, .null, .null, .null, .null])) := by rw [eV57]; exact hv_us
  have hN63 := (fr58 _ (by omega)).trans hN55
  refine lv_aload_n C0.1 C0.2.1 dX6_init_37 rfl (lv_at hl 0 rfl) ?_
  refine lv_bipush (v := 6) C0.1 C0.2.1 dX6_init_38 (by decide) ?_
  refine hw_sz (fun hzz => ?_)
  refine hv_newq 4 C0 w hAA kx_X6_28 hOO.2.1 rfl (N := 6) (by decide) (by decide) (by decide) (Nat.le_of_ble_eq_true rfl) (Nat.le_of_ble_eq_true rfl) (sz := o + 57) (by have h7 := w.2.1; have h6 := w.1.lt hN63; omega) dX6_init_40 (fun Hq w _ => ?_)
  refine W.widen (k := 57) (n := 564) (Nat.le_of_ble_eq_true rfl) (Nat.le_of_ble_eq_true rfl) ?_
  obtain ⟨V64, eV65⟩ : ∃ W9, W9 = hv_up V56 (o + 57) (.inl (X.2.1 4, 6, .inr (.inr (.inr (.inr (fun _ => none)))))) := ⟨_, rfl⟩
  rw [← eV65] at w
  have hN66 : V64 (o + 57) = some (.inl (X.2.1 4, 6, .inr (.inr (.inr (.inr (fun _ => none)))))) := by rw [eV65]; exact hv_us
  have fr67 : ∀ q : Nat, q ≠ o + 57 → V64 q = V56 q := fun q h => by rw [eV65]; exact hv_un h
  have hV68 : V64 o = some (.inr (6, [.ref (o + 1), .ref (o + 27), .int 0, .ref (o + 53), .null, .null, .null, .null, .null, .null])) := (fr67 _ (by omega)).trans hV62
  have hT69 : ok_page X V64 (o + 1) hs_P0 := hT59.fr (fun q9 h7 h8 => fr67 q9 (by omega))
  have hT70 : ok_page X V64 (o + 27) hs_P0 := hT60.fr (fun q9 h7 h8 => fr67 q9 (by omega))
  have hT71 : ok_text X V64 (o + 53) (0, fun _ => 0) := hT61.fr (fun q9 h7 h8 => fr67 q9 (by omega))
  refine hv_putF C0 hnm w kc_X6 4 (by decide) rfl rfl hq_117 rfl hV68 rfl rfl (by simp) dX6_init_43 (fun Hq lq w => ?_)
  obtain ⟨V72, eV73⟩ : ∃ W9, W9 = hv_up V64 o (.inr (6, [.ref (o + 1), .ref (o + 27), .int 0, .ref (o + 53), .ref (o + 57), .null, .null, .null, .null, .null])) := ⟨_, rfl⟩
  have w : hv_w X s V72 Hq lq := by rw [eV73]; exact w
  have fr74 : ∀ q : Nat, q ≠ o → V72 q = V64 q := fun q h => by rw [eV73]; exact hv_un h
  have hV75 : V72 (o + 57) = some (.inl (X.2.1 4, 6, .inr (.inr (.inr (.inr (fun _ => none)))))) := (fr74 _ (by omega)).trans hN66
  have hT76 : ok_page X V72 (o + 1) hs_P0 := hT69.fr (fun q9 h7 h8 => fr74 q9 (by omega))
  have hT77 : ok_page X V72 (o + 27) hs_P0 := hT70.fr (fun q9 h7 h8 => fr74 q9 (by omega))
  have hT78 : ok_text X V72 (o + 53) (0, fun _ => 0) := hT71.fr (fun q9 h7 h8 => fr74 q9 (by omega))
  have hV79 : V72 o = some (.inr (6, [.ref (o + 1), .ref (o + 27), .int 0, .ref (o + 53), .ref (o + 57), .null, .null, .null, .null, .null])) := by rw [eV73]; exact hv_us
  have hN80 := (fr74 _ (by omega)).trans hN66
  refine lv_aload_n C0.1 C0.2.1 dX6_init_46 rfl (lv_at hl 0 rfl) ?_
  refine hw_sz (fun hzz => ?_)
  refine hv_new (fs := [.int 0, .int 0, .null]) C0 w hAA kc_X3 kx_X6_34 kn_X3 kz_X3 (fun j hj => by rcases (show j = 0 ∨ j = 1 ∨ j = 2 by omega) with rfl | rfl | rfl <;> rfl) (Nat.le_of_ble_eq_true rfl) (Nat.le_of_ble_eq_true rfl) (sz := o + 58) (by have h7 := w.2.1; have h6 := w.1.lt hN80; omega) dX6_init_47 (fun Hq w _ => ?_)
  refine W.widen (k := 58) (n := 567) (Nat.le_of_ble_eq_true rfl) (Nat.le_of_ble_eq_true rfl) ?_
  obtain ⟨V81, eV82⟩ : ∃ W9, W9 = hv_up V72 (o + 58) (.inr (3, [.int 0, .int 0, .null])) := ⟨_, rfl⟩
  rw [← eV82] at w
  have hN83 : V81 (o + 58) = some (.inr (3, [.int 0, .int 0, .null])) := by rw [eV82]; exact hv_us
  have fr84 : ∀ q : Nat, q ≠ o + 58 → V81 q = V72 q := fun q h => by rw [eV82]; exact hv_un h
  have hV85 : V81 (o + 57) = some (.inl (X.2.1 4, 6, .inr (.inr (.inr (.inr (fun _ => none)))))) := (fr84 _ (by omega)).trans hV75
  have hV86 : V81 o = some (.inr (6, [.ref (o + 1), .ref (o + 27), .int 0, .ref (o + 53), .ref (o + 57), .null, .null, .null, .null, .null])) := (fr84 _ (by omega)).trans hV79
  have hT87 : ok_page X V81 (o + 1) hs_P0 := hT76.fr (fun q9 h7 h8 => fr84 q9 (by omega))
  have hT88 : ok_page X V81 (o + 27) hs_P0 := hT77.fr (fun q9 h7 h8 => fr84 q9 (by omega))
  have hT89 : ok_text X V81 (o + 53) (0, fun _ => 0) := hT78.fr (fun q9 h7 h8 => fr84 q9 (by omega))
  refine lv_dup C0.1 C0.2.1 dX6_init_50 rfl ?_
  refine hw_sz (fun hzz => ?_)
  refine hv_cI C0 hOO w kl_X6_36 ki_X3_init (n_X3_init (o := o + 58) (fun q h => hA q (by omega)) hN83) (by have h7 := w.2.1; have h6 := w.1.lt hN83; omega) (by decide) (by decide) rfl hl.1 rfl (Nat.le_of_ble_eq_true rfl) dX6_init_51 ⟨(Nat.le_of_ble_eq_true rfl), (Nat.le_of_ble_eq_true rfl)⟩ (fun V90 Hq lq hp91 w _ => ?_)
  refine W.widen (k := 59) (n := 583) (Nat.le_of_ble_eq_true rfl) (Nat.le_of_ble_eq_true rfl) ?_
  obtain ⟨p0, pf92⟩ := hp91
  have fr93 : ∀ q : Nat, q < o + 58 → V90 q = V81 q := pf92
  have hV94 : V90 (o + 57) = some (.inl (X.2.1 4, 6, .inr (.inr (.inr (.inr (fun _ => none)))))) := (fr93 _ (by omega)).trans hV85
  have hV95 : V90 o = some (.inr (6, [.ref (o + 1), .ref (o + 27), .int 0, .ref (o + 53), .ref (o + 57), .null, .null, .null, .null, .null])) := (fr93 _ (by omega)).trans hV86
  have hT96 : ok_page X V90 (o + 1) hs_P0 := hT87.fr (fun q9 h7 h8 => fr93 q9 (by omega))
  have hT97 : ok_page X V90 (o + 27) hs_P0 := hT88.fr (fun q9 h7 h8 => fr93 q9 (by omega))
  have hT98 : ok_text X V90 (o + 53) (0, fun _ => 0) := hT89.fr (fun q9 h7 h8 => fr93 q9 (by omega))
  have hT99 : ok_row X V90 (o + 58) 0 0 (fun _ => 0) := p0
  have hN100 := p0.2
  refine hv_putF C0 hnm w kc_X6 5 (by decide) rfl rfl hq_118 rfl hV95 rfl rfl (by simp) dX6_init_54 (fun Hq lq w => ?_)
  obtain ⟨V101, eV102⟩ : ∃ W9, W9 = hv_up V90 o (.inr (6, [.ref (o + 1), .ref (o + 27), .int 0, .ref (o + 53), .ref (o + 57), .ref (o + 58), .null, .null, .null, .null])) := ⟨_, rfl⟩
  have w : hv_w X s V101 Hq lq := by rw [eV102]; exact w
  have fr103 : ∀ q : Nat, q ≠ o → V101 q = V90 q := fun q h => by rw [eV102]; exact hv_un h
  have hV104 : V101 (o + 57) = some (.inl (X.2.1 4, 6, .inr (.inr (.inr (.inr (fun _ => none)))))) := (fr103 _ (by omega)).trans hV94
  have hT105 : ok_page X V101 (o + 1) hs_P0 := hT96.fr (fun q9 h7 h8 => fr103 q9 (by omega))
  have hT106 : ok_page X V101 (o + 27) hs_P0 := hT97.fr (fun q9 h7 h8 => fr103 q9 (by omega))
  have hT107 : ok_text X V101 (o + 53) (0, fun _ => 0) := hT98.fr (fun q9 h7 h8 => fr103 q9 (by omega))
  have hT108 : ok_row X V101 (o + 58) 0 0 (fun _ => 0) := hT99.fr (fun q9 h7 h8 => fr103 q9 (by omega))
  have hV109 : V101 o = some (.inr (6, [.ref (o + 1), .ref (o + 27), .int 0, .ref (o + 53), .ref (o + 57), .ref (o + 58), .null, .null, .null, .null])) := by rw [eV102]; exact hv_us
  have hN110 := (fr103 _ (by omega)).trans hN100
  refine lv_aload_n C0.1 C0.2.1 dX6_init_57 rfl (lv_at hl 0 rfl) ?_
  refine hw_sz (fun hzz => ?_)
  refine hv_new (fs := [.long 0, .long 0, .int 0]) C0 w hAA kc_X0 kx_X6_41 kn_X0 kz_X0 (fun j hj => by rcases (show j = 0 ∨ j = 1 ∨ j = 2 by omega) with rfl | rfl | rfl <;> rfl) (Nat.le_of_ble_eq_true rfl) (Nat.le_of_ble_eq_true rfl) (sz := o + 60) (by have h7 := w.2.1; have h6 := w.1.lt hN110; omega) dX6_init_58 (fun Hq w _ => ?_)
  refine W.widen (k := 60) (n := 586) (Nat.le_of_ble_eq_true rfl) (Nat.le_of_ble_eq_true rfl) ?_
  obtain ⟨V111, eV112⟩ : ∃ W9, W9 = hv_up V101 (o + 60) (.inr (0, [.long 0, .long 0, .int 0])) := ⟨_, rfl⟩
  rw [← eV112] at w
  have hN113 : V111 (o + 60) = some (.inr (0, [.long 0, .long 0, .int 0])) := by rw [eV112]; exact hv_us
  have fr114 : ∀ q : Nat, q ≠ o + 60 → V111 q = V101 q := fun q h => by rw [eV112]; exact hv_un h
  have hV115 : V111 (o + 57) = some (.inl (X.2.1 4, 6, .inr (.inr (.inr (.inr (fun _ => none)))))) := (fr114 _ (by omega)).trans hV104
  have hV116 : V111 o = some (.inr (6, [.ref (o + 1), .ref (o + 27), .int 0, .ref (o + 53), .ref (o + 57), .ref (o + 58), .null, .null, .null, .null])) := (fr114 _ (by omega)).trans hV109
  have hT117 : ok_page X V111 (o + 1) hs_P0 := hT105.fr (fun q9 h7 h8 => fr114 q9 (by omega))
  have hT118 : ok_page X V111 (o + 27) hs_P0 := hT106.fr (fun q9 h7 h8 => fr114 q9 (by omega))
  have hT119 : ok_text X V111 (o + 53) (0, fun _ => 0) := hT107.fr (fun q9 h7 h8 => fr114 q9 (by omega))
  have hT120 : ok_row X V111 (o + 58) 0 0 (fun _ => 0) := hT108.fr (fun q9 h7 h8 => fr114 q9 (by omega))
  refine lv_dup C0.1 C0.2.1 dX6_init_61 rfl ?_
  refine hw_sz (fun hzz => ?_)
  refine hv_cI C0 hOO w kl_X6_43 ki_X0_init (n_X0_init (o := o + 60) (fun q h => hA q (by omega)) hN113) (by have h7 := w.2.1; have h6 := w.1.lt hN113; omega) (by decide) (by decide) rfl hl.1 rfl (Nat.le_of_ble_eq_true rfl) dX6_init_62 ⟨(Nat.le_of_ble_eq_true rfl), (Nat.le_of_ble_eq_true rfl)⟩ (fun V121 Hq lq hp122 w _ => ?_)
  refine W.widen (k := 60) (n := 586) (Nat.le_of_ble_eq_true rfl) (Nat.le_of_ble_eq_true rfl) ?_
  obtain ⟨p0, pf123⟩ := hp122
  have fr124 : ∀ q : Nat, q < o + 60 → V121 q = V111 q := pf123
  have hV125 : V121 (o + 57) = some (.inl (X.2.1 4, 6, .inr (.inr (.inr (.inr (fun _ => none)))))) := (fr124 _ (by omega)).trans hV115
  have hV126 : V121 o = some (.inr (6, [.ref (o + 1), .ref (o + 27), .int 0, .ref (o + 53), .ref (o + 57), .ref (o + 58), .null, .null, .null, .null])) := (fr124 _ (by omega)).trans hV116
  have hT127 : ok_page X V121 (o + 1) hs_P0 := hT117.fr (fun q9 h7 h8 => fr124 q9 (by omega))
  have hT128 : ok_page X V121 (o + 27) hs_P0 := hT118.fr (fun q9 h7 h8 => fr124 q9 (by omega))
  have hT129 : ok_text X V121 (o + 53) (0, fun _ => 0) := hT119.fr (fun q9 h7 h8 => fr124 q9 (by omega))
  have hT130 : ok_row X V121 (o + 58) 0 0 (fun _ => 0) := hT120.fr (fun q9 h7 h8 => fr124 q9 (by omega))
  have hT131 : V121 (o + 60) = some (fE (0, 1, 1)) := p0
  have hN132 := p0
  refine hv_putF C0 hnm w kc_X6 6 (by decide) rfl rfl hq_119 rfl hV126 rfl rfl (by simp) dX6_init_65 (fun Hq lq w => ?_)
  obtain ⟨V133, eV134⟩ : ∃ W9, W9 = hv_up V121 o (.inr (6, [.ref (o + 1), .ref (o + 27), .int 0, .ref (o + 53), .ref (o + 57), .ref (o + 58), .ref (o + 60), .null, .null, .null])) := ⟨_, rfl⟩
  have w : hv_w X s V133 Hq lq := by rw [eV134]; exact w
  have fr135 : ∀ q : Nat, q ≠ o → V133 q = V121 q := fun q h => by rw [eV134]; exact hv_un h
  have hV136 : V133 (o + 57) = some (.inl (X.2.1 4, 6, .inr (.inr (.inr (.inr (fun _ => none)))))) := (fr135 _ (by omega)).trans hV125
  have hT137 : ok_page X V133 (o + 1) hs_P0 := hT127.fr (fun q9 h7 h8 => fr135 q9 (by omega))
  have hT138 : ok_page X V133 (o + 27) hs_P0 := hT128.fr (fun q9 h7 h8 => fr135 q9 (by omega))
  have hT139 : ok_text X V133 (o + 53) (0, fun _ => 0) := hT129.fr (fun q9 h7 h8 => fr135 q9 (by omega))
  have hT140 : ok_row X V133 (o + 58) 0 0 (fun _ => 0) := hT130.fr (fun q9 h7 h8 => fr135 q9 (by omega))
  have hT141 : V133 (o + 60) = some (fE (0, 1, 1)) := (fr135 _ (by omega)).trans hT131
  have hV142 : V133 o = some (.inr (6, [.ref (o + 1), .ref (o + 27), .int 0, .ref (o + 53), .ref (o + 57), .ref (o + 58), .ref (o + 60), .null, .null, .null])) := by rw [eV134]; exact hv_us
  have hN143 := (fr135 _ (by omega)).trans hN132
  refine lv_aload_n C0.1 C0.2.1 dX6_init_68 rfl (lv_at hl 0 rfl) ?_
  refine hw_sz (fun hzz => ?_)
  refine hv_new (fs := [.long 0, .long 0, .int 0]) C0 w hAA kc_X0 kx_X6_41 kn_X0 kz_X0 (fun j hj => by rcases (show j = 0 ∨ j = 1 ∨ j = 2 by omega) with rfl | rfl | rfl <;> rfl) (Nat.le_of_ble_eq_true rfl) (Nat.le_of_ble_eq_true rfl) (sz := o + 61) (by have h7 := w.2.1; have h6 := w.1.lt hN143; omega) dX6_init_69 (fun Hq w _ => ?_)
  refine W.widen (k := 61) (n := 589) (Nat.le_of_ble_eq_true rfl) (Nat.le_of_ble_eq_true rfl) ?_
  obtain ⟨V144, eV145⟩ : ∃ W9, W9 = hv_up V133 (o + 61) (.inr (0, [.long 0, .long 0, .int 0])) := ⟨_, rfl⟩
  rw [← eV145] at w
  have hN146 : V144 (o + 61) = some (.inr (0, [.long 0, .long 0, .int 0])) := by rw [eV145]; exact hv_us
  have fr147 : ∀ q : Nat, q ≠ o + 61 → V144 q = V133 q := fun q h => by rw [eV145]; exact hv_un h
  have hV148 : V144 (o + 57) = some (.inl (X.2.1 4, 6, .inr (.inr (.inr (.inr (fun _ => none)))))) := (fr147 _ (by omega)).trans hV136
  have hV149 : V144 o = some (.inr (6, [.ref (o + 1), .ref (o + 27), .int 0, .ref (o + 53), .ref (o + 57), .ref (o + 58), .ref (o + 60), .null, .null, .null])) := (fr147 _ (by omega)).trans hV142
  have hT150 : ok_page X V144 (o + 1) hs_P0 := hT137.fr (fun q9 h7 h8 => fr147 q9 (by omega))
  have hT151 : ok_page X V144 (o + 27) hs_P0 := hT138.fr (fun q9 h7 h8 => fr147 q9 (by omega))
  have hT152 : ok_text X V144 (o + 53) (0, fun _ => 0) := hT139.fr (fun q9 h7 h8 => fr147 q9 (by omega))
  have hT153 : ok_row X V144 (o + 58) 0 0 (fun _ => 0) := hT140.fr (fun q9 h7 h8 => fr147 q9 (by omega))
  have hT154 : V144 (o + 60) = some (fE (0, 1, 1)) := (fr147 _ (by omega)).trans hT141
  refine lv_dup C0.1 C0.2.1 dX6_init_72 rfl ?_
  refine hw_sz (fun hzz => ?_)
  refine hv_cI C0 hOO w kl_X6_43 ki_X0_init (n_X0_init (o := o + 61) (fun q h => hA q (by omega)) hN146) (by have h7 := w.2.1; have h6 := w.1.lt hN146; omega) (by decide) (by decide) rfl hl.1 rfl (Nat.le_of_ble_eq_true rfl) dX6_init_73 ⟨(Nat.le_of_ble_eq_true rfl), (Nat.le_of_ble_eq_true rfl)⟩ (fun V155 Hq lq hp156 w _ => ?_)
  refine W.widen (k := 61) (n := 589) (Nat.le_of_ble_eq_true rfl) (Nat.le_of_ble_eq_true rfl) ?_
  obtain ⟨p0, pf157⟩ := hp156
  have fr158 : ∀ q : Nat, q < o + 61 → V155 q = V144 q := pf157
  have hV159 : V155 (o + 57) = some (.inl (X.2.1 4, 6, .inr (.inr (.inr (.inr (fun _ => none)))))) := (fr158 _ (by omega)).trans hV148
  have hV160 : V155 o = some (.inr (6, [.ref (o + 1), .ref (o + 27), .int 0, .ref (o + 53), .ref (o + 57), .ref (o + 58), .ref (o + 60), .null, .null, .null])) := (fr158 _ (by omega)).trans hV149
  have hT161 : ok_page X V155 (o + 1) hs_P0 := hT150.fr (fun q9 h7 h8 => fr158 q9 (by omega))
  have hT162 : ok_page X V155 (o + 27) hs_P0 := hT151.fr (fun q9 h7 h8 => fr158 q9 (by omega))
  have hT163 : ok_text X V155 (o + 53) (0, fun _ => 0) := hT152.fr (fun q9 h7 h8 => fr158 q9 (by omega))
  have hT164 : ok_row X V155 (o + 58) 0 0 (fun _ => 0) := hT153.fr (fun q9 h7 h8 => fr158 q9 (by omega))
  have hT165 : V155 (o + 60) = some (fE (0, 1, 1)) := (fr158 _ (by omega)).trans hT154
  have hT166 : V155 (o + 61) = some (fE (0, 1, 1)) := p0
  have hN167 := p0
  refine hv_putF C0 hnm w kc_X6 7 (by decide) rfl rfl hq_120 rfl hV160 rfl rfl (by simp) dX6_init_76 (fun Hq lq w => ?_)
  obtain ⟨V168, eV169⟩ : ∃ W9, W9 = hv_up V155 o (.inr (6, [.ref (o + 1), .ref (o + 27), .int 0, .ref (o + 53), .ref (o + 57), .ref (o + 58), .ref (o + 60), .ref (o + 61), .null, .null])) := ⟨_, rfl⟩
  have w : hv_w X s V168 Hq lq := by rw [eV169]; exact w
  have fr170 : ∀ q : Nat, q ≠ o → V168 q = V155 q := fun q h => by rw [eV169]; exact hv_un h
  have hV171 : V168 (o + 57) = some (.inl (X.2.1 4, 6, .inr (.inr (.inr (.inr (fun _ => none)))))) := (fr170 _ (by omega)).trans hV159
  have hT172 : ok_page X V168 (o + 1) hs_P0 := hT161.fr (fun q9 h7 h8 => fr170 q9 (by omega))
  have hT173 : ok_page X V168 (o + 27) hs_P0 := hT162.fr (fun q9 h7 h8 => fr170 q9 (by omega))
  have hT174 : ok_text X V168 (o + 53) (0, fun _ => 0) := hT163.fr (fun q9 h7 h8 => fr170 q9 (by omega))
  have hT175 : ok_row X V168 (o + 58) 0 0 (fun _ => 0) := hT164.fr (fun q9 h7 h8 => fr170 q9 (by omega))
  have hT176 : V168 (o + 60) = some (fE (0, 1, 1)) := (fr170 _ (by omega)).trans hT165
  have hT177 : V168 (o + 61) = some (fE (0, 1, 1)) := (fr170 _ (by omega)).trans hT166
  have hV178 : V168 o = some (.inr (6, [.ref (o + 1), .ref (o + 27), .int 0, .ref (o + 53), .ref (o + 57), .ref (o + 58), .ref (o + 60), .ref (o + 61), .null, .null])) := by rw [eV169]; exact hv_us
  have hN179 := (fr170 _ (by omega)).trans hN167
  refine lv_aload_n C0.1 C0.2.1 dX6_init_79 rfl (lv_at hl 0 rfl) ?_
  refine lv_bipush (v := 16) C0.1 C0.2.1 dX6_init_80 (by decide) ?_
  refine hw_sz (fun hzz => ?_)
  refine hv_newq 5 C0 w hAA kx_X6_41 hOO.2.2.1 rfl (N := 16) (by decide) (by decide) (by decide) (Nat.le_of_ble_eq_true rfl) (Nat.le_of_ble_eq_true rfl) (sz := o + 62) (by have h7 := w.2.1; have h6 := w.1.lt hN179; omega) dX6_init_82 (fun Hq w _ => ?_)
  refine W.widen (k := 62) (n := 605) (Nat.le_of_ble_eq_true rfl) (Nat.le_of_ble_eq_true rfl) ?_
  obtain ⟨V180, eV181⟩ : ∃ W9, W9 = hv_up V168 (o + 62) (.inl (X.2.1 5, 16, .inr (.inr (.inr (.inr (fun _ => none)))))) := ⟨_, rfl⟩
  rw [← eV181] at w
  have hN182 : V180 (o + 62) = some (.inl (X.2.1 5, 16, .inr (.inr (.inr (.inr (fun _ => none)))))) := by rw [eV181]; exact hv_us
  have fr183 : ∀ q : Nat, q ≠ o + 62 → V180 q = V168 q := fun q h => by rw [eV181]; exact hv_un h
  have hV184 : V180 (o + 57) = some (.inl (X.2.1 4, 6, .inr (.inr (.inr (.inr (fun _ => none)))))) := (fr183 _ (by omega)).trans hV171
  have hV185 : V180 o = some (.inr (6, [.ref (o + 1), .ref (o + 27), .int 0, .ref (o + 53), .ref (o + 57), .ref (o + 58), .ref (o + 60), .ref (o + 61), .null, .null])) := (fr183 _ (by omega)).trans hV178
  have hT186 : ok_page X V180 (o + 1) hs_P0 := hT172.fr (fun q9 h7 h8 => fr183 q9 (by omega))
  have hT187 : ok_page X V180 (o + 27) hs_P0 := hT173.fr (fun q9 h7 h8 => fr183 q9 (by omega))
  have hT188 : ok_text X V180 (o + 53) (0, fun _ => 0) := hT174.fr (fun q9 h7 h8 => fr183 q9 (by omega))
  have hT189 : ok_row X V180 (o + 58) 0 0 (fun _ => 0) := hT175.fr (fun q9 h7 h8 => fr183 q9 (by omega))
  have hT190 : V180 (o + 60) = some (fE (0, 1, 1)) := (fr183 _ (by omega)).trans hT176
  have hT191 : V180 (o + 61) = some (fE (0, 1, 1)) := (fr183 _ (by omega)).trans hT177
  refine hv_putF C0 hnm w kc_X6 8 (by decide) rfl rfl hq_121 rfl hV185 rfl rfl (by simp) dX6_init_85 (fun Hq lq w => ?_)
  obtain ⟨V192, eV193⟩ : ∃ W9, W9 = hv_up V180 o (.inr (6, [.ref (o + 1), .ref (o + 27), .int 0, .ref (o + 53), .ref (o + 57), .ref (o + 58), .ref (o + 60), .ref (o + 61), .ref (o + 62), .null])) := ⟨_, rfl⟩
  have w : hv_w X s V192 Hq lq := by rw [eV193]; exact w
  have fr194 : ∀ q : Nat, q ≠ o → V192 q = V180 q := fun q h => by rw [eV193]; exact hv_un h
  have hV195 : V192 (o + 57) = some (.inl (X.2.1 4, 6, .inr (.inr (.inr (.inr (fun _ => none)))))) := (fr194 _ (by omega)).trans hV184
  have hV196 : V192 (o + 62) = some (.inl (X.2.1 5, 16, .inr (.inr (.inr (.inr (fun _ => none)))))) := (fr194 _ (by omega)).trans hN182
  have hT197 : ok_page X V192 (o + 1) hs_P0 := hT186.fr (fun q9 h7 h8 => fr194 q9 (by omega))
  have hT198 : ok_page X V192 (o + 27) hs_P0 := hT187.fr (fun q9 h7 h8 => fr194 q9 (by omega))
  have hT199 : ok_text X V192 (o + 53) (0, fun _ => 0) := hT188.fr (fun q9 h7 h8 => fr194 q9 (by omega))
  have hT200 : ok_row X V192 (o + 58) 0 0 (fun _ => 0) := hT189.fr (fun q9 h7 h8 => fr194 q9 (by omega))
  have hT201 : V192 (o + 60) = some (fE (0, 1, 1)) := (fr194 _ (by omega)).trans hT190
  have hT202 : V192 (o + 61) = some (fE (0, 1, 1)) := (fr194 _ (by omega)).trans hT191
  have hV203 : V192 o = some (.inr (6, [.ref (o + 1), .ref (o + 27), .int 0, .ref (o + 53), .ref (o + 57), .ref (o + 58), .ref (o + 60), .ref (o + 61), .ref (o + 62), .null])) := by rw [eV193]; exact hv_us
  have hN204 := (fr194 _ (by omega)).trans hN182
  refine lv_aload_n C0.1 C0.2.1 dX6_init_88 rfl (lv_at hl 0 rfl) ?_
  refine lv_iconst (v := 3) C0.1 C0.2.1 dX6_init_89 (by decide) ?_
  refine hw_sz (fun hzz => ?_)
  refine hv_newa (atype := .int) 0 C0 w hAA ka_int rfl (N := 3) (a0 := (3, .inl (fun _ => 0))) (fun _ => rfl) (by decide) (by decide) (by decide) (Nat.le_of_ble_eq_true rfl) (Nat.le_of_ble_eq_true rfl) (sz := o + 63) (by have h7 := w.2.1; have h6 := w.1.lt hN204; omega) dX6_init_90 (fun Hq w _ => ?_)
  refine W.widen (k := 63) (n := 608) (Nat.le_of_ble_eq_true rfl) (Nat.le_of_ble_eq_true rfl) ?_
  obtain ⟨V205, eV206⟩ : ∃ W9, W9 = hv_up V192 (o + 63) (.inl (X.2.1 0, 3, .inl (fun _ => 0))) := ⟨_, rfl⟩
  rw [← eV206] at w
  have hN207 : V205 (o + 63) = some (.inl (X.2.1 0, 3, .inl (fun _ => 0))) := by rw [eV206]; exact hv_us
  have fr208 : ∀ q : Nat, q ≠ o + 63 → V205 q = V192 q := fun q h => by rw [eV206]; exact hv_un h
  have hV209 : V205 (o + 57) = some (.inl (X.2.1 4, 6, .inr (.inr (.inr (.inr (fun _ => none)))))) := (fr208 _ (by omega)).trans hV195
  have hV210 : V205 (o + 62) = some (.inl (X.2.1 5, 16, .inr (.inr (.inr (.inr (fun _ => none)))))) := (fr208 _ (by omega)).trans hV196
  have hV211 : V205 o = some (.inr (6, [.ref (o + 1), .ref (o + 27), .int 0, .ref (o + 53), .ref (o + 57), .ref (o + 58), .ref (o + 60), .ref (o + 61), .ref (o + 62), .null])) := (fr208 _ (by omega)).trans hV203
  have hT212 : ok_page X V205 (o + 1) hs_P0 := hT197.fr (fun q9 h7 h8 => fr208 q9 (by omega))
  have hT213 : ok_page X V205 (o + 27) hs_P0 := hT198.fr (fun q9 h7 h8 => fr208 q9 (by omega))
  have hT214 : ok_text X V205 (o + 53) (0, fun _ => 0) := hT199.fr (fun q9 h7 h8 => fr208 q9 (by omega))
  have hT215 : ok_row X V205 (o + 58) 0 0 (fun _ => 0) := hT200.fr (fun q9 h7 h8 => fr208 q9 (by omega))
  have hT216 : V205 (o + 60) = some (fE (0, 1, 1)) := (fr208 _ (by omega)).trans hT201
  have hT217 : V205 (o + 61) = some (fE (0, 1, 1)) := (fr208 _ (by omega)).trans hT202
  refine hv_putF C0 hnm w kc_X6 9 (by decide) rfl rfl hq_122 rfl hV211 rfl rfl (by simp) dX6_init_92 (fun Hq lq w => ?_)
  obtain ⟨V218, eV219⟩ : ∃ W9, W9 = hv_up V205 o (.inr (6, [.ref (o + 1), .ref (o + 27), .int 0, .ref (o + 53), .ref (o + 57), .ref (o + 58), .ref (o + 60), .ref (o + 61), .ref (o + 62), .ref (o + 63)])) := ⟨_, rfl⟩
  have w : hv_w X s V218 Hq lq := by rw [eV219]; exact w
  have fr220 : ∀ q : Nat, q ≠ o → V218 q = V205 q := fun q h => by rw [eV219]; exact hv_un h
  have hV221 : V218 (o + 57) = some (.inl (X.2.1 4, 6, .inr (.inr (.inr (.inr (fun _ => none)))))) := (fr220 _ (by omega)).trans hV209
  have hV222 : V218 (o + 62) = some (.inl (X.2.1 5, 16, .inr (.inr (.inr (.inr (fun _ => none)))))) := (fr220 _ (by omega)).trans hV210
  have hV223 : V218 (o + 63) = some (.inl (X.2.1 0, 3, .inl (fun _ => 0))) := (fr220 _ (by omega)).trans hN207
  have hT224 : ok_page X V218 (o + 1) hs_P0 := hT212.fr (fun q9 h7 h8 => fr220 q9 (by omega))
  have hT225 : ok_page X V218 (o + 27) hs_P0 := hT213.fr (fun q9 h7 h8 => fr220 q9 (by omega))
  have hT226 : ok_text X V218 (o + 53) (0, fun _ => 0) := hT214.fr (fun q9 h7 h8 => fr220 q9 (by omega))
  have hT227 : ok_row X V218 (o + 58) 0 0 (fun _ => 0) := hT215.fr (fun q9 h7 h8 => fr220 q9 (by omega))
  have hT228 : V218 (o + 60) = some (fE (0, 1, 1)) := (fr220 _ (by omega)).trans hT216
  have hT229 : V218 (o + 61) = some (fE (0, 1, 1)) := (fr220 _ (by omega)).trans hT217
  have hV230 : V218 o = some (.inr (6, [.ref (o + 1), .ref (o + 27), .int 0, .ref (o + 53), .ref (o + 57), .ref (o + 58), .ref (o + 60), .ref (o + 61), .ref (o + 62), .ref (o + 63)])) := by rw [eV219]; exact hv_us
  have hN231 := (fr220 _ (by omega)).trans hN207
  refine lv_iconst (v := 0) C0.1 C0.2.1 dX6_init_95 (by decide) ?_
  refine lv_istore_n (lv' := [(1, .int 0), (0, .ref o)]) C0.1 C0.2.1 dX6_init_96 rfl hl (by decide) rfl (fun ls hl => ?_)
  have hl : lv_has ls 2 [(1, .int (nI 0)), (0, .ref o)] := by rw [show ((nI 0)) = (0) from rfl]; exact hl
  have hFRa : ∀ q : Nat, q < o → V218 q = V q := (fun q hq => ((fr220 q (by omega)).trans ((fr208 q (by omega)).trans ((fr194 q (by omega)).trans ((fr183 q (by omega)).trans ((fr170 q (by omega)).trans ((fr158 q (by omega)).trans ((fr147 q (by omega)).trans ((fr135 q (by omega)).trans ((fr124 q (by omega)).trans ((fr114 q (by omega)).trans ((fr103 q (by omega)).trans ((fr93 q (by omega)).trans ((fr84 q (by omega)).trans ((fr74 q (by omega)).trans ((fr67 q (by omega)).trans ((fr58 q (by omega)).trans ((fr50 q (by omega)).trans ((fr43 q (by omega)).trans ((fr35 q (by omega)).trans ((fr28 q (by omega)).trans ((fr22 q (by omega)).trans ((fr15 q (by omega)).trans ((fr9 q (by omega)).trans (fr4 q (by omega))))))))))))))))))))))))))
  have loopa : ∀ (m9 i9 : Nat) (V8 : hv_V) (rfa : Nat → Option Nat) (Hq : Heap) (lq : List Loc) (ls : Array Slot), i9 + m9 = 6 → V8 (o + 57) = some (qE X 4 6 rfa) → (∀ j, j < i9 → rfa j = some (o + 64 + 2 * j)) → (∀ j, j < i9 → V8 (o + 64 + 2 * j) = some (tE (o + 64 + 2 * j) (-1) 0) ∧ V8 (o + 64 + 2 * j + 1) = some (jE X (fun _ => 0))) → (∀ q : Nat, (q < o + 64 ∧ q ≠ o + 57) → V8 q = V218 q) → Hq.size = o + 64 + 2 * i9 → hv_w X s V8 Hq lq → lv_has ls 2 [(0, .ref o), (1, .int (nI i9))] → W p l e (hv_rm 3 91 1034) s m ([.ref o] : List Value).toArray below meth c Hq lq (63 + 2 * i9) (608 + 63 * i9) (MQ below (hv_QC X (o + 1) 91 (fun V1 => okX X V1 o hs_0 ∧ ∀ q : Nat, q < o → V1 q = V q)) ([.ref o] : List Value).toArray s 91 1034 X.2.2.1) (F0 m 97 ls []) := by
    clear w hl
    intro m9
    induction m9 with
    | zero =>
      intro i9 V8 rfa Hq lq ls hi ha8 hrfa hela hfa hz8 w hl
      have q0 : V8 o = some (.inr (6, [.ref (o + 1), .ref (o + 27), .int 0, .ref (o + 53), .ref (o + 57), .ref (o + 58), .ref (o + 60), .ref (o + 61), .ref (o + 62), .ref (o + 63)])) := (hfa _ (by omega)).trans hV230
      obtain rfl : i9 = 6 := by omega
      refine W.widen (k := 75) (n := 986) (by omega) (by omega) ?_
      have hV232 : V8 (o + 62) = some (.inl (X.2.1 5, 16, .inr (.inr (.inr (.inr (fun _ => none)))))) := (hfa _ (by omega)).trans hV222
      have hV233 : V8 (o + 63) = some (.inl (X.2.1 0, 3, .inl (fun _ => 0))) := (hfa _ (by omega)).trans hV223
      have hT234 : ok_page X V8 (o + 1) hs_P0 := hT224.fr (fun q9 h7 h8 => hfa q9 (by omega))
      have hT235 : ok_page X V8 (o + 27) hs_P0 := hT225.fr (fun q9 h7 h8 => hfa q9 (by omega))
      have hT236 : ok_text X V8 (o + 53) (0, fun _ => 0) := hT226.fr (fun q9 h7 h8 => hfa q9 (by omega))
      have hT237 : ok_row X V8 (o + 58) 0 0 (fun _ => 0) := hT227.fr (fun q9 h7 h8 => hfa q9 (by omega))
      have hT238 : V8 (o + 60) = some (fE (0, 1, 1)) := (hfa _ (by omega)).trans hT228
      have hT239 : V8 (o + 61) = some (fE (0, 1, 1)) := (hfa _ (by omega)).trans hT229
      have hFQa : ∀ q : Nat, q < o → V8 q = V q := fun q hq => (hfa q (by omega)).trans (hFRa q hq)
      have hN240 := (hela 5 (by decide)).2
      rw [show nI 6 = (6 : Int32) from rfl] at hl
      refine lv_iload_n C0.1 C0.2.1 dX6_init_97 rfl (lv_at hl 1 rfl) ?_
      refine lv_bipush (v := 6) C0.1 C0.2.1 dX6_init_98 (by decide) ?_
      refine lv_icmp_ge (tgt := 122) C0.1 C0.2.1 dX6_init_100 (by decide) (fun _ => ?_) (fun h9 => absurd h9 (by decide))
      refine lv_iconst (v := 0) C0.1 C0.2.1 dX6_init_122 (by decide) ?_
      refine lv_istore_n (lv' := [(1, .int 0), (0, .ref o)]) C0.1 C0.2.1 dX6_init_123 rfl hl (by decide) rfl (fun ls hl => ?_)
      have hl : lv_has ls 2 [(1, .int (nI 0)), (0, .ref o)] := by rw [show ((nI 0)) = (0) from rfl]; exact hl
      have hFRb : ∀ q : Nat, q < o → V8 q = V q := (fun q hq => (hFQa q (by omega)))
      have loopb : ∀ (m9 i9 : Nat) (V8 : hv_V) (rfb : Nat → Option Nat) (Hq : Heap) (lq : List Loc) (ls : Array Slot), i9 + m9 = 16 → V8 (o + 62) = some (qE X 5 16 rfb) → (∀ j, j < i9 → rfb j = some (o + 76 + j)) → (∀ j, j < i9 → V8 (o + 76 + j) = some (fE (0, 1, 1))) → (∀ q : Nat, (q < o + 76 ∧ q ≠ o + 62) → V8 q = V8 q) → Hq.size = o + 76 + i9 → hv_w X s V8 Hq lq → lv_has ls 2 [(0, .ref o), (1, .int (nI i9))] → W p l e (hv_rm 3 91 1034) s m ([.ref o] : List Value).toArray below meth c Hq lq (75 + 1 * i9) (986 + 3 * i9) (MQ below (hv_QC X (o + 1) 91 (fun V1 => okX X V1 o hs_0 ∧ ∀ q : Nat, q < o → V1 q = V q)) ([.ref o] : List Value).toArray s 91 1034 X.2.2.1) (F0 m 124 ls []) := by
        clear w hl
        intro m9
        induction m9 with
        | zero =>
          intro i9 V8 rfb Hq lq ls hi ha8 hrfb helb hfb hz8 w hl
          have q0 : V8 o = some (.inr (6, [.ref (o + 1), .ref (o + 27), .int 0, .ref (o + 53), .ref (o + 57), .ref (o + 58), .ref (o + 60), .ref (o + 61), .ref (o + 62), .ref (o + 63)])) := (hfb _ (by omega)).trans q0
          obtain rfl : i9 = 16 := by omega
          refine W.widen (k := 91) (n := 1034) (by omega) (by omega) ?_
          have hV241 : V8 (o + 57) = some (.inl (X.2.1 4, 6, .inr (.inr (.inr (.inr rfa))))) := (hfb _ (by omega)).trans ha8
          have hV242 : V8 (o + 63) = some (.inl (X.2.1 0, 3, .inl (fun _ => 0))) := (hfb _ (by omega)).trans hV233
          have hT243 : ok_page X V8 (o + 1) hs_P0 := hT234.fr (fun q9 h7 h8 => hfb q9 (by omega))
          have hT244 : ok_page X V8 (o + 27) hs_P0 := hT235.fr (fun q9 h7 h8 => hfb q9 (by omega))
          have hT245 : ok_text X V8 (o + 53) (0, fun _ => 0) := hT236.fr (fun q9 h7 h8 => hfb q9 (by omega))
          have hT246 : ok_row X V8 (o + 58) 0 0 (fun _ => 0) := hT237.fr (fun q9 h7 h8 => hfb q9 (by omega))
          have hT247 : V8 (o + 60) = some (fE (0, 1, 1)) := (hfb _ (by omega)).trans hT238
          have hT248 : V8 (o + 61) = some (fE (0, 1, 1)) := (hfb _ (by omega)).trans hT239
          have hT249 : ∀ j, j < 6 → V8 (o + 64 + 2 * j) = some (tE (o + 64 + 2 * j) (-1) 0) ∧ V8 (o + 64 + 2 * j + 1) = some (jE X (fun _ => 0)) := fun j hj => ⟨(hfb _ (by omega)).trans (hela j hj).1, (hfb _ (by omega)).trans (hela j hj).2⟩
          have hFQb : ∀ q : Nat, q < o → V8 q = V q := fun q hq => (hfb q (by omega)).trans (hFRb q hq)
          have hN250 := helb 15 (by decide)
          rw [show nI 16 = (16 : Int32) from rfl] at hl
          refine lv_iload_n C0.1 C0.2.1 dX6_init_124 rfl (lv_at hl 1 rfl) ?_
          refine lv_bipush (v := 16) C0.1 C0.2.1 dX6_init_125 (by decide) ?_
          refine lv_icmp_ge (tgt := 149) C0.1 C0.2.1 dX6_init_127 (by decide) (fun _ => ?_) (fun h9 => absurd h9 (by decide))
          refine hw_sz (fun hzz => ?_)
          exact hv_vretC (k := 0) C0 w hr hlk (by have h7 := w.2.1; have h6 := w.1.lt hN250; omega) (⟨⟨0, q0, hT243, ⟨rfl, hs_P0, hT244⟩, hT245, ⟨⟨rfa, hV241, hrfa⟩, fun j hj => ⟨by rw [show hs_0.2.2.2.1 j = -1 from if_pos hj]; exact (hT249 j hj).1, (hT249 j hj).2⟩⟩, ⟨⟨0, 0, _, hT246⟩, ⟨_, hT247⟩, ⟨_, hT248⟩, ⟨rfb, ha8, hrfb⟩, fun j hj => ⟨_, helb j hj⟩, _, hV242⟩⟩, (fun q hq => (hFQb q (by omega)))⟩) dX6_init_149
        | succ m9 ih =>
          intro i9 V8 rfb Hq lq ls hi ha8 hrfb helb hfb hz8 w hl
          have q0 : V8 o = some (.inr (6, [.ref (o + 1), .ref (o + 27), .int 0, .ref (o + 53), .ref (o + 57), .ref (o + 58), .ref (o + 60), .ref (o + 61), .ref (o + 62), .ref (o + 63)])) := (hfb _ (by omega)).trans q0
          refine lv_iload_n C0.1 C0.2.1 dX6_init_124 rfl (lv_at hl 1 rfl) ?_
          refine lv_bipush (v := 16) C0.1 C0.2.1 dX6_init_125 (by decide) ?_
          refine lv_icmp_ge (tgt := 149) C0.1 C0.2.1 dX6_init_127 (by decide) (fun c_127 => absurd c_127 (show ¬ nI 16 ≤ nI i9 from nI_ge (by omega) (by omega))) (fun c_127 => ?_)
          refine lv_aload_n C0.1 C0.2.1 dX6_init_130 rfl (lv_at hl 0 rfl) ?_
          refine gf_X6_51 C0 w q0 rfl dX6_init_131 ?_
          refine lv_iload_n C0.1 C0.2.1 dX6_init_134 rfl (lv_at hl 1 rfl) ?_
          refine hw_sz (fun hzz => ?_)
          refine hv_new (fs := [.long 0, .long 0, .int 0]) C0 w hAA kc_X0 kx_X6_41 kn_X0 kz_X0 (fun j hj => by rcases (show j = 0 ∨ j = 1 ∨ j = 2 by omega) with rfl | rfl | rfl <;> rfl) (show 75 + 1 * i9 + 1 ≤ 91 by omega) (show 986 + 3 * i9 + 3 ≤ 1034 by omega) (sz := o + 76 + i9) (by have h7 := w.2.1; omega) dX6_init_135 (fun Hq w _ => ?_)
          refine W.widen (k := 75 + 1 * i9 + 1) (n := 986 + 3 * i9 + 3) (by omega) (by omega) ?_
          obtain ⟨V251, eV252⟩ : ∃ W9, W9 = hv_up V8 (o + 76 + i9) (.inr (0, [.long 0, .long 0, .int 0])) := ⟨_, rfl⟩
          rw [← eV252] at w
          have hN253 : V251 (o + 76 + i9) = some (.inr (0, [.long 0, .long 0, .int 0])) := by rw [eV252]; exact hv_us
          have fr254 : ∀ q : Nat, q ≠ o + 76 + i9 → V251 q = V8 q := fun q h => by rw [eV252]; exact hv_un h
          have hV255 : V251 o = some (.inr (6, [.ref (o + 1), .ref (o + 27), .int 0, .ref (o + 53), .ref (o + 57), .ref (o + 58), .ref (o + 60), .ref (o + 61), .ref (o + 62), .ref (o + 63)])) := (fr254 _ (by omega)).trans q0
          have hV256 : V251 (o + 62) = some (.inl (X.2.1 5, 16, .inr (.inr (.inr (.inr rfb))))) := (fr254 _ (by omega)).trans ha8
          refine lv_dup C0.1 C0.2.1 dX6_init_138 rfl ?_
          refine hw_sz (fun hzz => ?_)
          refine hv_cI C0 hOO w kl_X6_43 ki_X0_init (n_X0_init (o := o + 76 + i9) (fun q h => hA q (by omega)) hN253) (by have h7 := w.2.1; have h6 := w.1.lt hN253; omega) (by decide) (by decide) rfl hl.1 rfl (Nat.le_of_ble_eq_true rfl) dX6_init_139 ⟨(show 75 + 1 * i9 + 1 + 0 ≤ 91 by omega), (show 986 + 3 * i9 + 3 + 0 ≤ 1034 by omega)⟩ (fun V257 Hq lq hp258 w _ => ?_)
          refine W.widen (k := 75 + 1 * i9 + 1 + 0) (n := 986 + 3 * i9 + 3 + 0) (by omega) (by omega) ?_
          obtain ⟨p0, pf259⟩ := hp258
          have fr260 : ∀ q : Nat, q < o + 76 + i9 → V257 q = V251 q := pf259
          have hV261 : V257 o = some (.inr (6, [.ref (o + 1), .ref (o + 27), .int 0, .ref (o + 53), .ref (o + 57), .ref (o + 58), .ref (o + 60), .ref (o + 61), .ref (o + 62), .ref (o + 63)])) := (fr260 _ (by omega)).trans hV255
          have hV262 : V257 (o + 62) = some (.inl (X.2.1 5, 16, .inr (.inr (.inr (.inr rfb))))) := (fr260 _ (by omega)).trans hV256
          have hT263 : V257 (o + 76 + i9) = some (fE (0, 1, 1)) := p0
          have hN264 := p0
          refine hv_astq 5 C0 w rfl (r := (RX0, TX0, 3)) rfl hV262 hT263 (hn_in (by omega) (by decide)) dX6_init_142 (fun Hq lq w => ?_)
          rw [nI_clamp (by omega)] at w
          obtain ⟨V265, eV266⟩ : ∃ W9, W9 = hv_up V257 (o + 62) (.inl (X.2.1 5, 16, .inr (.inr (.inr (.inr (va_up rfb i9 (some (o + 76 + i9)))))))) := ⟨_, rfl⟩
          have w : hv_w X s V265 Hq lq := by rw [eV266]; exact w
          have fr267 : ∀ q : Nat, q ≠ o + 62 → V265 q = V257 q := fun q h => by rw [eV266]; exact hv_un h
          have hV268 : V265 o = some (.inr (6, [.ref (o + 1), .ref (o + 27), .int 0, .ref (o + 53), .ref (o + 57), .ref (o + 58), .ref (o + 60), .ref (o + 61), .ref (o + 62), .ref (o + 63)])) := (fr267 _ (by omega)).trans hV261
          have hT269 : V265 (o + 76 + i9) = some (fE (0, 1, 1)) := (fr267 _ (by omega)).trans hT263
          have hV270 : V265 (o + 62) = some (.inl (X.2.1 5, 16, .inr (.inr (.inr (.inr (va_up rfb i9 (some (o + 76 + i9)))))))) := by rw [eV266]; exact hv_us
          have hN271 := (fr267 _ (by omega)).trans hN264
          refine lv_iinc (v := (nI i9) + 1) (lv' := [(1, .int ((nI i9) + 1)), (0, .ref o)]) C0.1 C0.2.1 dX6_init_143 hl (k := 1) rfl rfl (by decide) rfl (fun ls hl => ?_)
          refine lv_goto (tgt := 124) C0.1 C0.2.1 dX6_init_146 (by decide) ?_
          have hel9 : ∀ j, j < i9 + 1 → V265 (o + 76 + j) = some (fE (0, 1, 1)) := by
            intro j hj
            rcases Nat.lt_or_ge j i9 with r9 | r9
            · exact ((fr267 _ (by omega)).trans ((fr260 _ (by omega)).trans (fr254 _ (by omega)))).trans (helb j r9)
            · rw [show j = i9 by omega]; exact hT269
          refine hw_sz (fun hzz => ?_)
          refine W.widen (k := 75 + 1 * (i9 + 1)) (n := 986 + 3 * (i9 + 1)) (by omega) (by omega) ?_
          exact ih (i9 + 1) V265 _ _ _ ls (by omega) hV270 (hw_rf (f := fun j => o + 76 + j) hrfb) hel9 (fun q9 h9 => ((fr267 q9 (by omega)).trans ((fr260 q9 (by omega)).trans (fr254 q9 (by omega)))).trans (hfb q9 h9)) (by have h7 := w.2.1; have h6 := w.1.lt hN271; omega) w (by have h9 := (lv_sub (l' := [(0, .ref o), (1, .int (nI i9 + 1))]) hl [1, 0] rfl); rw [nI_1] at h9; exact h9)
      refine hw_sz (fun hzz => ?_)
      exact loopb 16 0 V8 _ _ _ ls (by omega) hV232 (fun j hj => absurd hj (Nat.not_lt_zero j)) (fun j hj => absurd hj (Nat.not_lt_zero j)) (fun _ _ => rfl) (by have h7 := w.2.1; have h6 := w.1.lt hN240; omega) w (lv_sub hl [1, 0] rfl)
    | succ m9 ih =>
      intro i9 V8 rfa Hq lq ls hi ha8 hrfa hela hfa hz8 w hl
      have q0 : V8 o = some (.inr (6, [.ref (o + 1), .ref (o + 27), .int 0, .ref (o + 53), .ref (o + 57), .ref (o + 58), .ref (o + 60), .ref (o + 61), .ref (o + 62), .ref (o + 63)])) := (hfa _ (by omega)).trans hV230
      refine lv_iload_n C0.1 C0.2.1 dX6_init_97 rfl (lv_at hl 1 rfl) ?_
      refine lv_bipush (v := 6) C0.1 C0.2.1 dX6_init_98 (by decide) ?_
      refine lv_icmp_ge (tgt := 122) C0.1 C0.2.1 dX6_init_100 (by decide) (fun c_100 => absurd c_100 (show ¬ nI 6 ≤ nI i9 from nI_ge (by omega) (by omega))) (fun c_100 => ?_)
      refine lv_aload_n C0.1 C0.2.1 dX6_init_103 rfl (lv_at hl 0 rfl) ?_
      refine gf_X6_30 C0 w q0 rfl dX6_init_104 ?_
      refine lv_iload_n C0.1 C0.2.1 dX6_init_107 rfl (lv_at hl 1 rfl) ?_
      refine hw_sz (fun hzz => ?_)
      refine hv_new (fs := [.int 0, .int 0, .null]) C0 w hAA kc_X5 kx_X6_28 kn_X5 kz_X5 (fun j hj => by rcases (show j = 0 ∨ j = 1 ∨ j = 2 by omega) with rfl | rfl | rfl <;> rfl) (show 63 + 2 * i9 + 1 ≤ 91 by omega) (show 608 + 63 * i9 + 3 ≤ 1034 by omega) (sz := o + 64 + 2 * i9) (by have h7 := w.2.1; omega) dX6_init_108 (fun Hq w _ => ?_)
      refine W.widen (k := 63 + 2 * i9 + 1) (n := 608 + 63 * i9 + 3) (by omega) (by omega) ?_
      obtain ⟨V272, eV273⟩ : ∃ W9, W9 = hv_up V8 (o + 64 + 2 * i9) (.inr (5, [.int 0, .int 0, .null])) := ⟨_, rfl⟩
      rw [← eV273] at w
      have hN274 : V272 (o + 64 + 2 * i9) = some (.inr (5, [.int 0, .int 0, .null])) := by rw [eV273]; exact hv_us
      have fr275 : ∀ q : Nat, q ≠ o + 64 + 2 * i9 → V272 q = V8 q := fun q h => by rw [eV273]; exact hv_un h
      have hV276 : V272 o = some (.inr (6, [.ref (o + 1), .ref (o + 27), .int 0, .ref (o + 53), .ref (o + 57), .ref (o + 58), .ref (o + 60), .ref (o + 61), .ref (o + 62), .ref (o + 63)])) := (fr275 _ (by omega)).trans q0
      have hV277 : V272 (o + 57) = some (.inl (X.2.1 4, 6, .inr (.inr (.inr (.inr rfa))))) := (fr275 _ (by omega)).trans ha8
      refine lv_dup C0.1 C0.2.1 dX6_init_111 rfl ?_
      refine hw_sz (fun hzz => ?_)
      refine hv_cI C0 hOO w kl_X6_59 ki_X5_init (n_X5_init (o := o + 64 + 2 * i9) (fun q h => hA q (by omega)) hN274) (by have h7 := w.2.1; have h6 := w.1.lt hN274; omega) (by decide) (by decide) rfl hl.1 rfl (Nat.le_of_ble_eq_true rfl) dX6_init_112 ⟨(show 63 + 2 * i9 + 1 + 1 ≤ 91 by omega), (show 608 + 63 * i9 + 3 + 60 ≤ 1034 by omega)⟩ (fun V278 Hq lq hp279 w _ => ?_)
      refine W.widen (k := 63 + 2 * i9 + 1 + 1) (n := 608 + 63 * i9 + 3 + 60) (by omega) (by omega) ?_
      obtain ⟨p0, p1, pf280⟩ := hp279
      have fr281 : ∀ q : Nat, q < o + 64 + 2 * i9 → V278 q = V272 q := pf280
      have hV282 : V278 o = some (.inr (6, [.ref (o + 1), .ref (o + 27), .int 0, .ref (o + 53), .ref (o + 57), .ref (o + 58), .ref (o + 60), .ref (o + 61), .ref (o + 62), .ref (o + 63)])) := (fr281 _ (by omega)).trans hV276
      have hV283 : V278 (o + 57) = some (.inl (X.2.1 4, 6, .inr (.inr (.inr (.inr rfa))))) := (fr281 _ (by omega)).trans hV277
      have hT284 : V278 (o + 64 + 2 * i9) = some (tE (o + 64 + 2 * i9) (-1) 0) ∧ V278 (o + 64 + 2 * i9 + 1) = some (jE X (fun _ => 0)) := ⟨p0, p1⟩
      have hN285 := p1
      refine hv_astq 4 C0 w rfl (r := (RX5, TX5, 3)) rfl hV283 hT284.1 (hn_in (by omega) (by decide)) dX6_init_115 (fun Hq lq w => ?_)
      rw [nI_clamp (by omega)] at w
      obtain ⟨V286, eV287⟩ : ∃ W9, W9 = hv_up V278 (o + 57) (.inl (X.2.1 4, 6, .inr (.inr (.inr (.inr (va_up rfa i9 (some (o + 64 + 2 * i9)))))))) := ⟨_, rfl⟩
      have w : hv_w X s V286 Hq lq := by rw [eV287]; exact w
      have fr288 : ∀ q : Nat, q ≠ o + 57 → V286 q = V278 q := fun q h => by rw [eV287]; exact hv_un h
      have hV289 : V286 o = some (.inr (6, [.ref (o + 1), .ref (o + 27), .int 0, .ref (o + 53), .ref (o + 57), .ref (o + 58), .ref (o + 60), .ref (o + 61), .ref (o + 62), .ref (o + 63)])) := (fr288 _ (by omega)).trans hV282
      have hT290 : V286 (o + 64 + 2 * i9) = some (tE (o + 64 + 2 * i9) (-1) 0) ∧ V286 (o + 64 + 2 * i9 + 1) = some (jE X (fun _ => 0)) := ⟨(fr288 _ (by omega)).trans hT284.1, (fr288 _ (by omega)).trans hT284.2⟩
      have hV291 : V286 (o + 57) = some (.inl (X.2.1 4, 6, .inr (.inr (.inr (.inr (va_up rfa i9 (some (o + 64 + 2 * i9)))))))) := by rw [eV287]; exact hv_us
      have hN292 := (fr288 _ (by omega)).trans hN285
      refine lv_iinc (v := (nI i9) + 1) (lv' := [(1, .int ((nI i9) + 1)), (0, .ref o)]) C0.1 C0.2.1 dX6_init_116 hl (k := 1) rfl rfl (by decide) rfl (fun ls hl => ?_)
      refine lv_goto (tgt := 97) C0.1 C0.2.1 dX6_init_119 (by decide) ?_
      have hel9 : ∀ j, j < i9 + 1 → V286 (o + 64 + 2 * j) = some (tE (o + 64 + 2 * j) (-1) 0) ∧ V286 (o + 64 + 2 * j + 1) = some (jE X (fun _ => 0)) := by
        intro j hj
        rcases Nat.lt_or_ge j i9 with r9 | r9
        · exact ⟨((fr288 _ (by omega)).trans ((fr281 _ (by omega)).trans (fr275 _ (by omega)))).trans (hela j r9).1, ((fr288 _ (by omega)).trans ((fr281 _ (by omega)).trans (fr275 _ (by omega)))).trans (hela j r9).2⟩
        · rw [show j = i9 by omega]; exact hT290
      refine hw_sz (fun hzz => ?_)
      refine W.widen (k := 63 + 2 * (i9 + 1)) (n := 608 + 63 * (i9 + 1)) (by omega) (by omega) ?_
      exact ih (i9 + 1) V286 _ _ _ ls (by omega) hV291 (hw_rf (f := fun j => o + 64 + 2 * j) hrfa) hel9 (fun q9 h9 => ((fr288 q9 (by omega)).trans ((fr281 q9 (by omega)).trans (fr275 q9 (by omega)))).trans (hfa q9 h9)) (by have h7 := w.2.1; have h6 := w.1.lt hN292; omega) w (by have h9 := (lv_sub (l' := [(0, .ref o), (1, .int (nI i9 + 1))]) hl [1, 0] rfl); rw [nI_1] at h9; exact h9)
  refine hw_sz (fun hzz => ?_)
  exact loopa 6 0 V218 _ _ _ ls (by omega) hV221 (fun j hj => absurd hj (Nat.not_lt_zero j)) (fun j hj => absurd hj (Nat.not_lt_zero j)) (fun _ _ => rfl) (by have h7 := w.2.1; have h6 := w.1.lt hN231; omega) w (lv_sub hl [1, 0] rfl)
