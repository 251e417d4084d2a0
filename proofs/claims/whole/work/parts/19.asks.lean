set_option maxHeartbeats 4000000 in
set_option maxRecDepth 100000 in
theorem c_X6_within {l : Launch} {X : hv_X} {V : hv_V} {v a b : Int32} : hv_Mi l X 0 yX6_within cX6_within 3 .boolean V [.int v, .int a, .int b] (fun x V1 => V1 = V ∧ hv_B (sp_in v a b) x) := by
  refine hv_enter (by decide) (Nat.le_of_ble_eq_true rfl) ?_
  intro p e s m below meth c ls C0 hr hlk hnm w hl
  have hl : lv_has ls 3 [(0, .int v), (1, .int a), (2, .int b)] := hl
  refine lv_iload_n C0.1 C0.2.1 dX6_within_0 rfl (lv_at hl 0 rfl) ?_
  refine lv_iload_n C0.1 C0.2.1 dX6_within_1 rfl (lv_at hl 1 rfl) ?_
  refine lv_icmp_lt (tgt := 14) C0.1 C0.2.1 dX6_within_2 (by decide) (fun c_2 => ?_) (fun c_2 => ?_)
  · skip
    refine lv_iconst (v := 0) C0.1 C0.2.1 dX6_within_14 (by decide) ?_
    exact hv_zret C0 w hr hlk (by decide) (⟨rfl, Or.inr ⟨rfl, by first | exact fun h9 => absurd c_2 (Int32.not_lt.mpr h9.1) | exact fun h9 => absurd c_7 (Int32.not_lt.mpr h9.2)⟩⟩) dX6_within_15
  · skip
    refine lv_iload_n C0.1 C0.2.1 dX6_within_5 rfl (lv_at hl 0 rfl) ?_
    refine lv_iload_n C0.1 C0.2.1 dX6_within_6 rfl (lv_at hl 2 rfl) ?_
    refine lv_icmp_gt (tgt := 14) C0.1 C0.2.1 dX6_within_7 (by decide) (fun c_7 => ?_) (fun c_7 => ?_)
    · skip
      refine lv_iconst (v := 0) C0.1 C0.2.1 dX6_within_14 (by decide) ?_
      exact hv_zret C0 w hr hlk (by decide) (⟨rfl, Or.inr ⟨rfl, by first | exact fun h9 => absurd c_2 (Int32.not_lt.mpr h9.1) | exact fun h9 => absurd c_7 (Int32.not_lt.mpr h9.2)⟩⟩) dX6_within_15
    · skip
      refine lv_iconst (v := 1) C0.1 C0.2.1 dX6_within_10 (by decide) ?_
      refine lv_goto (tgt := 15) C0.1 C0.2.1 dX6_within_11 (by decide) ?_
      exact hv_zret C0 w hr hlk (by decide) (⟨rfl, Or.inl ⟨rfl, ⟨Int32.not_lt.mp c_2, Int32.not_lt.mp c_7⟩⟩⟩) dX6_within_15

set_option maxHeartbeats 4000000 in
set_option maxRecDepth 100000 in
theorem c_X7_in {l : Launch} {X : hv_X} {V : hv_V} {v a b : Int32} : hv_Mi l X 0 yX7_in cX7_in 3 .boolean V [.int v, .int a, .int b] (fun x V1 => V1 = V ∧ hv_B (sp_in v a b) x) := by
  refine hv_enter (by decide) (Nat.le_of_ble_eq_true rfl) ?_
  intro p e s m below meth c ls C0 hr hlk hnm w hl
  have hl : lv_has ls 3 [(0, .int v), (1, .int a), (2, .int b)] := hl
  refine lv_iload_n C0.1 C0.2.1 dX7_in_0 rfl (lv_at hl 0 rfl) ?_
  refine lv_iload_n C0.1 C0.2.1 dX7_in_1 rfl (lv_at hl 1 rfl) ?_
  refine lv_icmp_lt (tgt := 14) C0.1 C0.2.1 dX7_in_2 (by decide) (fun c_2 => ?_) (fun c_2 => ?_)
  · skip
    refine lv_iconst (v := 0) C0.1 C0.2.1 dX7_in_14 (by decide) ?_
    exact hv_zret C0 w hr hlk (by decide) (⟨rfl, Or.inr ⟨rfl, by first | exact fun h9 => absurd c_2 (Int32.not_lt.mpr h9.1) | exact fun h9 => absurd c_7 (Int32.not_lt.mpr h9.2)⟩⟩) dX7_in_15
  · skip
    refine lv_iload_n C0.1 C0.2.1 dX7_in_5 rfl (lv_at hl 0 rfl) ?_
    refine lv_iload_n C0.1 C0.2.1 dX7_in_6 rfl (lv_at hl 2 rfl) ?_
    refine lv_icmp_gt (tgt := 14) C0.1 C0.2.1 dX7_in_7 (by decide) (fun c_7 => ?_) (fun c_7 => ?_)
    · skip
      refine lv_iconst (v := 0) C0.1 C0.2.1 dX7_in_14 (by decide) ?_
      exact hv_zret C0 w hr hlk (by decide) (⟨rfl, Or.inr ⟨rfl, by first | exact fun h9 => absurd c_2 (Int32.not_lt.mpr h9.1) | exact fun h9 => absurd c_7 (Int32.not_lt.mpr h9.2)⟩⟩) dX7_in_15
    · skip
      refine lv_iconst (v := 1) C0.1 C0.2.1 dX7_in_10 (by decide) ?_
      refine lv_goto (tgt := 15) C0.1 C0.2.1 dX7_in_11 (by decide) ?_
      exact hv_zret C0 w hr hlk (by decide) (⟨rfl, Or.inl ⟨rfl, ⟨Int32.not_lt.mp c_2, Int32.not_lt.mp c_7⟩⟩⟩) dX7_in_15

set_option maxHeartbeats 4000000 in
set_option maxRecDepth 100000 in
theorem c_X6_isRow {l : Launch} {X : hv_X} {V : hv_V} {v : Int32} : hv_Mi l X 1 yX6_isRow cX6_isRow 1 .boolean V [.int v] (fun x V1 => V1 = V ∧ hv_B (sp_in v 0 5) x) := by
  refine hv_enter (by decide) (Nat.le_of_ble_eq_true rfl) ?_
  intro p e s m below meth c ls C0 hr hlk hnm w hl
  have hl : lv_has ls 1 [(0, .int v)] := hl
  refine lv_iload_n C0.1 C0.2.1 dX6_isRow_0 rfl (lv_at hl 0 rfl) ?_
  refine lv_iconst (v := 0) C0.1 C0.2.1 dX6_isRow_1 (by decide) ?_
  refine lv_iconst (v := 5) C0.1 C0.2.1 dX6_isRow_2 (by decide) ?_
  refine hv_cSi (As := [.int v, .int 0, .int 5]) C0 w kl_X6_68 ks_X6_within (c_X6_within) (by decide) (by decide) rfl hl.1 rfl (Nat.le_of_ble_eq_true rfl) dX6_isRow_3 ⟨Nat.le_refl _, Nat.le_refl _⟩ (fun x1 V2 Hq lq hp3 w => ?_)
  obtain ⟨e9, hz9⟩ := hp3
  rw [e9] at w; clear e9
  rcases hz9 with ⟨rfl, hb4⟩ | ⟨rfl, hb4⟩
  · skip
    exact hv_zret C0 w hr hlk (by decide) (⟨rfl, Or.inl ⟨rfl, hb4⟩⟩) dX6_isRow_6
  · skip
    exact hv_zret C0 w hr hlk (by decide) (⟨rfl, Or.inr ⟨rfl, hb4⟩⟩) dX6_isRow_6

set_option maxHeartbeats 4000000 in
set_option maxRecDepth 100000 in
theorem c_X6_isKind {l : Launch} {X : hv_X} {V : hv_V} {v : Int32} : hv_Mi l X 1 yX6_isKind cX6_isKind 1 .boolean V [.int v] (fun x V1 => V1 = V ∧ hv_B (sp_in v 0 3) x) := by
  refine hv_enter (by decide) (Nat.le_of_ble_eq_true rfl) ?_
  intro p e s m below meth c ls C0 hr hlk hnm w hl
  have hl : lv_has ls 1 [(0, .int v)] := hl
  refine lv_iload_n C0.1 C0.2.1 dX6_isKind_0 rfl (lv_at hl 0 rfl) ?_
  refine lv_iconst (v := 0) C0.1 C0.2.1 dX6_isKind_1 (by decide) ?_
  refine lv_iconst (v := 3) C0.1 C0.2.1 dX6_isKind_2 (by decide) ?_
  refine hv_cSi (As := [.int v, .int 0, .int 3]) C0 w kl_X6_68 ks_X6_within (c_X6_within) (by decide) (by decide) rfl hl.1 rfl (Nat.le_of_ble_eq_true rfl) dX6_isKind_3 ⟨Nat.le_refl _, Nat.le_refl _⟩ (fun x1 V2 Hq lq hp3 w => ?_)
  obtain ⟨e9, hz9⟩ := hp3
  rw [e9] at w; clear e9
  rcases hz9 with ⟨rfl, hb4⟩ | ⟨rfl, hb4⟩
  · skip
    exact hv_zret C0 w hr hlk (by decide) (⟨rfl, Or.inl ⟨rfl, hb4⟩⟩) dX6_isKind_6
  · skip
    exact hv_zret C0 w hr hlk (by decide) (⟨rfl, Or.inr ⟨rfl, hb4⟩⟩) dX6_isKind_6

set_option maxHeartbeats 4000000 in
set_option maxRecDepth 100000 in
theorem c_X6_isNumber {l : Launch} {X : hv_X} {V : hv_V} {v : Int32} : hv_Mi l X 1 yX6_isNumber cX6_isNumber 1 .boolean V [.int v] (fun x V1 => V1 = V ∧ hv_B (sp_in v 0 1000000000) x) := by
  refine hv_enter (by decide) (Nat.le_of_ble_eq_true rfl) ?_
  intro p e s m below meth c ls C0 hr hlk hnm w hl
  have hl : lv_has ls 1 [(0, .int v)] := hl
  refine lv_iload_n C0.1 C0.2.1 dX6_isNumber_0 rfl (lv_at hl 0 rfl) ?_
  refine lv_iconst (v := 0) C0.1 C0.2.1 dX6_isNumber_1 (by decide) ?_
  refine lv_ldcw C0.1 C0.2.1 C0.2.2.2.1 (C0.2.2.2.2.1 _ kk_X6_268) dX6_isNumber_2 ?_
  refine hv_cSi (As := [.int v, .int 0, .int 1000000000]) C0 w kl_X6_68 ks_X6_within (c_X6_within) (by decide) (by decide) rfl hl.1 rfl (Nat.le_of_ble_eq_true rfl) dX6_isNumber_5 ⟨Nat.le_refl _, Nat.le_refl _⟩ (fun x1 V2 Hq lq hp3 w => ?_)
  obtain ⟨e9, hz9⟩ := hp3
  rw [e9] at w; clear e9
  rcases hz9 with ⟨rfl, hb4⟩ | ⟨rfl, hb4⟩
  · skip
    exact hv_zret C0 w hr hlk (by decide) (⟨rfl, Or.inl ⟨rfl, hb4⟩⟩) dX6_isNumber_8
  · skip
    exact hv_zret C0 w hr hlk (by decide) (⟨rfl, Or.inr ⟨rfl, hb4⟩⟩) dX6_isNumber_8

set_option maxHeartbeats 4000000 in
set_option maxRecDepth 100000 in
theorem c_X6_isPart {l : Launch} {X : hv_X} {V : hv_V} {v : Int32} : hv_Mi l X 1 yX6_isPart cX6_isPart 1 .boolean V [.int v] (fun x V1 => V1 = V ∧ hv_B (sp_in v 0 1) x) := by
  refine hv_enter (by decide) (Nat.le_of_ble_eq_true rfl) ?_
  intro p e s m below meth c ls C0 hr hlk hnm w hl
  have hl : lv_has ls 1 [(0, .int v)] := hl
  refine lv_iload_n C0.1 C0.2.1 dX6_isPart_0 rfl (lv_at hl 0 rfl) ?_
  refine lv_iconst (v := 0) C0.1 C0.2.1 dX6_isPart_1 (by decide) ?_
  refine lv_iconst (v := 1) C0.1 C0.2.1 dX6_isPart_2 (by decide) ?_
  refine hv_cSi (As := [.int v, .int 0, .int 1]) C0 w kl_X6_68 ks_X6_within (c_X6_within) (by decide) (by decide) rfl hl.1 rfl (Nat.le_of_ble_eq_true rfl) dX6_isPart_3 ⟨Nat.le_refl _, Nat.le_refl _⟩ (fun x1 V2 Hq lq hp3 w => ?_)
  obtain ⟨e9, hz9⟩ := hp3
  rw [e9] at w; clear e9
  rcases hz9 with ⟨rfl, hb4⟩ | ⟨rfl, hb4⟩
  · skip
    exact hv_zret C0 w hr hlk (by decide) (⟨rfl, Or.inl ⟨rfl, hb4⟩⟩) dX6_isPart_6
  · skip
    exact hv_zret C0 w hr hlk (by decide) (⟨rfl, Or.inr ⟨rfl, hb4⟩⟩) dX6_isPart_6

set_option maxHeartbeats 4000000 in
set_option maxRecDepth 100000 in
theorem c_X6_isTape {l : Launch} {X : hv_X} {V : hv_V} {v : Int32} : hv_Mi l X 1 yX6_isTape cX6_isTape 1 .boolean V [.int v] (fun x V1 => V1 = V ∧ hv_B (sp_in v 0 5) x) := by
  refine hv_enter (by decide) (Nat.le_of_ble_eq_true rfl) ?_
  intro p e s m below meth c ls C0 hr hlk hnm w hl
  have hl : lv_has ls 1 [(0, .int v)] := hl
  refine lv_iload_n C0.1 C0.2.1 dX6_isTape_0 rfl (lv_at hl 0 rfl) ?_
  refine lv_iconst (v := 0) C0.1 C0.2.1 dX6_isTape_1 (by decide) ?_
  refine lv_iconst (v := 5) C0.1 C0.2.1 dX6_isTape_2 (by decide) ?_
  refine hv_cSi (As := [.int v, .int 0, .int 5]) C0 w kl_X6_68 ks_X6_within (c_X6_within) (by decide) (by decide) rfl hl.1 rfl (Nat.le_of_ble_eq_true rfl) dX6_isTape_3 ⟨Nat.le_refl _, Nat.le_refl _⟩ (fun x1 V2 Hq lq hp3 w => ?_)
  obtain ⟨e9, hz9⟩ := hp3
  rw [e9] at w; clear e9
  rcases hz9 with ⟨rfl, hb4⟩ | ⟨rfl, hb4⟩
  · skip
    exact hv_zret C0 w hr hlk (by decide) (⟨rfl, Or.inl ⟨rfl, hb4⟩⟩) dX6_isTape_6
  · skip
    exact hv_zret C0 w hr hlk (by decide) (⟨rfl, Or.inr ⟨rfl, hb4⟩⟩) dX6_isTape_6

set_option maxHeartbeats 4000000 in
set_option maxRecDepth 100000 in
theorem c_X7_isRow {l : Launch} {X : hv_X} {V : hv_V} {v : Int32} : hv_Mi l X 1 yX7_isRow cX7_isRow 1 .boolean V [.int v] (fun x V1 => V1 = V ∧ hv_B (sp_in v 0 5) x) := by
  refine hv_enter (by decide) (Nat.le_of_ble_eq_true rfl) ?_
  intro p e s m below meth c ls C0 hr hlk hnm w hl
  have hl : lv_has ls 1 [(0, .int v)] := hl
  refine lv_iload_n C0.1 C0.2.1 dX7_isRow_0 rfl (lv_at hl 0 rfl) ?_
  refine lv_iconst (v := 0) C0.1 C0.2.1 dX7_isRow_1 (by decide) ?_
  refine lv_iconst (v := 5) C0.1 C0.2.1 dX7_isRow_2 (by decide) ?_
  refine hv_cSi (As := [.int v, .int 0, .int 5]) C0 w kl_X7_89 ks_X7_in (c_X7_in) (by decide) (by decide) rfl hl.1 rfl (Nat.le_of_ble_eq_true rfl) dX7_isRow_3 ⟨Nat.le_refl _, Nat.le_refl _⟩ (fun x1 V2 Hq lq hp3 w => ?_)
  obtain ⟨e9, hz9⟩ := hp3
  rw [e9] at w; clear e9
  rcases hz9 with ⟨rfl, hb4⟩ | ⟨rfl, hb4⟩
  · skip
    exact hv_zret C0 w hr hlk (by decide) (⟨rfl, Or.inl ⟨rfl, hb4⟩⟩) dX7_isRow_6
  · skip
    exact hv_zret C0 w hr hlk (by decide) (⟨rfl, Or.inr ⟨rfl, hb4⟩⟩) dX7_isRow_6

set_option maxHeartbeats 4000000 in
set_option maxRecDepth 100000 in
theorem c_X7_isKind {l : Launch} {X : hv_X} {V : hv_V} {v : Int32} : hv_Mi l X 1 yX7_isKind cX7_isKind 1 .boolean V [.int v] (fun x V1 => V1 = V ∧ hv_B (sp_in v 0 3) x) := by
  refine hv_enter (by decide) (Nat.le_of_ble_eq_true rfl) ?_
  intro p e s m below meth c ls C0 hr hlk hnm w hl
  have hl : lv_has ls 1 [(0, .int v)] := hl
  refine lv_iload_n C0.1 C0.2.1 dX7_isKind_0 rfl (lv_at hl 0 rfl) ?_
  refine lv_iconst (v := 0) C0.1 C0.2.1 dX7_isKind_1 (by decide) ?_
  refine lv_iconst (v := 3) C0.1 C0.2.1 dX7_isKind_2 (by decide) ?_
  refine hv_cSi (As := [.int v, .int 0, .int 3]) C0 w kl_X7_89 ks_X7_in (c_X7_in) (by decide) (by decide) rfl hl.1 rfl (Nat.le_of_ble_eq_true rfl) dX7_isKind_3 ⟨Nat.le_refl _, Nat.le_refl _⟩ (fun x1 V2 Hq lq hp3 w => ?_)
  obtain ⟨e9, hz9⟩ := hp3
  rw [e9] at w; clear e9
  rcases hz9 with ⟨rfl, hb4⟩ | ⟨rfl, hb4⟩
  · skip
    exact hv_zret C0 w hr hlk (by decide) (⟨rfl, Or.inl ⟨rfl, hb4⟩⟩) dX7_isKind_6
  · skip
    exact hv_zret C0 w hr hlk (by decide) (⟨rfl, Or.inr ⟨rfl, hb4⟩⟩) dX7_isKind_6

set_option maxHeartbeats 4000000 in
set_option maxRecDepth 100000 in
theorem c_X7_isPart {l : Launch} {X : hv_X} {V : hv_V} {v : Int32} : hv_Mi l X 1 yX7_isPart cX7_isPart 1 .boolean V [.int v] (fun x V1 => V1 = V ∧ hv_B (sp_in v 0 1) x) := by
  refine hv_enter (by decide) (Nat.le_of_ble_eq_true rfl) ?_
  intro p e s m below meth c ls C0 hr hlk hnm w hl
  have hl : lv_has ls 1 [(0, .int v)] := hl
  refine lv_iload_n C0.1 C0.2.1 dX7_isPart_0 rfl (lv_at hl 0 rfl) ?_
  refine lv_iconst (v := 0) C0.1 C0.2.1 dX7_isPart_1 (by decide) ?_
  refine lv_iconst (v := 1) C0.1 C0.2.1 dX7_isPart_2 (by decide) ?_
  refine hv_cSi (As := [.int v, .int 0, .int 1]) C0 w kl_X7_89 ks_X7_in (c_X7_in) (by decide) (by decide) rfl hl.1 rfl (Nat.le_of_ble_eq_true rfl) dX7_isPart_3 ⟨Nat.le_refl _, Nat.le_refl _⟩ (fun x1 V2 Hq lq hp3 w => ?_)
  obtain ⟨e9, hz9⟩ := hp3
  rw [e9] at w; clear e9
  rcases hz9 with ⟨rfl, hb4⟩ | ⟨rfl, hb4⟩
  · skip
    exact hv_zret C0 w hr hlk (by decide) (⟨rfl, Or.inl ⟨rfl, hb4⟩⟩) dX7_isPart_6
  · skip
    exact hv_zret C0 w hr hlk (by decide) (⟨rfl, Or.inr ⟨rfl, hb4⟩⟩) dX7_isPart_6

set_option maxHeartbeats 4000000 in
set_option maxRecDepth 100000 in
theorem c_X7_isTape {l : Launch} {X : hv_X} {V : hv_V} {v : Int32} : hv_Mi l X 1 yX7_isTape cX7_isTape 1 .boolean V [.int v] (fun x V1 => V1 = V ∧ hv_B (sp_in v 0 5) x) := by
  refine hv_enter (by decide) (Nat.le_of_ble_eq_true rfl) ?_
  intro p e s m below meth c ls C0 hr hlk hnm w hl
  have hl : lv_has ls 1 [(0, .int v)] := hl
  refine lv_iload_n C0.1 C0.2.1 dX7_isTape_0 rfl (lv_at hl 0 rfl) ?_
  refine lv_iconst (v := 0) C0.1 C0.2.1 dX7_isTape_1 (by decide) ?_
  refine lv_iconst (v := 5) C0.1 C0.2.1 dX7_isTape_2 (by decide) ?_
  refine hv_cSi (As := [.int v, .int 0, .int 5]) C0 w kl_X7_89 ks_X7_in (c_X7_in) (by decide) (by decide) rfl hl.1 rfl (Nat.le_of_ble_eq_true rfl) dX7_isTape_3 ⟨Nat.le_refl _, Nat.le_refl _⟩ (fun x1 V2 Hq lq hp3 w => ?_)
  obtain ⟨e9, hz9⟩ := hp3
  rw [e9] at w; clear e9
  rcases hz9 with ⟨rfl, hb4⟩ | ⟨rfl, hb4⟩
  · skip
    exact hv_zret C0 w hr hlk (by decide) (⟨rfl, Or.inl ⟨rfl, hb4⟩⟩) dX7_isTape_6
  · skip
    exact hv_zret C0 w hr hlk (by decide) (⟨rfl, Or.inr ⟨rfl, hb4⟩⟩) dX7_isTape_6

