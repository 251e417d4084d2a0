/-- x, x + 1 .. (m of them): the first behind which the rest is found -/
def ru_l (r : Nat → Int64 → Int64 → Option (List Nat)) (up low : Int64) : Nat → Nat → Option (List Nat)
  | 0, _ => none
  | m + 1, x => match r (x + 1) (up * (nI x).toInt64 - low) (low * (nI x).toInt64) with
    | some l => some (x :: l)
    | none => ru_l r up low m (x + 1)
def ru : Nat → Nat → Int64 → Int64 → Option (List Nat)
  | 0, _, up, _ => if up = 0 then some [] else none
  | d + 1, fr, up, low => if up ≤ 0 then none else ru_l (ru d) up low (61 - fr) fr
def um (u : Nat → Int32) : Nat → List Nat → Prop
  | _, [] => True
  | k, x :: l => u k = nI x ∧ um u (k + 1) l
theorem ru_ls {r : Nat → Int64 → Int64 → Option (List Nat)} {up low : Int64} {m x : Nat} {l : List Nat} (h : r (x + 1) (up * (nI x).toInt64 - low) (low * (nI x).toInt64) = some l) : ru_l r up low (m + 1) x = some (x :: l) := by
  show (match r (x + 1) (up * (nI x).toInt64 - low) (low * (nI x).toInt64) with | some l => some (x :: l) | none => ru_l r up low m (x + 1)) = _
  rw [h]
theorem ru_ln {r : Nat → Int64 → Int64 → Option (List Nat)} {up low : Int64} {m x : Nat} (h : r (x + 1) (up * (nI x).toInt64 - low) (low * (nI x).toInt64) = none) : ru_l r up low (m + 1) x = ru_l r up low m (x + 1) := by
  show (match r (x + 1) (up * (nI x).toInt64 - low) (low * (nI x).toInt64) with | some l => some (x :: l) | none => ru_l r up low m (x + 1)) = _
  rw [h]
set_option maxHeartbeats 4000000 in
set_option maxRecDepth 100000 in
theorem c_X7_isUnits0 {l : Launch} {X : hv_X} {V : hv_V} {mo : Nat} {ab be : Int64} {tx se ev bk : Nat} {pl cl sg ik : Int32} (hO : V mo = some (mE mo ab be tx pl cl sg se ev bk ik)) {N k fr : Nat} {u : Nat → Int32} {up low : Int64} (hU : V (mo + 14) = some (iE X 3 u)) (hN : k = N) : hv_Mi l X 0 yX7_isUnits cX7_isUnits 9 .boolean V [.ref mo, .int (nI N), .int (nI k), .int (nI fr), .long up, .long low] (fun y V1 => ∃ u1 : Nat → Int32, V1 = hv_up V (mo + 14) (iE X 3 u1) ∧ (∀ i, i < k → u1 i = u i) ∧ ((y = 1 ∧ ∃ l9, ru 0 fr up low = some l9 ∧ um u1 k l9) ∨ (y = 0 ∧ ru 0 fr up low = none))) := by
  refine hv_enter (by decide) (Nat.le_of_ble_eq_true rfl) ?_
  intro p e s m below meth c ls C0 hr hlk hnm w hl
  have hl : lv_has ls 9 [(0, .ref mo), (1, .int (nI N)), (2, .int (nI k)), (3, .int (nI fr)), (4, .long up), (6, .long low)] := hl
  refine lv_iload_n C0.1 C0.2.1 dX7_isUnits_0 rfl (lv_at hl 2 rfl) ?_
  refine lv_iload_n C0.1 C0.2.1 dX7_isUnits_1 rfl (lv_at hl 1 rfl) ?_
  refine lv_icmp_ne (tgt := 18) C0.1 C0.2.1 dX7_isUnits_2 (by decide) (fun c_2 => absurd (by rw [hN]) c_2) (fun c_2 => ?_)
  refine lv_lload C0.1 C0.2.1 dX7_isUnits_5 (lv_at hl 4 rfl) ?_
  refine lv_lconst (v := 0) C0.1 C0.2.1 dX7_isUnits_7 (by decide) ?_
  refine hv_lc_ne (tgt := 16) C0.1 C0.2.1 dX7_isUnits_8 dX7_isUnits_9 (by decide) (fun c_8 => ?_) (fun c_8 => ?_)
  · skip
    refine lv_iconst (v := 0) C0.1 C0.2.1 dX7_isUnits_16 (by decide) ?_
    exact hv_zret C0 w hr hlk (by decide) (⟨u, (hv_id hU).symm, fun _ _ => rfl, Or.inr ⟨rfl, by rw [ru, if_neg c_8]⟩⟩) dX7_isUnits_17
  · skip
    refine lv_iconst (v := 1) C0.1 C0.2.1 dX7_isUnits_12 (by decide) ?_
    refine lv_goto (tgt := 17) C0.1 C0.2.1 dX7_isUnits_13 (by decide) ?_
    exact hv_zret C0 w hr hlk (by decide) (⟨u, (hv_id hU).symm, fun _ _ => rfl, Or.inl ⟨rfl, [], by rw [ru, if_pos c_8], trivial⟩⟩) dX7_isUnits_17

set_option maxHeartbeats 4000000 in
set_option maxRecDepth 100000 in
theorem c_X7_isUnitsS {l : Launch} {X : hv_X} {V : hv_V} {mo : Nat} {ab be : Int64} {tx se ev bk : Nat} {pl cl sg ik : Int32} (hO : V mo = some (mE mo ab be tx pl cl sg se ev bk ik)) {N k fr : Nat} {u : Nat → Int32} {up low : Int64} (hU : V (mo + 14) = some (iE X 3 u)) {d : Nat} (hN : k + (d + 1) = N) (hN3 : N ≤ 3) (hfr : fr ≤ 61) (ih : ∀ {V : hv_V} {u : Nat → Int32} {k fr : Nat} {up low : Int64}, V mo = some (mE mo ab be tx pl cl sg se ev bk ik) → V (mo + 14) = some (iE X 3 u) → k + d = N → fr ≤ 61 → hv_Mi l X d yX7_isUnits cX7_isUnits 9 .boolean V [.ref mo, .int (nI N), .int (nI k), .int (nI fr), .long up, .long low] (fun y V1 => ∃ u1 : Nat → Int32, V1 = hv_up V (mo + 14) (iE X 3 u1) ∧ (∀ i, i < k → u1 i = u i) ∧ ((y = 1 ∧ ∃ l9, ru d fr up low = some l9 ∧ um u1 k l9) ∨ (y = 0 ∧ ru d fr up low = none)))) : hv_Mi l X (d + 1) yX7_isUnits cX7_isUnits 9 .boolean V [.ref mo, .int (nI N), .int (nI k), .int (nI fr), .long up, .long low] (fun y V1 => ∃ u1 : Nat → Int32, V1 = hv_up V (mo + 14) (iE X 3 u1) ∧ (∀ i, i < k → u1 i = u i) ∧ ((y = 1 ∧ ∃ l9, ru (d + 1) fr up low = some l9 ∧ um u1 k l9) ∨ (y = 0 ∧ ru (d + 1) fr up low = none))) := by
  refine hv_enter (by decide) (Nat.le_of_ble_eq_true rfl) ?_
  intro p e s m below meth c ls C0 hr hlk hnm w hl
  have hl : lv_has ls 9 [(0, .ref mo), (1, .int (nI N)), (2, .int (nI k)), (3, .int (nI fr)), (4, .long up), (6, .long low)] := hl
  have loop : ∀ (hp : ¬ up ≤ 0) (m9 x : Nat) (u8 : Nat → Int32) (Hq : Heap) (lq : List Loc) (ls : Array Slot), (x + m9 = 61) → (∀ i, i < k → u8 i = u i) → (ru_l (ru d) up low m9 x = ru_l (ru d) up low (61 - fr) fr) → hv_w X s (hv_up V (mo + 14) (iE X 3 u8)) Hq lq → lv_has ls 9 [(0, .ref mo), (1, .int (nI N)), (2, .int (nI k)), (3, .int (nI fr)), (4, .long up), (6, .long low), (8, .int (nI x))] → W p l e (hv_rm (d + 1) 0 0) s m ([.ref mo, .int (nI N), .int (nI k), .int (nI fr), .long up, .long low] : List Value).toArray below meth c Hq lq 0 0 (MQ below (hv_Qi X (fun y V1 => ∃ u1 : Nat → Int32, V1 = hv_up V (mo + 14) (iE X 3 u1) ∧ (∀ i, i < k → u1 i = u i) ∧ ((y = 1 ∧ ∃ l9, ru (d + 1) fr up low = some l9 ∧ um u1 k l9) ∨ (y = 0 ∧ ru (d + 1) fr up low = none)))) ([.ref mo, .int (nI N), .int (nI k), .int (nI fr), .long up, .long low] : List Value).toArray s 0 0 X.2.2.1) (F0 m 30 ls []) := by
    intro hp m9
    induction m9 with
    | zero =>
      intro x u8 Hq lq ls hi hu8 he w hl
      have he : none = ru_l (ru d) up low (61 - fr) fr := he
      obtain ⟨V8, e8⟩ : ∃ W9, W9 = hv_up V (mo + 14) (iE X 3 u8) := ⟨_, rfl⟩
      rw [← e8] at w
      have q0 : V8 mo = some (.inr (7, [.ref (mo + 1), .ref (mo + 2), .ref (mo + 3), .long ab, .long be, .ref (mo + 10), .int (nI tx), .int pl, .int cl, .ref (mo + 11), .ref (mo + 12), .ref (mo + 13), .int sg, .ref (mo + 14), .ref (mo + 15), .ref (mo + 16), .ref (mo + 17), .int (nI se), .ref (mo + 18), .ref (mo + 19), .int (nI ev), .ref (mo + 20), .ref (mo + 21), .ref (mo + 22), .int (nI bk), .int ik, .ref (mo + 23), .ref (mo + 24), .ref (mo + 25), .ref (mo + 26), .ref (mo + 33), .ref (mo + 41), .ref (mo + 42), .ref (mo + 43)])) := by rw [e8, hv_un (by omega)]; exact hO
      have q1 : V8 (mo + 14) = some (iE X 3 u8) := by rw [e8]; exact hv_us
      refine lv_iload C0.1 C0.2.1 dX7_isUnits_30 (lv_at hl 6 rfl) ?_
      refine lv_bipush (v := 60) C0.1 C0.2.1 dX7_isUnits_32 (by decide) ?_
      refine lv_icmp_gt (tgt := 83) C0.1 C0.2.1 dX7_isUnits_34 (by decide) (fun c_34 => ?_) (fun c_34 => absurd (show nI 60 < nI x from nI_lt (by omega) (by omega)) c_34)
      refine lv_iconst (v := 0) C0.1 C0.2.1 dX7_isUnits_83 (by decide) ?_
      exact hv_zret C0 w hr hlk (by decide) (⟨u8, e8, hu8, Or.inr ⟨rfl, by rw [ru, if_neg hp]; exact he.symm⟩⟩) dX7_isUnits_84
    | succ m9 ih2 =>
      intro x u8 Hq lq ls hi hu8 he w hl
      obtain ⟨V8, e8⟩ : ∃ W9, W9 = hv_up V (mo + 14) (iE X 3 u8) := ⟨_, rfl⟩
      rw [← e8] at w
      have q0 : V8 mo = some (.inr (7, [.ref (mo + 1), .ref (mo + 2), .ref (mo + 3), .long ab, .long be, .ref (mo + 10), .int (nI tx), .int pl, .int cl, .ref (mo + 11), .ref (mo + 12), .ref (mo + 13), .int sg, .ref (mo + 14), .ref (mo + 15), .ref (mo + 16), .ref (mo + 17), .int (nI se), .ref (mo + 18), .ref (mo + 19), .int (nI ev), .ref (mo + 20), .ref (mo + 21), .ref (mo + 22), .int (nI bk), .int ik, .ref (mo + 23), .ref (mo + 24), .ref (mo + 25), .ref (mo + 26), .ref (mo + 33), .ref (mo + 41), .ref (mo + 42), .ref (mo + 43)])) := by rw [e8, hv_un (by omega)]; exact hO
      have q1 : V8 (mo + 14) = some (iE X 3 u8) := by rw [e8]; exact hv_us
      refine lv_iload C0.1 C0.2.1 dX7_isUnits_30 (lv_at hl 6 rfl) ?_
      refine lv_bipush (v := 60) C0.1 C0.2.1 dX7_isUnits_32 (by decide) ?_
      refine lv_icmp_gt (tgt := 83) C0.1 C0.2.1 dX7_isUnits_34 (by decide) (fun c_34 => absurd c_34 (show ¬ nI 60 < nI x from nI_nlt (by omega) (by omega))) (fun c_34 => ?_)
      refine lv_aload_n C0.1 C0.2.1 dX7_isUnits_37 rfl (lv_at hl 0 rfl) ?_
      refine gf_X7_36 C0 w q0 rfl dX7_isUnits_38 ?_
      refine lv_iload_n C0.1 C0.2.1 dX7_isUnits_41 rfl (lv_at hl 2 rfl) ?_
      refine lv_iload C0.1 C0.2.1 dX7_isUnits_42 (lv_at hl 6 rfl) ?_
      refine hv_iast C0 w q1 (hn_in (by omega) (by decide)) dX7_isUnits_44 (fun Hq lq w => ?_)
      have hc1 : (nI k).toNatClampNeg = k := nI_clamp (by omega)
      rw [hc1] at w
      obtain ⟨V2, eV3⟩ : ∃ W9, W9 = hv_up V8 (mo + 14) (.inl (X.2.1 0, 3, .inl (upd u8 k (nI x)))) := ⟨_, rfl⟩
      have w : hv_w X s V2 Hq lq := by rw [eV3]; exact w
      have hV4 : V2 mo = some (.inr (7, [.ref (mo + 1), .ref (mo + 2), .ref (mo + 3), .long ab, .long be, .ref (mo + 10), .int (nI tx), .int pl, .int cl, .ref (mo + 11), .ref (mo + 12), .ref (mo + 13), .int sg, .ref (mo + 14), .ref (mo + 15), .ref (mo + 16), .ref (mo + 17), .int (nI se), .ref (mo + 18), .ref (mo + 19), .int (nI ev), .ref (mo + 20), .ref (mo + 21), .ref (mo + 22), .int (nI bk), .int ik, .ref (mo + 23), .ref (mo + 24), .ref (mo + 25), .ref (mo + 26), .ref (mo + 33), .ref (mo + 41), .ref (mo + 42), .ref (mo + 43)])) := by rw [eV3, hv_un (by omega)]; exact q0
      have hV6 : V2 (mo + 14) = some (.inl (X.2.1 0, 3, .inl (upd u8 k (nI x)))) := by rw [eV3]; exact hv_us
      refine lv_aload_n C0.1 C0.2.1 dX7_isUnits_45 rfl (lv_at hl 0 rfl) ?_
      refine lv_iload_n C0.1 C0.2.1 dX7_isUnits_46 rfl (lv_at hl 1 rfl) ?_
      refine lv_iload_n C0.1 C0.2.1 dX7_isUnits_47 rfl (lv_at hl 2 rfl) ?_
      refine lv_iconst (v := 1) C0.1 C0.2.1 dX7_isUnits_48 (by decide) ?_
      refine lv_iadd C0.1 C0.2.1 dX7_isUnits_49 ?_
      rw [nI_1]
      refine lv_iload C0.1 C0.2.1 dX7_isUnits_50 (lv_at hl 6 rfl) ?_
      refine lv_iconst (v := 1) C0.1 C0.2.1 dX7_isUnits_52 (by decide) ?_
      refine lv_iadd C0.1 C0.2.1 dX7_isUnits_53 ?_
      rw [nI_1 x]
      refine lv_lload C0.1 C0.2.1 dX7_isUnits_54 (lv_at hl 4 rfl) ?_
      refine lv_iload C0.1 C0.2.1 dX7_isUnits_56 (lv_at hl 6 rfl) ?_
      refine lv_i2l (v := (nI x).toInt64) C0.1 C0.2.1 dX7_isUnits_58 rfl ?_
      refine lv_lmul C0.1 C0.2.1 dX7_isUnits_59 ?_
      refine lv_lload C0.1 C0.2.1 dX7_isUnits_60 (lv_at hl 5 rfl) ?_
      refine lv_lsub C0.1 C0.2.1 dX7_isUnits_62 ?_
      refine lv_lload C0.1 C0.2.1 dX7_isUnits_63 (lv_at hl 5 rfl) ?_
      refine lv_iload C0.1 C0.2.1 dX7_isUnits_65 (lv_at hl 6 rfl) ?_
      refine lv_i2l (v := (nI x).toInt64) C0.1 C0.2.1 dX7_isUnits_67 rfl ?_
      refine lv_lmul C0.1 C0.2.1 dX7_isUnits_68 ?_
      refine hv_cVi C0 w kl_X7_271 kv_X7_isUnits rfl hV4 (ih hV4 hV6 (by omega) (by omega)) (Nat.le_refl _) (by decide) rfl hl.1 rfl (Nat.le_of_ble_eq_true rfl) dX7_isUnits_69 ⟨Nat.le_refl _, Nat.le_refl _⟩ (fun x7 V8 Hq lq hp9 w => ?_)
      obtain ⟨u9, e9, hk9, hz9⟩ := hp9
      have hu9 : ∀ i, i < k → u9 i = u i := fun i hi => by rw [hk9 i (by omega), show upd u8 k (nI x) i = u8 i from if_neg (by omega)]; exact hu8 i hi
      have ew9 := e9
      rw [eV3, e8, hv_uu, hv_uu] at ew9
      rcases hz9 with ⟨rfl, l9, hl9, hm9⟩ | ⟨rfl, hl9⟩
      · skip
        refine lv_if_eq (tgt := 77) C0.1 C0.2.1 dX7_isUnits_72 (by decide) (fun h9 => absurd h9 (by decide)) (fun _ => ?_)
        refine lv_iconst (v := 1) C0.1 C0.2.1 dX7_isUnits_75 (by decide) ?_
        exact hv_zret C0 w hr hlk (by decide) (⟨u9, ew9, hu9, Or.inl ⟨rfl, x :: l9, by rw [ru, if_neg hp, ← he, ru_ls hl9], by rw [hk9 k (by omega)]; exact if_pos rfl, hm9⟩⟩) dX7_isUnits_76
      · skip
        refine lv_if_eq (tgt := 77) C0.1 C0.2.1 dX7_isUnits_72 (by decide) (fun _ => ?_) (fun h9 => absurd h9 (by decide))
        refine lv_iinc (v := (nI x) + 1) (lv' := [(8, .int ((nI x) + 1)), (0, .ref mo), (1, .int (nI N)), (2, .int (nI k)), (3, .int (nI fr)), (4, .long up), (6, .long low)]) C0.1 C0.2.1 dX7_isUnits_77 hl (k := 6) rfl rfl (by decide) rfl (fun ls hl => ?_)
        refine lv_goto (tgt := 30) C0.1 C0.2.1 dX7_isUnits_80 (by decide) ?_
        exact ih2 (x + 1) u9 _ _ ls (by omega) hu9 (by rw [← he, ru_ln hl9]) (by rw [ew9] at w; exact w) (by have h9 := (lv_sub (l' := [(0, .ref mo), (1, .int (nI N)), (2, .int (nI k)), (3, .int (nI fr)), (4, .long up), (6, .long low), (8, .int (nI x + 1))]) hl [1, 2, 3, 4, 5, 6, 0] rfl); rw [nI_1] at h9; exact h9)
  refine lv_iload_n C0.1 C0.2.1 dX7_isUnits_0 rfl (lv_at hl 2 rfl) ?_
  refine lv_iload_n C0.1 C0.2.1 dX7_isUnits_1 rfl (lv_at hl 1 rfl) ?_
  refine lv_icmp_ne (tgt := 18) C0.1 C0.2.1 dX7_isUnits_2 (by decide) (fun c_2 => ?_) (fun c_2 => absurd c_2 (fun h9 => by have h8 := (nI_eq (by omega) (by omega)).mp h9; omega))
  refine lv_lload C0.1 C0.2.1 dX7_isUnits_18 (lv_at hl 4 rfl) ?_
  refine lv_lconst (v := 0) C0.1 C0.2.1 dX7_isUnits_20 (by decide) ?_
  refine hv_lc_gt (tgt := 27) C0.1 C0.2.1 dX7_isUnits_21 dX7_isUnits_22 (by decide) (fun c_21 => ?_) (fun c_21 => ?_)
  · skip
    refine lv_iload_n C0.1 C0.2.1 dX7_isUnits_27 rfl (lv_at hl 3 rfl) ?_
    refine lv_istore (lv' := [(8, .int (nI fr)), (0, .ref mo), (1, .int (nI N)), (2, .int (nI k)), (3, .int (nI fr)), (4, .long up), (6, .long low)]) C0.1 C0.2.1 dX7_isUnits_28 hl (by decide) rfl (fun ls hl => ?_)
    exact loop (Int64.not_le.mpr c_21) (61 - fr) fr u _ _ ls (by omega) (fun _ _ => rfl) rfl (by rw [hv_id hU]; exact w) (lv_sub hl [1, 2, 3, 4, 5, 6, 0] rfl)
  · skip
    refine lv_iconst (v := 0) C0.1 C0.2.1 dX7_isUnits_25 (by decide) ?_
    exact hv_zret C0 w hr hlk (by decide) (⟨u, (hv_id hU).symm, fun _ _ => rfl, Or.inr ⟨rfl, by rw [ru, if_pos (Int64.not_lt.mp c_21)]⟩⟩) dX7_isUnits_26

theorem c_X7_isUnits {l : Launch} {X : hv_X} {mo : Nat} {ab be : Int64} {tx se ev bk : Nat} {pl cl sg ik : Int32} {N : Nat} (hN3 : N ≤ 3) : ∀ (d : Nat) {V : hv_V} {u : Nat → Int32} {k fr : Nat} {up low : Int64}, V mo = some (mE mo ab be tx pl cl sg se ev bk ik) → V (mo + 14) = some (iE X 3 u) → k + d = N → fr ≤ 61 → hv_Mi l X d yX7_isUnits cX7_isUnits 9 .boolean V [.ref mo, .int (nI N), .int (nI k), .int (nI fr), .long up, .long low] (fun y V1 => ∃ u1 : Nat → Int32, V1 = hv_up V (mo + 14) (iE X 3 u1) ∧ (∀ i, i < k → u1 i = u i) ∧ ((y = 1 ∧ ∃ l9, ru d fr up low = some l9 ∧ um u1 k l9) ∨ (y = 0 ∧ ru d fr up low = none)))
  | 0, V, u, k, fr, up, low, h1, h2, h3, h4 => c_X7_isUnits0 h1 h2 h3
  | d + 1, V, u, k, fr, up, low, h1, h2, h3, h4 => c_X7_isUnitsS h1 h2 h3 hN3 h4 (fun a b c e => c_X7_isUnits hN3 d a b c e)
