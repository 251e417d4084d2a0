/-! THE CLASS'S SCRIPT: parse -/
theorem rd_st1 {x : Int32} {v : Nat} (h : 48 ≤ x ∧ x ≤ 57) : nI v * 10 + (x - 48) = nI (v * 10 + (x.toNatClampNeg - 48)) := by
  obtain ⟨d, h1, h2, h3, h4⟩ := rd_dig h
  rw [h4, h3, show (48 : Int32) = nI 48 from rfl, show (10 : Int32) = nI 10 from rfl, nI_sub h1, nI_mul, nI_add]
theorem rd_st2 {x : Int32} {v : Nat} (h : 48 ≤ x ∧ x ≤ 57) : 10 * nI v + x - 48 = nI (v * 10 + (x.toNatClampNeg - 48)) := by
  obtain ⟨d, h1, h2, h3, h4⟩ := rd_dig h
  rw [h4, h3, show (48 : Int32) = nI 48 from rfl, show (10 : Int32) = nI 10 from rfl, nI_mul, nI_add, nI_sub (by omega), Nat.mul_comm 10, Nat.add_sub_assoc h1]
theorem rd_ix1 (c k : Nat) : nI c * 4 + nI k = nI (4 * c + k) := by rw [show (4 : Int32) = nI 4 from rfl, nI_mul, nI_add, Nat.mul_comm]
theorem rd_ix2 (c k : Nat) : 4 * nI c + nI k = nI (4 * c + k) := by rw [show (4 : Int32) = nI 4 from rfl, nI_mul, nI_add]
theorem nI_m1 {a : Nat} (h : a < 2 ^ 31) : ¬ nI a = -1 := fun e => by
  have h1 := nI_pos (n := a) h
  rw [e] at h1
  exact h1 (by decide)
theorem nI_mx {a b : Nat} (ha : a < 2 ^ 31) (hb : b < 2 ^ 31) : (if nI a < nI b then nI b else nI a) = nI (rd_mx a b) := by
  unfold rd_mx
  by_cases h : a < b
  · rw [if_pos h, if_pos (nI_lt h hb)]
  · rw [if_neg h, if_neg (nI_nlt (by omega) ha)]
theorem rd_mx0 (a : Nat) : rd_mx 0 a = a := by
  unfold rd_mx
  by_cases h : 0 < a
  · rw [if_pos h]
  · rw [if_neg h]; omega
theorem rd_due4 (w : Nat) : 2 ≤ rd_due w ∧ rd_due w ≤ 4 := by
  unfold rd_due
  by_cases h : w = 0
  · rw [if_pos h]; omega
  · rw [if_neg h]; omega
set_option maxHeartbeats 4000000 in
set_option maxRecDepth 100000 in
theorem c_X4_wordText {l : Launch} {X : hv_X} {V : hv_V} {i : Nat} (hi5 : i < 5) : hv_Mr l X 0 yX4_wordText cX4_wordText 1 (.object "java/lang/String") V [.int (nI i)] (fun a V1 => V1 = V ∧ a = X.2.2.2.1 i) := by
  refine hv_enter (by decide) (Nat.le_of_ble_eq_true rfl) ?_
  intro p7 e s m below meth c7 ls C0 hr hlk hnm w hl
  have hl : lv_has ls 1 [(0, .int (nI i))] := hl
  refine lv_iload_n C0.1 C0.2.1 dX4_wordText_0 rfl (lv_at hl 0 rfl) ?_
  by_cases c_1_0 : (nI i) = 0
  · refine lv_tableIn (off := 31) (tgt := 32) C0.1 C0.2.1 dX4_wordText_1 (by rw [c_1_0]; decide) (by rw [c_1_0]; decide) (by rw [c_1_0]; rfl) (by decide) ?_
    refine hv_ldcS (i := 0) (tx := "spread") C0 (by decide) dX4_wordText_32 ?_
    exact hv_aret C0 w hr (by first | exact Or.inl ⟨_, rfl⟩ | exact Or.inr ⟨_, rfl⟩) hlk (⟨rfl, by rw [(nI_eq (b := 0) (by omega) (by omega)).mp c_1_0]⟩) dX4_wordText_34
  by_cases c_1_1 : (nI i) = 1
  · refine lv_tableIn (off := 34) (tgt := 35) C0.1 C0.2.1 dX4_wordText_1 (by rw [c_1_1]; decide) (by rw [c_1_1]; decide) (by rw [c_1_1]; rfl) (by decide) ?_
    refine hv_ldcS (i := 1) (tx := "row") C0 (by decide) dX4_wordText_35 ?_
    exact hv_aret C0 w hr (by first | exact Or.inl ⟨_, rfl⟩ | exact Or.inr ⟨_, rfl⟩) hlk (⟨rfl, by rw [(nI_eq (b := 1) (by omega) (by omega)).mp c_1_1]⟩) dX4_wordText_37
  by_cases c_1_2 : (nI i) = 2
  · refine lv_tableIn (off := 37) (tgt := 38) C0.1 C0.2.1 dX4_wordText_1 (by rw [c_1_2]; decide) (by rw [c_1_2]; decide) (by rw [c_1_2]; rfl) (by decide) ?_
    refine hv_ldcS (i := 2) (tx := "add") C0 (by decide) dX4_wordText_38 ?_
    exact hv_aret C0 w hr (by first | exact Or.inl ⟨_, rfl⟩ | exact Or.inr ⟨_, rfl⟩) hlk (⟨rfl, by rw [(nI_eq (b := 2) (by omega) (by omega)).mp c_1_2]⟩) dX4_wordText_40
  by_cases c_1_3 : (nI i) = 3
  · refine lv_tableIn (off := 40) (tgt := 41) C0.1 C0.2.1 dX4_wordText_1 (by rw [c_1_3]; decide) (by rw [c_1_3]; decide) (by rw [c_1_3]; rfl) (by decide) ?_
    refine hv_ldcS (i := 3) (tx := "cut") C0 (by decide) dX4_wordText_41 ?_
    exact hv_aret C0 w hr (by first | exact Or.inl ⟨_, rfl⟩ | exact Or.inr ⟨_, rfl⟩) hlk (⟨rfl, by rw [(nI_eq (b := 3) (by omega) (by omega)).mp c_1_3]⟩) dX4_wordText_43
  have tc_1_0 : (nI i).toInt ≠ 0 := fun h9 => c_1_0 (Int32.toInt_inj.mp (h9.trans (by decide)))
  have tc_1_1 : (nI i).toInt ≠ 1 := fun h9 => c_1_1 (Int32.toInt_inj.mp (h9.trans (by decide)))
  have tc_1_2 : (nI i).toInt ≠ 2 := fun h9 => c_1_2 (Int32.toInt_inj.mp (h9.trans (by decide)))
  have tc_1_3 : (nI i).toInt ≠ 3 := fun h9 => c_1_3 (Int32.toInt_inj.mp (h9.trans (by decide)))
  refine lv_tableOut (tgt := 44) C0.1 C0.2.1 dX4_wordText_1 (by omega) (by decide) ?_
  refine hv_ldcS (i := 4) (tx := "copy") C0 (by decide) dX4_wordText_44 ?_
  exact hv_aret C0 w hr (by first | exact Or.inl ⟨_, rfl⟩ | exact Or.inr ⟨_, rfl⟩) hlk (⟨rfl, by rw [show i = 4 from by rcases (show i = 0 ∨ i = 1 ∨ i = 2 ∨ i = 3 ∨ i = 4 by omega) with rfl | rfl | rfl | rfl | rfl <;> first | rfl | exact absurd rfl c_1_0 | exact absurd rfl c_1_1 | exact absurd rfl c_1_2 | exact absurd rfl c_1_3]⟩) dX4_wordText_46

set_option maxHeartbeats 4000000 in
set_option maxRecDepth 100000 in
theorem c_X4_isDigit {l : Launch} {X : hv_X} {V : hv_V} {v : Int32} : hv_Mi l X 0 yX4_isDigit cX4_isDigit 1 .boolean V [.int v] (fun y V1 => V1 = V ∧ hv_B (48 ≤ v ∧ v ≤ 57) y) := by
  refine hv_enter (by decide) (Nat.le_of_ble_eq_true rfl) ?_
  intro p7 e s m below meth c7 ls C0 hr hlk hnm w hl
  have hl : lv_has ls 1 [(0, .int v)] := hl
  refine lv_iload_n C0.1 C0.2.1 dX4_isDigit_0 rfl (lv_at hl 0 rfl) ?_
  refine lv_bipush (v := 48) C0.1 C0.2.1 dX4_isDigit_1 (by decide) ?_
  refine lv_icmp_lt (tgt := 16) C0.1 C0.2.1 dX4_isDigit_3 (by decide) (fun c_3 => ?_) (fun c_3 => ?_)
  · skip
    refine lv_iconst (v := 0) C0.1 C0.2.1 dX4_isDigit_16 (by decide) ?_
    exact hv_zret C0 w hr hlk (by decide) (⟨rfl, Or.inr ⟨rfl, fun h9 => absurd c_3 (Int32.not_lt.mpr h9.1)⟩⟩) dX4_isDigit_17
  · skip
    refine lv_iload_n C0.1 C0.2.1 dX4_isDigit_6 rfl (lv_at hl 0 rfl) ?_
    refine lv_bipush (v := 57) C0.1 C0.2.1 dX4_isDigit_7 (by decide) ?_
    refine lv_icmp_gt (tgt := 16) C0.1 C0.2.1 dX4_isDigit_9 (by decide) (fun c_9 => ?_) (fun c_9 => ?_)
    · skip
      refine lv_iconst (v := 0) C0.1 C0.2.1 dX4_isDigit_16 (by decide) ?_
      exact hv_zret C0 w hr hlk (by decide) (⟨rfl, Or.inr ⟨rfl, fun h9 => absurd c_9 (Int32.not_lt.mpr h9.2)⟩⟩) dX4_isDigit_17
    · skip
      refine lv_iconst (v := 1) C0.1 C0.2.1 dX4_isDigit_12 (by decide) ?_
      refine lv_goto (tgt := 17) C0.1 C0.2.1 dX4_isDigit_13 (by decide) ?_
      exact hv_zret C0 w hr hlk (by decide) (⟨rfl, Or.inl ⟨rfl, Int32.not_lt.mp c_3, Int32.not_lt.mp c_9⟩⟩) dX4_isDigit_17

set_option maxHeartbeats 4000000 in
set_option maxRecDepth 100000 in
theorem c_X4_valuesDue {l : Launch} {X : hv_X} {V : hv_V} {w0 : Nat} (hw : w0 < 5) : hv_Mi l X 0 yX4_valuesDue cX4_valuesDue 1 .int V [.int (nI w0)] (fun y V1 => V1 = V ∧ y = nI (rd_due w0)) := by
  refine hv_enter (by decide) (Nat.le_of_ble_eq_true rfl) ?_
  intro p7 e s m below meth c7 ls C0 hr hlk hnm w hl
  have hl : lv_has ls 1 [(0, .int (nI w0))] := hl
  refine lv_iload_n C0.1 C0.2.1 dX4_valuesDue_0 rfl (lv_at hl 0 rfl) ?_
  refine lv_if_ne (tgt := 8) C0.1 C0.2.1 dX4_valuesDue_1 (by decide) (fun c_1 => ?_) (fun c_1 => ?_)
  · skip
    refine lv_iconst (v := 2) C0.1 C0.2.1 dX4_valuesDue_8 (by decide) ?_
    exact hv_iret C0 w hr hlk (⟨rfl, by rw [rd_due, if_neg (fun h9 => c_1 (by rw [h9]; rfl))]; rfl⟩) dX4_valuesDue_9
  · skip
    refine lv_iconst (v := 4) C0.1 C0.2.1 dX4_valuesDue_4 (by decide) ?_
    refine lv_goto (tgt := 9) C0.1 C0.2.1 dX4_valuesDue_5 (by decide) ?_
    exact hv_iret C0 w hr hlk (⟨rfl, by rw [rd_due, if_pos ((nI_eq (b := 0) (by omega) (by omega)).mp c_1)]; rfl⟩) dX4_valuesDue_9

set_option maxHeartbeats 4000000 in
set_option maxRecDepth 100000 in
theorem c_X4_signsAlike {l : Launch} {X : hv_X} {V : hv_V} {q n p : Nat} {cl : Int32} {f : Nat → Int32} (hO : V q = some (sE q n (nI p) cl)) (hT : V (q + 1) = some (bE X 100 f)) (hn : n ≤ 100) (hp : p ≤ n) {i : Nat} (hi6 : i < 6) : hv_Mi l X 4 yX4_signsAlike cX4_signsAlike 3 .int V [.ref q, .ref (X.2.2.2.1 i)] (fun y V1 => V1 = V ∧ y = nI (rd_a (n, f) p i)) := by
  refine hv_enter (by decide) (Nat.le_of_ble_eq_true rfl) ?_
  intro p7 e s m below meth c7 ls C0 hr hlk hnm w hl
  have hl : lv_has ls 3 [(0, .ref q), (1, .ref (X.2.2.2.1 i))] := hl
  have hl6 := hv_lens i hi6
  have loop : ∀ (m9 k9 : Nat) (Hq : Heap) (lq : List Loc) (ls : Array Slot), (k9 + m9 = hv_len.getD i 0) → (rd_al (n, f) i p m9 k9 = rd_a (n, f) p i) → hv_w X s (V) Hq lq → lv_has ls 3 [(0, .ref q), (1, .ref (X.2.2.2.1 i)), (2, .int (nI k9))] → W p7 l e (hv_rm 4 0 0) s m ([.ref q, .ref (X.2.2.2.1 i)] : List Value).toArray below meth c7 Hq lq 0 0 (MQ below (hv_Qi X (fun y V1 => V1 = V ∧ y = nI (rd_a (n, f) p i))) ([.ref q, .ref (X.2.2.2.1 i)] : List Value).toArray s 0 0 X.2.2.1) (F0 m 2 ls []) := by
    intro m9
    induction m9 with
    | zero =>
      intro k9 Hq lq ls hi he w hl
      refine lv_iload_n C0.1 C0.2.1 dX4_signsAlike_2 rfl (lv_at hl 2 rfl) ?_
      refine lv_aload_n C0.1 C0.2.1 dX4_signsAlike_3 rfl (lv_at hl 1 rfl) ?_
      refine hv_cTi (i := i) C0 w kl_X4_55 kv_J0_length_8abf5 rfl hi6 (c_J0_length hi6) (by decide) (by decide) rfl hl.1 rfl (Nat.le_of_ble_eq_true rfl) dX4_signsAlike_4 ⟨Nat.le_refl _, Nat.le_refl _⟩ (fun x1 V2 Hq lq hp3 w => ?_)
      obtain ⟨e9, e8⟩ := hp3
      rw [e9] at w; rw [e8]; clear e9 e8
      refine lv_icmp_ge (tgt := 48) C0.1 C0.2.1 dX4_signsAlike_7 (by decide) (fun c_7 => ?_) (fun c_7 => absurd (nI_le (by omega) (by omega)) c_7)
      refine lv_iload_n C0.1 C0.2.1 dX4_signsAlike_48 rfl (lv_at hl 2 rfl) ?_
      exact hv_iret C0 w hr hlk (⟨rfl, by rw [← he]; rfl⟩) dX4_signsAlike_49
    | succ m9 ih =>
      intro k9 Hq lq ls hi he w hl
      refine lv_iload_n C0.1 C0.2.1 dX4_signsAlike_2 rfl (lv_at hl 2 rfl) ?_
      refine lv_aload_n C0.1 C0.2.1 dX4_signsAlike_3 rfl (lv_at hl 1 rfl) ?_
      refine hv_cTi (i := i) C0 w kl_X4_55 kv_J0_length_8abf5 rfl hi6 (c_J0_length hi6) (by decide) (by decide) rfl hl.1 rfl (Nat.le_of_ble_eq_true rfl) dX4_signsAlike_4 ⟨Nat.le_refl _, Nat.le_refl _⟩ (fun x1 V2 Hq lq hp3 w => ?_)
      obtain ⟨e9, e8⟩ := hp3
      rw [e9] at w; rw [e8]; clear e9 e8
      refine lv_icmp_ge (tgt := 48) C0.1 C0.2.1 dX4_signsAlike_7 (by decide) (fun c_7 => absurd c_7 (nI_ge (by omega) (by omega))) (fun c_7 => ?_)
      refine lv_aload_n C0.1 C0.2.1 dX4_signsAlike_10 rfl (lv_at hl 0 rfl) ?_
      refine gf_X4_29 C0 w hO rfl dX4_signsAlike_11 ?_
      refine lv_iload_n C0.1 C0.2.1 dX4_signsAlike_14 rfl (lv_at hl 2 rfl) ?_
      refine lv_iadd C0.1 C0.2.1 dX4_signsAlike_15 ?_
      rw [nI_add p k9]
      refine lv_aload_n C0.1 C0.2.1 dX4_signsAlike_16 rfl (lv_at hl 0 rfl) ?_
      refine gf_X4_22 C0 w hO rfl dX4_signsAlike_17 ?_
      refine lv_icmp_ge (tgt := 48) C0.1 C0.2.1 dX4_signsAlike_20 (by decide) (fun c_20 => ?_) (fun c_20 => ?_)
      · skip
        refine lv_iload_n C0.1 C0.2.1 dX4_signsAlike_48 rfl (lv_at hl 2 rfl) ?_
        exact hv_iret C0 w hr hlk (⟨rfl, by rw [← he, rd_al, if_neg (fun h9 => absurd (show p + k9 < n from h9.1) (Nat.not_lt.mpr ((nI_leI (by omega) (by omega)).mp c_20)))]⟩) dX4_signsAlike_49
      · skip
        have hlt : p + k9 < n := (nI_ltI (by omega) (by omega)).mp (Int32.not_le.mp c_20)
        refine lv_aload_n C0.1 C0.2.1 dX4_signsAlike_23 rfl (lv_at hl 0 rfl) ?_
        refine gf_X4_9 C0 w hO rfl dX4_signsAlike_24 ?_
        refine lv_aload_n C0.1 C0.2.1 dX4_signsAlike_27 rfl (lv_at hl 0 rfl) ?_
        refine gf_X4_29 C0 w hO rfl dX4_signsAlike_28 ?_
        refine lv_iload_n C0.1 C0.2.1 dX4_signsAlike_31 rfl (lv_at hl 2 rfl) ?_
        refine lv_iadd C0.1 C0.2.1 dX4_signsAlike_32 ?_
        rw [nI_add p k9]
        refine hv_bald C0 w hT (hn_in (by omega) (by decide)) dX4_signsAlike_33 ?_
        have hc4 : (nI (p + k9)).toNatClampNeg = (p + k9) := nI_clamp (by omega)
        rw [hc4]
        refine lv_aload_n C0.1 C0.2.1 dX4_signsAlike_34 rfl (lv_at hl 1 rfl) ?_
        refine lv_iload_n C0.1 C0.2.1 dX4_signsAlike_35 rfl (lv_at hl 2 rfl) ?_
        refine hv_cTi (i := i) C0 w kl_X4_65 kv_J0_charAt_5068e rfl hi6 (c_J0_charAt hi6 (k := k9) (by omega)) (by decide) (by decide) rfl hl.1 rfl (Nat.le_of_ble_eq_true rfl) dX4_signsAlike_36 ⟨Nat.le_refl _, Nat.le_refl _⟩ (fun x5 V6 Hq lq hp7 w => ?_)
        obtain ⟨e9, e8⟩ := hp7
        rw [e9] at w; rw [e8]; clear e9 e8
        refine lv_icmp_ne (tgt := 48) C0.1 C0.2.1 dX4_signsAlike_39 (by decide) (fun c_39 => ?_) (fun c_39 => ?_)
        · skip
          refine lv_iload_n C0.1 C0.2.1 dX4_signsAlike_48 rfl (lv_at hl 2 rfl) ?_
          exact hv_iret C0 w hr hlk (⟨rfl, by rw [← he, rd_al, if_neg (fun h9 => c_39 h9.2)]⟩) dX4_signsAlike_49
        · skip
          refine lv_iinc (v := (nI k9) + 1) (lv' := [(2, .int ((nI k9) + 1)), (0, .ref q), (1, .ref (X.2.2.2.1 i))]) C0.1 C0.2.1 dX4_signsAlike_42 hl (k := 2) rfl rfl (by decide) rfl (fun ls hl => ?_)
          refine lv_goto (tgt := 2) C0.1 C0.2.1 dX4_signsAlike_45 (by decide) ?_
          exact ih (k9 + 1) _ _ ls (by omega) (by rw [← he, rd_al, if_pos ⟨hlt, c_39⟩]) w (by have h9 := (lv_sub (l' := [(0, .ref q), (1, .ref (X.2.2.2.1 i)), (2, .int (nI k9 + 1))]) hl [1, 2, 0] rfl); rw [nI_1] at h9; exact h9)
  refine lv_iconst (v := 0) C0.1 C0.2.1 dX4_signsAlike_0 (by decide) ?_
  refine lv_istore_n (lv' := [(2, .int 0), (0, .ref q), (1, .ref (X.2.2.2.1 i))]) C0.1 C0.2.1 dX4_signsAlike_1 rfl hl (by decide) rfl (fun ls hl => ?_)
  have hl : lv_has ls 3 [(2, .int (nI 0)), (0, .ref q), (1, .ref (X.2.2.2.1 i))] := by rw [show ((nI 0)) = (0) from rfl]; exact hl
  exact loop (hv_len.getD i 0) 0 _ _ ls (by omega) rfl w (lv_sub hl [1, 2, 0] rfl)

set_option maxHeartbeats 4000000 in
set_option maxRecDepth 100000 in
theorem c_X4_parseWord {l : Launch} {X : hv_X} {V : hv_V} {q n p : Nat} {cl : Int32} {f : Nat → Int32} (hO : V q = some (sE q n (nI p) cl)) (hT : V (q + 1) = some (bE X 100 f)) (hn : n ≤ 100) (hp : p ≤ n)  : hv_Mi l X 5 yX4_parseWord cX4_parseWord 5 .int V [.ref q] (fun y V1 => V1 = hv_up V q (sE q n (nI (p + (rd_w (n, f) p).2)) cl) ∧ y = if (rd_w (n, f) p).1 = 5 then -1 else nI (rd_w (n, f) p).1) := by
  refine hv_enter (by decide) (Nat.le_of_ble_eq_true rfl) ?_
  intro p7 e s m below meth c7 ls C0 hr hlk hnm w hl
  have hl : lv_has ls 5 [(0, .ref q)] := hl
  obtain ⟨⟨a0, a1, a2, a3, a4⟩, -⟩ := rd_five (n, f) p
  have hm1 := rd_mxe (rd_a (n, f) p 0) (rd_a (n, f) p 1)
  have hm2 := rd_mxe (rd_mx (rd_a (n, f) p 0) (rd_a (n, f) p 1)) (rd_a (n, f) p 2)
  have hm3 := rd_mxe (rd_mx (rd_mx (rd_a (n, f) p 0) (rd_a (n, f) p 1)) (rd_a (n, f) p 2)) (rd_a (n, f) p 3)
  have hm4 := rd_mxe (rd_mx (rd_mx (rd_mx (rd_a (n, f) p 0) (rd_a (n, f) p 1)) (rd_a (n, f) p 2)) (rd_a (n, f) p 3)) (rd_a (n, f) p 4)
  refine lv_iconst (v := 0) C0.1 C0.2.1 dX4_parseWord_0 (by decide) ?_
  refine lv_istore_n (lv' := [(1, .int 0), (0, .ref q)]) C0.1 C0.2.1 dX4_parseWord_1 rfl hl (by decide) rfl (fun ls hl => ?_)
  refine lv_iconst (v := 0) C0.1 C0.2.1 dX4_parseWord_2 (by decide) ?_
  refine lv_istore_n (lv' := [(2, .int 0), (1, .int 0), (0, .ref q)]) C0.1 C0.2.1 dX4_parseWord_3 rfl hl (by decide) rfl (fun ls hl => ?_)
  have hl : lv_has ls 5 [(2, .int 0), (1, .int (nI 0)), (0, .ref q)] := by rw [show ((nI 0)) = (0) from rfl]; exact hl
  refine lv_iload_n C0.1 C0.2.1 dX4_parseWord_4 rfl (lv_at hl 0 rfl) ?_
  refine lv_iconst (v := 5) C0.1 C0.2.1 dX4_parseWord_5 (by decide) ?_
  refine lv_icmp_ge (tgt := 56) C0.1 C0.2.1 dX4_parseWord_6 (by decide) (fun h9 => absurd h9 (by decide)) (fun _ => ?_)
  refine lv_iload_n C0.1 C0.2.1 dX4_parseWord_9 rfl (lv_at hl 0 rfl) ?_
  refine hv_cSr (As := [.int 0]) C0 w kl_X4_47 ks_X4_wordText (c_X4_wordText (i := 0) (by decide)) (by decide) (by decide) rfl hl.1 rfl (Nat.le_of_ble_eq_true rfl) dX4_parseWord_10 ⟨Nat.le_refl _, Nat.le_refl _⟩ (fun x1 V2 Hq lq hp3 w => ?_)
  obtain ⟨e9, e8⟩ := hp3
  rw [e9] at w; rw [e8]; clear e9 e8
  refine lv_astore_n (lv' := [(3, .ref (X.2.2.2.1 0)), (2, .int 0), (1, .int (nI 0)), (0, .ref q)]) C0.1 C0.2.1 dX4_parseWord_13 rfl hl (by decide) rfl (fun ls hl => ?_)
  refine lv_aload_n C0.1 C0.2.1 dX4_parseWord_14 rfl (lv_at hl 3 rfl) ?_
  refine lv_aload_n C0.1 C0.2.1 dX4_parseWord_15 rfl (lv_at hl 0 rfl) ?_
  refine hv_cVi C0 w kl_X4_51 kv_X4_signsAlike rfl hO (c_X4_signsAlike (i := 0) hO hT hn hp (by decide)) (by decide) (by decide) rfl hl.1 rfl (Nat.le_of_ble_eq_true rfl) dX4_parseWord_16 ⟨Nat.le_refl _, Nat.le_refl _⟩ (fun x4 V5 Hq lq hp6 w => ?_)
  obtain ⟨e9, e8⟩ := hp6
  rw [e9] at w; rw [e8]; clear e9 e8
  refine lv_istore (lv' := [(4, .int (nI (rd_a (n, f) p 0))), (3, .ref (X.2.2.2.1 0)), (2, .int 0), (1, .int (nI 0)), (0, .ref q)]) C0.1 C0.2.1 dX4_parseWord_19 hl (by decide) rfl (fun ls hl => ?_)
  refine lv_iload C0.1 C0.2.1 dX4_parseWord_21 (lv_at hl 0 rfl) ?_
  refine lv_aload_n C0.1 C0.2.1 dX4_parseWord_23 rfl (lv_at hl 1 rfl) ?_
  refine hv_cTi (i := 0) C0 w kl_X4_55 kv_J0_length_8abf5 rfl (by decide) (c_J0_length (by decide)) (by decide) (by decide) rfl hl.1 rfl (Nat.le_of_ble_eq_true rfl) dX4_parseWord_24 ⟨Nat.le_refl _, Nat.le_refl _⟩ (fun x7 V8 Hq lq hp9 w => ?_)
  obtain ⟨e9, e8⟩ := hp9
  rw [e9] at w; rw [e8]; clear e9 e8
  rw [show nI (hv_len.getD 0 0) = nI 6 from rfl]
  refine lv_icmp_ne (tgt := 43) C0.1 C0.2.1 dX4_parseWord_27 (by decide) (fun c_27 => ?_) (fun c_27 => ?_)
  · skip
    have f_0 : ¬ (rd_a (n, f) p 0) = 6 := fun h9 => c_27 (by rw [h9])
    refine lv_iload_n C0.1 C0.2.1 dX4_parseWord_43 rfl (lv_at hl 3 rfl) ?_
    refine lv_iload C0.1 C0.2.1 dX4_parseWord_44 (lv_at hl 0 rfl) ?_
    refine va_mmax C0.1 C0.2.1 (C0.2.2.1.trans hl.1.symm) C0.2.2.2.1 (C0.2.2.2.2.1 _ kj_X4_59) (C0.2.2.2.2.1 _ kj_max_s) (C0.2.2.2.2.1 _ kj_Math) (C0.2.2.2.2.1 _ kj_max_c) (by decide) (Nat.le_of_ble_eq_true rfl) (Nat.le_refl _) (Nat.le_refl _) dX4_parseWord_46 ?_
    rw [nI_mx (by omega) (by omega), rd_mx0]
    refine lv_istore_n (lv' := [(1, .int (nI (rd_a (n, f) p 0))), (4, .int (nI (rd_a (n, f) p 0))), (3, .ref (X.2.2.2.1 0)), (2, .int 0), (0, .ref q)]) C0.1 C0.2.1 dX4_parseWord_49 rfl hl (by decide) rfl (fun ls hl => ?_)
    refine lv_iinc (v := 0 + 1) (lv' := [(2, .int (0 + 1)), (1, .int (nI (rd_a (n, f) p 0))), (4, .int (nI (rd_a (n, f) p 0))), (3, .ref (X.2.2.2.1 0)), (0, .ref q)]) C0.1 C0.2.1 dX4_parseWord_50 hl (k := 3) rfl rfl (by decide) rfl (fun ls hl => ?_)
    have hl : lv_has ls 5 [(2, .int 1), (1, .int (nI (rd_a (n, f) p 0))), (4, .int (nI (rd_a (n, f) p 0))), (3, .ref (X.2.2.2.1 0)), (0, .ref q)] := by rw [show (1 : Int32) = 0 + 1 from by decide]; exact hl
    refine lv_goto (tgt := 4) C0.1 C0.2.1 dX4_parseWord_53 (by decide) ?_
    refine lv_iload_n C0.1 C0.2.1 dX4_parseWord_4 rfl (lv_at hl 0 rfl) ?_
    refine lv_iconst (v := 5) C0.1 C0.2.1 dX4_parseWord_5 (by decide) ?_
    refine lv_icmp_ge (tgt := 56) C0.1 C0.2.1 dX4_parseWord_6 (by decide) (fun h9 => absurd h9 (by decide)) (fun _ => ?_)
    refine lv_iload_n C0.1 C0.2.1 dX4_parseWord_9 rfl (lv_at hl 0 rfl) ?_
    refine hv_cSr (As := [.int 1]) C0 w kl_X4_47 ks_X4_wordText (c_X4_wordText (i := 1) (by decide)) (by decide) (by decide) rfl hl.1 rfl (Nat.le_of_ble_eq_true rfl) dX4_parseWord_10 ⟨Nat.le_refl _, Nat.le_refl _⟩ (fun x10 V11 Hq lq hp12 w => ?_)
    obtain ⟨e9, e8⟩ := hp12
    rw [e9] at w; rw [e8]; clear e9 e8
    refine lv_astore_n (lv' := [(3, .ref (X.2.2.2.1 1)), (2, .int 1), (1, .int (nI (rd_a (n, f) p 0))), (4, .int (nI (rd_a (n, f) p 0))), (0, .ref q)]) C0.1 C0.2.1 dX4_parseWord_13 rfl hl (by decide) rfl (fun ls hl => ?_)
    refine lv_aload_n C0.1 C0.2.1 dX4_parseWord_14 rfl (lv_at hl 4 rfl) ?_
    refine lv_aload_n C0.1 C0.2.1 dX4_parseWord_15 rfl (lv_at hl 0 rfl) ?_
    refine hv_cVi C0 w kl_X4_51 kv_X4_signsAlike rfl hO (c_X4_signsAlike (i := 1) hO hT hn hp (by decide)) (by decide) (by decide) rfl hl.1 rfl (Nat.le_of_ble_eq_true rfl) dX4_parseWord_16 ⟨Nat.le_refl _, Nat.le_refl _⟩ (fun x13 V14 Hq lq hp15 w => ?_)
    obtain ⟨e9, e8⟩ := hp15
    rw [e9] at w; rw [e8]; clear e9 e8
    refine lv_istore (lv' := [(4, .int (nI (rd_a (n, f) p 1))), (3, .ref (X.2.2.2.1 1)), (2, .int 1), (1, .int (nI (rd_a (n, f) p 0))), (0, .ref q)]) C0.1 C0.2.1 dX4_parseWord_19 hl (by decide) rfl (fun ls hl => ?_)
    refine lv_iload C0.1 C0.2.1 dX4_parseWord_21 (lv_at hl 0 rfl) ?_
    refine lv_aload_n C0.1 C0.2.1 dX4_parseWord_23 rfl (lv_at hl 1 rfl) ?_
    refine hv_cTi (i := 1) C0 w kl_X4_55 kv_J0_length_8abf5 rfl (by decide) (c_J0_length (by decide)) (by decide) (by decide) rfl hl.1 rfl (Nat.le_of_ble_eq_true rfl) dX4_parseWord_24 ⟨Nat.le_refl _, Nat.le_refl _⟩ (fun x16 V17 Hq lq hp18 w => ?_)
    obtain ⟨e9, e8⟩ := hp18
    rw [e9] at w; rw [e8]; clear e9 e8
    rw [show nI (hv_len.getD 1 0) = nI 3 from rfl]
    refine lv_icmp_ne (tgt := 43) C0.1 C0.2.1 dX4_parseWord_27 (by decide) (fun c_27b => ?_) (fun c_27b => ?_)
    · skip
      have f_1 : ¬ (rd_a (n, f) p 1) = 3 := fun h9 => c_27b (by rw [h9])
      refine lv_iload_n C0.1 C0.2.1 dX4_parseWord_43 rfl (lv_at hl 3 rfl) ?_
      refine lv_iload C0.1 C0.2.1 dX4_parseWord_44 (lv_at hl 0 rfl) ?_
      refine va_mmax C0.1 C0.2.1 (C0.2.2.1.trans hl.1.symm) C0.2.2.2.1 (C0.2.2.2.2.1 _ kj_X4_59) (C0.2.2.2.2.1 _ kj_max_s) (C0.2.2.2.2.1 _ kj_Math) (C0.2.2.2.2.1 _ kj_max_c) (by decide) (Nat.le_of_ble_eq_true rfl) (Nat.le_refl _) (Nat.le_refl _) dX4_parseWord_46 ?_
      rw [nI_mx (by omega) (by omega)]
      refine lv_istore_n (lv' := [(1, .int (nI (rd_mx (rd_a (n, f) p 0) (rd_a (n, f) p 1)))), (4, .int (nI (rd_a (n, f) p 1))), (3, .ref (X.2.2.2.1 1)), (2, .int 1), (0, .ref q)]) C0.1 C0.2.1 dX4_parseWord_49 rfl hl (by decide) rfl (fun ls hl => ?_)
      refine lv_iinc (v := 1 + 1) (lv' := [(2, .int (1 + 1)), (1, .int (nI (rd_mx (rd_a (n, f) p 0) (rd_a (n, f) p 1)))), (4, .int (nI (rd_a (n, f) p 1))), (3, .ref (X.2.2.2.1 1)), (0, .ref q)]) C0.1 C0.2.1 dX4_parseWord_50 hl (k := 3) rfl rfl (by decide) rfl (fun ls hl => ?_)
      have hl : lv_has ls 5 [(2, .int 2), (1, .int (nI (rd_mx (rd_a (n, f) p 0) (rd_a (n, f) p 1)))), (4, .int (nI (rd_a (n, f) p 1))), (3, .ref (X.2.2.2.1 1)), (0, .ref q)] := by rw [show (2 : Int32) = 1 + 1 from by decide]; exact hl
      refine lv_goto (tgt := 4) C0.1 C0.2.1 dX4_parseWord_53 (by decide) ?_
      refine lv_iload_n C0.1 C0.2.1 dX4_parseWord_4 rfl (lv_at hl 0 rfl) ?_
      refine lv_iconst (v := 5) C0.1 C0.2.1 dX4_parseWord_5 (by decide) ?_
      refine lv_icmp_ge (tgt := 56) C0.1 C0.2.1 dX4_parseWord_6 (by decide) (fun h9 => absurd h9 (by decide)) (fun _ => ?_)
      refine lv_iload_n C0.1 C0.2.1 dX4_parseWord_9 rfl (lv_at hl 0 rfl) ?_
      refine hv_cSr (As := [.int 2]) C0 w kl_X4_47 ks_X4_wordText (c_X4_wordText (i := 2) (by decide)) (by decide) (by decide) rfl hl.1 rfl (Nat.le_of_ble_eq_true rfl) dX4_parseWord_10 ⟨Nat.le_refl _, Nat.le_refl _⟩ (fun x19 V20 Hq lq hp21 w => ?_)
      obtain ⟨e9, e8⟩ := hp21
      rw [e9] at w; rw [e8]; clear e9 e8
      refine lv_astore_n (lv' := [(3, .ref (X.2.2.2.1 2)), (2, .int 2), (1, .int (nI (rd_mx (rd_a (n, f) p 0) (rd_a (n, f) p 1)))), (4, .int (nI (rd_a (n, f) p 1))), (0, .ref q)]) C0.1 C0.2.1 dX4_parseWord_13 rfl hl (by decide) rfl (fun ls hl => ?_)
      refine lv_aload_n C0.1 C0.2.1 dX4_parseWord_14 rfl (lv_at hl 4 rfl) ?_
      refine lv_aload_n C0.1 C0.2.1 dX4_parseWord_15 rfl (lv_at hl 0 rfl) ?_
      refine hv_cVi C0 w kl_X4_51 kv_X4_signsAlike rfl hO (c_X4_signsAlike (i := 2) hO hT hn hp (by decide)) (by decide) (by decide) rfl hl.1 rfl (Nat.le_of_ble_eq_true rfl) dX4_parseWord_16 ⟨Nat.le_refl _, Nat.le_refl _⟩ (fun x22 V23 Hq lq hp24 w => ?_)
      obtain ⟨e9, e8⟩ := hp24
      rw [e9] at w; rw [e8]; clear e9 e8
      refine lv_istore (lv' := [(4, .int (nI (rd_a (n, f) p 2))), (3, .ref (X.2.2.2.1 2)), (2, .int 2), (1, .int (nI (rd_mx (rd_a (n, f) p 0) (rd_a (n, f) p 1)))), (0, .ref q)]) C0.1 C0.2.1 dX4_parseWord_19 hl (by decide) rfl (fun ls hl => ?_)
      refine lv_iload C0.1 C0.2.1 dX4_parseWord_21 (lv_at hl 0 rfl) ?_
      refine lv_aload_n C0.1 C0.2.1 dX4_parseWord_23 rfl (lv_at hl 1 rfl) ?_
      refine hv_cTi (i := 2) C0 w kl_X4_55 kv_J0_length_8abf5 rfl (by decide) (c_J0_length (by decide)) (by decide) (by decide) rfl hl.1 rfl (Nat.le_of_ble_eq_true rfl) dX4_parseWord_24 ⟨Nat.le_refl _, Nat.le_refl _⟩ (fun x25 V26 Hq lq hp27 w => ?_)
      obtain ⟨e9, e8⟩ := hp27
      rw [e9] at w; rw [e8]; clear e9 e8
      rw [show nI (hv_len.getD 2 0) = nI 3 from rfl]
      refine lv_icmp_ne (tgt := 43) C0.1 C0.2.1 dX4_parseWord_27 (by decide) (fun c_27bb => ?_) (fun c_27bb => ?_)
      · skip
        have f_2 : ¬ (rd_a (n, f) p 2) = 3 := fun h9 => c_27bb (by rw [h9])
        refine lv_iload_n C0.1 C0.2.1 dX4_parseWord_43 rfl (lv_at hl 3 rfl) ?_
        refine lv_iload C0.1 C0.2.1 dX4_parseWord_44 (lv_at hl 0 rfl) ?_
        refine va_mmax C0.1 C0.2.1 (C0.2.2.1.trans hl.1.symm) C0.2.2.2.1 (C0.2.2.2.2.1 _ kj_X4_59) (C0.2.2.2.2.1 _ kj_max_s) (C0.2.2.2.2.1 _ kj_Math) (C0.2.2.2.2.1 _ kj_max_c) (by decide) (Nat.le_of_ble_eq_true rfl) (Nat.le_refl _) (Nat.le_refl _) dX4_parseWord_46 ?_
        rw [nI_mx (by omega) (by omega)]
        refine lv_istore_n (lv' := [(1, .int (nI (rd_mx (rd_mx (rd_a (n, f) p 0) (rd_a (n, f) p 1)) (rd_a (n, f) p 2)))), (4, .int (nI (rd_a (n, f) p 2))), (3, .ref (X.2.2.2.1 2)), (2, .int 2), (0, .ref q)]) C0.1 C0.2.1 dX4_parseWord_49 rfl hl (by decide) rfl (fun ls hl => ?_)
        refine lv_iinc (v := 2 + 1) (lv' := [(2, .int (2 + 1)), (1, .int (nI (rd_mx (rd_mx (rd_a (n, f) p 0) (rd_a (n, f) p 1)) (rd_a (n, f) p 2)))), (4, .int (nI (rd_a (n, f) p 2))), (3, .ref (X.2.2.2.1 2)), (0, .ref q)]) C0.1 C0.2.1 dX4_parseWord_50 hl (k := 3) rfl rfl (by decide) rfl (fun ls hl => ?_)
        have hl : lv_has ls 5 [(2, .int 3), (1, .int (nI (rd_mx (rd_mx (rd_a (n, f) p 0) (rd_a (n, f) p 1)) (rd_a (n, f) p 2)))), (4, .int (nI (rd_a (n, f) p 2))), (3, .ref (X.2.2.2.1 2)), (0, .ref q)] := by rw [show (3 : Int32) = 2 + 1 from by decide]; exact hl
        refine lv_goto (tgt := 4) C0.1 C0.2.1 dX4_parseWord_53 (by decide) ?_
        refine lv_iload_n C0.1 C0.2.1 dX4_parseWord_4 rfl (lv_at hl 0 rfl) ?_
        refine lv_iconst (v := 5) C0.1 C0.2.1 dX4_parseWord_5 (by decide) ?_
        refine lv_icmp_ge (tgt := 56) C0.1 C0.2.1 dX4_parseWord_6 (by decide) (fun h9 => absurd h9 (by decide)) (fun _ => ?_)
        refine lv_iload_n C0.1 C0.2.1 dX4_parseWord_9 rfl (lv_at hl 0 rfl) ?_
        refine hv_cSr (As := [.int 3]) C0 w kl_X4_47 ks_X4_wordText (c_X4_wordText (i := 3) (by decide)) (by decide) (by decide) rfl hl.1 rfl (Nat.le_of_ble_eq_true rfl) dX4_parseWord_10 ⟨Nat.le_refl _, Nat.le_refl _⟩ (fun x28 V29 Hq lq hp30 w => ?_)
        obtain ⟨e9, e8⟩ := hp30
        rw [e9] at w; rw [e8]; clear e9 e8
        refine lv_astore_n (lv' := [(3, .ref (X.2.2.2.1 3)), (2, .int 3), (1, .int (nI (rd_mx (rd_mx (rd_a (n, f) p 0) (rd_a (n, f) p 1)) (rd_a (n, f) p 2)))), (4, .int (nI (rd_a (n, f) p 2))), (0, .ref q)]) C0.1 C0.2.1 dX4_parseWord_13 rfl hl (by decide) rfl (fun ls hl => ?_)
        refine lv_aload_n C0.1 C0.2.1 dX4_parseWord_14 rfl (lv_at hl 4 rfl) ?_
        refine lv_aload_n C0.1 C0.2.1 dX4_parseWord_15 rfl (lv_at hl 0 rfl) ?_
        refine hv_cVi C0 w kl_X4_51 kv_X4_signsAlike rfl hO (c_X4_signsAlike (i := 3) hO hT hn hp (by decide)) (by decide) (by decide) rfl hl.1 rfl (Nat.le_of_ble_eq_true rfl) dX4_parseWord_16 ⟨Nat.le_refl _, Nat.le_refl _⟩ (fun x31 V32 Hq lq hp33 w => ?_)
        obtain ⟨e9, e8⟩ := hp33
        rw [e9] at w; rw [e8]; clear e9 e8
        refine lv_istore (lv' := [(4, .int (nI (rd_a (n, f) p 3))), (3, .ref (X.2.2.2.1 3)), (2, .int 3), (1, .int (nI (rd_mx (rd_mx (rd_a (n, f) p 0) (rd_a (n, f) p 1)) (rd_a (n, f) p 2)))), (0, .ref q)]) C0.1 C0.2.1 dX4_parseWord_19 hl (by decide) rfl (fun ls hl => ?_)
        refine lv_iload C0.1 C0.2.1 dX4_parseWord_21 (lv_at hl 0 rfl) ?_
        refine lv_aload_n C0.1 C0.2.1 dX4_parseWord_23 rfl (lv_at hl 1 rfl) ?_
        refine hv_cTi (i := 3) C0 w kl_X4_55 kv_J0_length_8abf5 rfl (by decide) (c_J0_length (by decide)) (by decide) (by decide) rfl hl.1 rfl (Nat.le_of_ble_eq_true rfl) dX4_parseWord_24 ⟨Nat.le_refl _, Nat.le_refl _⟩ (fun x34 V35 Hq lq hp36 w => ?_)
        obtain ⟨e9, e8⟩ := hp36
        rw [e9] at w; rw [e8]; clear e9 e8
        rw [show nI (hv_len.getD 3 0) = nI 3 from rfl]
        refine lv_icmp_ne (tgt := 43) C0.1 C0.2.1 dX4_parseWord_27 (by decide) (fun c_27bbb => ?_) (fun c_27bbb => ?_)
        · skip
          have f_3 : ¬ (rd_a (n, f) p 3) = 3 := fun h9 => c_27bbb (by rw [h9])
          refine lv_iload_n C0.1 C0.2.1 dX4_parseWord_43 rfl (lv_at hl 3 rfl) ?_
          refine lv_iload C0.1 C0.2.1 dX4_parseWord_44 (lv_at hl 0 rfl) ?_
          refine va_mmax C0.1 C0.2.1 (C0.2.2.1.trans hl.1.symm) C0.2.2.2.1 (C0.2.2.2.2.1 _ kj_X4_59) (C0.2.2.2.2.1 _ kj_max_s) (C0.2.2.2.2.1 _ kj_Math) (C0.2.2.2.2.1 _ kj_max_c) (by decide) (Nat.le_of_ble_eq_true rfl) (Nat.le_refl _) (Nat.le_refl _) dX4_parseWord_46 ?_
          rw [nI_mx (by omega) (by omega)]
          refine lv_istore_n (lv' := [(1, .int (nI (rd_mx (rd_mx (rd_mx (rd_a (n, f) p 0) (rd_a (n, f) p 1)) (rd_a (n, f) p 2)) (rd_a (n, f) p 3)))), (4, .int (nI (rd_a (n, f) p 3))), (3, .ref (X.2.2.2.1 3)), (2, .int 3), (0, .ref q)]) C0.1 C0.2.1 dX4_parseWord_49 rfl hl (by decide) rfl (fun ls hl => ?_)
          refine lv_iinc (v := 3 + 1) (lv' := [(2, .int (3 + 1)), (1, .int (nI (rd_mx (rd_mx (rd_mx (rd_a (n, f) p 0) (rd_a (n, f) p 1)) (rd_a (n, f) p 2)) (rd_a (n, f) p 3)))), (4, .int (nI (rd_a (n, f) p 3))), (3, .ref (X.2.2.2.1 3)), (0, .ref q)]) C0.1 C0.2.1 dX4_parseWord_50 hl (k := 3) rfl rfl (by decide) rfl (fun ls hl => ?_)
          have hl : lv_has ls 5 [(2, .int 4), (1, .int (nI (rd_mx (rd_mx (rd_mx (rd_a (n, f) p 0) (rd_a (n, f) p 1)) (rd_a (n, f) p 2)) (rd_a (n, f) p 3)))), (4, .int (nI (rd_a (n, f) p 3))), (3, .ref (X.2.2.2.1 3)), (0, .ref q)] := by rw [show (4 : Int32) = 3 + 1 from by decide]; exact hl
          refine lv_goto (tgt := 4) C0.1 C0.2.1 dX4_parseWord_53 (by decide) ?_
          refine lv_iload_n C0.1 C0.2.1 dX4_parseWord_4 rfl (lv_at hl 0 rfl) ?_
          refine lv_iconst (v := 5) C0.1 C0.2.1 dX4_parseWord_5 (by decide) ?_
          refine lv_icmp_ge (tgt := 56) C0.1 C0.2.1 dX4_parseWord_6 (by decide) (fun h9 => absurd h9 (by decide)) (fun _ => ?_)
          refine lv_iload_n C0.1 C0.2.1 dX4_parseWord_9 rfl (lv_at hl 0 rfl) ?_
          refine hv_cSr (As := [.int 4]) C0 w kl_X4_47 ks_X4_wordText (c_X4_wordText (i := 4) (by decide)) (by decide) (by decide) rfl hl.1 rfl (Nat.le_of_ble_eq_true rfl) dX4_parseWord_10 ⟨Nat.le_refl _, Nat.le_refl _⟩ (fun x37 V38 Hq lq hp39 w => ?_)
          obtain ⟨e9, e8⟩ := hp39
          rw [e9] at w; rw [e8]; clear e9 e8
          refine lv_astore_n (lv' := [(3, .ref (X.2.2.2.1 4)), (2, .int 4), (1, .int (nI (rd_mx (rd_mx (rd_mx (rd_a (n, f) p 0) (rd_a (n, f) p 1)) (rd_a (n, f) p 2)) (rd_a (n, f) p 3)))), (4, .int (nI (rd_a (n, f) p 3))), (0, .ref q)]) C0.1 C0.2.1 dX4_parseWord_13 rfl hl (by decide) rfl (fun ls hl => ?_)
          refine lv_aload_n C0.1 C0.2.1 dX4_parseWord_14 rfl (lv_at hl 4 rfl) ?_
          refine lv_aload_n C0.1 C0.2.1 dX4_parseWord_15 rfl (lv_at hl 0 rfl) ?_
          refine hv_cVi C0 w kl_X4_51 kv_X4_signsAlike rfl hO (c_X4_signsAlike (i := 4) hO hT hn hp (by decide)) (by decide) (by decide) rfl hl.1 rfl (Nat.le_of_ble_eq_true rfl) dX4_parseWord_16 ⟨Nat.le_refl _, Nat.le_refl _⟩ (fun x40 V41 Hq lq hp42 w => ?_)
          obtain ⟨e9, e8⟩ := hp42
          rw [e9] at w; rw [e8]; clear e9 e8
          refine lv_istore (lv' := [(4, .int (nI (rd_a (n, f) p 4))), (3, .ref (X.2.2.2.1 4)), (2, .int 4), (1, .int (nI (rd_mx (rd_mx (rd_mx (rd_a (n, f) p 0) (rd_a (n, f) p 1)) (rd_a (n, f) p 2)) (rd_a (n, f) p 3)))), (0, .ref q)]) C0.1 C0.2.1 dX4_parseWord_19 hl (by decide) rfl (fun ls hl => ?_)
          refine lv_iload C0.1 C0.2.1 dX4_parseWord_21 (lv_at hl 0 rfl) ?_
          refine lv_aload_n C0.1 C0.2.1 dX4_parseWord_23 rfl (lv_at hl 1 rfl) ?_
          refine hv_cTi (i := 4) C0 w kl_X4_55 kv_J0_length_8abf5 rfl (by decide) (c_J0_length (by decide)) (by decide) (by decide) rfl hl.1 rfl (Nat.le_of_ble_eq_true rfl) dX4_parseWord_24 ⟨Nat.le_refl _, Nat.le_refl _⟩ (fun x43 V44 Hq lq hp45 w => ?_)
          obtain ⟨e9, e8⟩ := hp45
          rw [e9] at w; rw [e8]; clear e9 e8
          rw [show nI (hv_len.getD 4 0) = nI 4 from rfl]
          refine lv_icmp_ne (tgt := 43) C0.1 C0.2.1 dX4_parseWord_27 (by decide) (fun c_27bbbb => ?_) (fun c_27bbbb => ?_)
          · skip
            have f_4 : ¬ (rd_a (n, f) p 4) = 4 := fun h9 => c_27bbbb (by rw [h9])
            refine lv_iload_n C0.1 C0.2.1 dX4_parseWord_43 rfl (lv_at hl 3 rfl) ?_
            refine lv_iload C0.1 C0.2.1 dX4_parseWord_44 (lv_at hl 0 rfl) ?_
            refine va_mmax C0.1 C0.2.1 (C0.2.2.1.trans hl.1.symm) C0.2.2.2.1 (C0.2.2.2.2.1 _ kj_X4_59) (C0.2.2.2.2.1 _ kj_max_s) (C0.2.2.2.2.1 _ kj_Math) (C0.2.2.2.2.1 _ kj_max_c) (by decide) (Nat.le_of_ble_eq_true rfl) (Nat.le_refl _) (Nat.le_refl _) dX4_parseWord_46 ?_
            rw [nI_mx (by omega) (by omega)]
            refine lv_istore_n (lv' := [(1, .int (nI (rd_mx (rd_mx (rd_mx (rd_mx (rd_a (n, f) p 0) (rd_a (n, f) p 1)) (rd_a (n, f) p 2)) (rd_a (n, f) p 3)) (rd_a (n, f) p 4)))), (4, .int (nI (rd_a (n, f) p 4))), (3, .ref (X.2.2.2.1 4)), (2, .int 4), (0, .ref q)]) C0.1 C0.2.1 dX4_parseWord_49 rfl hl (by decide) rfl (fun ls hl => ?_)
            refine lv_iinc (v := 4 + 1) (lv' := [(2, .int (4 + 1)), (1, .int (nI (rd_mx (rd_mx (rd_mx (rd_mx (rd_a (n, f) p 0) (rd_a (n, f) p 1)) (rd_a (n, f) p 2)) (rd_a (n, f) p 3)) (rd_a (n, f) p 4)))), (4, .int (nI (rd_a (n, f) p 4))), (3, .ref (X.2.2.2.1 4)), (0, .ref q)]) C0.1 C0.2.1 dX4_parseWord_50 hl (k := 3) rfl rfl (by decide) rfl (fun ls hl => ?_)
            have hl : lv_has ls 5 [(2, .int 5), (1, .int (nI (rd_mx (rd_mx (rd_mx (rd_mx (rd_a (n, f) p 0) (rd_a (n, f) p 1)) (rd_a (n, f) p 2)) (rd_a (n, f) p 3)) (rd_a (n, f) p 4)))), (4, .int (nI (rd_a (n, f) p 4))), (3, .ref (X.2.2.2.1 4)), (0, .ref q)] := by rw [show (5 : Int32) = 4 + 1 from by decide]; exact hl
            refine lv_goto (tgt := 4) C0.1 C0.2.1 dX4_parseWord_53 (by decide) ?_
            refine lv_iload_n C0.1 C0.2.1 dX4_parseWord_4 rfl (lv_at hl 0 rfl) ?_
            refine lv_iconst (v := 5) C0.1 C0.2.1 dX4_parseWord_5 (by decide) ?_
            refine lv_icmp_ge (tgt := 56) C0.1 C0.2.1 dX4_parseWord_6 (by decide) (fun _ => ?_) (fun h9 => absurd h9 (by decide))
            refine lv_aload_n C0.1 C0.2.1 dX4_parseWord_56 rfl (lv_at hl 4 rfl) ?_
            refine lv_dup C0.1 C0.2.1 dX4_parseWord_57 rfl ?_
            refine gf_X4_29 C0 w hO rfl dX4_parseWord_58 ?_
            refine lv_iload_n C0.1 C0.2.1 dX4_parseWord_61 rfl (lv_at hl 1 rfl) ?_
            refine lv_iadd C0.1 C0.2.1 dX4_parseWord_62 ?_
            rw [nI_add p]
            refine pf_X4_29 C0 w hO (by simp) dX4_parseWord_63 (fun Hq lq w => ?_)
            obtain ⟨V46, eV47⟩ : ∃ W9, W9 = hv_up V q (.inr (4, [.ref (q + 1), .int (nI n), .int (nI (p + (rd_mx (rd_mx (rd_mx (rd_mx (rd_a (n, f) p 0) (rd_a (n, f) p 1)) (rd_a (n, f) p 2)) (rd_a (n, f) p 3)) (rd_a (n, f) p 4)))), .int cl, .ref (q + 2), .ref (q + 3)])) := ⟨_, rfl⟩
            have w : hv_w X s V46 Hq lq := by rw [eV47]; exact w
            have hV49 : V46 (q + 1) = some (.inl (X.2.1 2, 100, .inl f)) := by rw [eV47, hv_un (by omega)]; exact hT
            have hV50 : V46 q = some (.inr (4, [.ref (q + 1), .int (nI n), .int (nI (p + (rd_mx (rd_mx (rd_mx (rd_mx (rd_a (n, f) p 0) (rd_a (n, f) p 1)) (rd_a (n, f) p 2)) (rd_a (n, f) p 3)) (rd_a (n, f) p 4)))), .int cl, .ref (q + 2), .ref (q + 3)])) := by rw [eV47]; exact hv_us
            refine lv_iconst (v := -1) C0.1 C0.2.1 dX4_parseWord_66 (by decide) ?_
            exact hv_iret C0 w hr hlk (⟨by rw [(show rd_w (n, f) p = (5, (rd_mx (rd_mx (rd_mx (rd_mx (rd_a (n, f) p 0) (rd_a (n, f) p 1)) (rd_a (n, f) p 2)) (rd_a (n, f) p 3)) (rd_a (n, f) p 4))) from by unfold rd_w; rw [if_neg f_0, if_neg f_1, if_neg f_2, if_neg f_3, if_neg f_4]), eV47], by rw [(show rd_w (n, f) p = (5, (rd_mx (rd_mx (rd_mx (rd_mx (rd_a (n, f) p 0) (rd_a (n, f) p 1)) (rd_a (n, f) p 2)) (rd_a (n, f) p 3)) (rd_a (n, f) p 4))) from by unfold rd_w; rw [if_neg f_0, if_neg f_1, if_neg f_2, if_neg f_3, if_neg f_4])]; rfl⟩) dX4_parseWord_67
          · skip
            have g9 : (rd_a (n, f) p 4) = 4 := (nI_eq (by omega) (by omega)).mp c_27bbbb
            refine lv_aload_n C0.1 C0.2.1 dX4_parseWord_30 rfl (lv_at hl 4 rfl) ?_
            refine lv_dup C0.1 C0.2.1 dX4_parseWord_31 rfl ?_
            refine gf_X4_29 C0 w hO rfl dX4_parseWord_32 ?_
            refine lv_iload C0.1 C0.2.1 dX4_parseWord_35 (lv_at hl 0 rfl) ?_
            refine lv_iadd C0.1 C0.2.1 dX4_parseWord_37 ?_
            rw [nI_add p]
            refine pf_X4_29 C0 w hO (by simp) dX4_parseWord_38 (fun Hq lq w => ?_)
            obtain ⟨V51, eV52⟩ : ∃ W9, W9 = hv_up V q (.inr (4, [.ref (q + 1), .int (nI n), .int (nI (p + (rd_a (n, f) p 4))), .int cl, .ref (q + 2), .ref (q + 3)])) := ⟨_, rfl⟩
            have w : hv_w X s V51 Hq lq := by rw [eV52]; exact w
            have hV54 : V51 (q + 1) = some (.inl (X.2.1 2, 100, .inl f)) := by rw [eV52, hv_un (by omega)]; exact hT
            have hV55 : V51 q = some (.inr (4, [.ref (q + 1), .int (nI n), .int (nI (p + (rd_a (n, f) p 4))), .int cl, .ref (q + 2), .ref (q + 3)])) := by rw [eV52]; exact hv_us
            refine lv_iload_n C0.1 C0.2.1 dX4_parseWord_41 rfl (lv_at hl 2 rfl) ?_
            exact hv_iret C0 w hr hlk (⟨by rw [(show rd_w (n, f) p = (4, 4) from by unfold rd_w; rw [if_neg f_0, if_neg f_1, if_neg f_2, if_neg f_3, if_pos g9]), eV52, g9], by rw [(show rd_w (n, f) p = (4, 4) from by unfold rd_w; rw [if_neg f_0, if_neg f_1, if_neg f_2, if_neg f_3, if_pos g9])]; rfl⟩) dX4_parseWord_42
        · skip
          have g9 : (rd_a (n, f) p 3) = 3 := (nI_eq (by omega) (by omega)).mp c_27bbb
          refine lv_aload_n C0.1 C0.2.1 dX4_parseWord_30 rfl (lv_at hl 4 rfl) ?_
          refine lv_dup C0.1 C0.2.1 dX4_parseWord_31 rfl ?_
          refine gf_X4_29 C0 w hO rfl dX4_parseWord_32 ?_
          refine lv_iload C0.1 C0.2.1 dX4_parseWord_35 (lv_at hl 0 rfl) ?_
          refine lv_iadd C0.1 C0.2.1 dX4_parseWord_37 ?_
          rw [nI_add p]
          refine pf_X4_29 C0 w hO (by simp) dX4_parseWord_38 (fun Hq lq w => ?_)
          obtain ⟨V56, eV57⟩ : ∃ W9, W9 = hv_up V q (.inr (4, [.ref (q + 1), .int (nI n), .int (nI (p + (rd_a (n, f) p 3))), .int cl, .ref (q + 2), .ref (q + 3)])) := ⟨_, rfl⟩
          have w : hv_w X s V56 Hq lq := by rw [eV57]; exact w
          have hV59 : V56 (q + 1) = some (.inl (X.2.1 2, 100, .inl f)) := by rw [eV57, hv_un (by omega)]; exact hT
          have hV60 : V56 q = some (.inr (4, [.ref (q + 1), .int (nI n), .int (nI (p + (rd_a (n, f) p 3))), .int cl, .ref (q + 2), .ref (q + 3)])) := by rw [eV57]; exact hv_us
          refine lv_iload_n C0.1 C0.2.1 dX4_parseWord_41 rfl (lv_at hl 2 rfl) ?_
          exact hv_iret C0 w hr hlk (⟨by rw [(show rd_w (n, f) p = (3, 3) from by unfold rd_w; rw [if_neg f_0, if_neg f_1, if_neg f_2, if_pos g9]), eV57, g9], by rw [(show rd_w (n, f) p = (3, 3) from by unfold rd_w; rw [if_neg f_0, if_neg f_1, if_neg f_2, if_pos g9])]; rfl⟩) dX4_parseWord_42
      · skip
        have g9 : (rd_a (n, f) p 2) = 3 := (nI_eq (by omega) (by omega)).mp c_27bb
        refine lv_aload_n C0.1 C0.2.1 dX4_parseWord_30 rfl (lv_at hl 4 rfl) ?_
        refine lv_dup C0.1 C0.2.1 dX4_parseWord_31 rfl ?_
        refine gf_X4_29 C0 w hO rfl dX4_parseWord_32 ?_
        refine lv_iload C0.1 C0.2.1 dX4_parseWord_35 (lv_at hl 0 rfl) ?_
        refine lv_iadd C0.1 C0.2.1 dX4_parseWord_37 ?_
        rw [nI_add p]
        refine pf_X4_29 C0 w hO (by simp) dX4_parseWord_38 (fun Hq lq w => ?_)
        obtain ⟨V61, eV62⟩ : ∃ W9, W9 = hv_up V q (.inr (4, [.ref (q + 1), .int (nI n), .int (nI (p + (rd_a (n, f) p 2))), .int cl, .ref (q + 2), .ref (q + 3)])) := ⟨_, rfl⟩
        have w : hv_w X s V61 Hq lq := by rw [eV62]; exact w
        have hV64 : V61 (q + 1) = some (.inl (X.2.1 2, 100, .inl f)) := by rw [eV62, hv_un (by omega)]; exact hT
        have hV65 : V61 q = some (.inr (4, [.ref (q + 1), .int (nI n), .int (nI (p + (rd_a (n, f) p 2))), .int cl, .ref (q + 2), .ref (q + 3)])) := by rw [eV62]; exact hv_us
        refine lv_iload_n C0.1 C0.2.1 dX4_parseWord_41 rfl (lv_at hl 2 rfl) ?_
        exact hv_iret C0 w hr hlk (⟨by rw [(show rd_w (n, f) p = (2, 3) from by unfold rd_w; rw [if_neg f_0, if_neg f_1, if_pos g9]), eV62, g9], by rw [(show rd_w (n, f) p = (2, 3) from by unfold rd_w; rw [if_neg f_0, if_neg f_1, if_pos g9])]; rfl⟩) dX4_parseWord_42
    · skip
      have g9 : (rd_a (n, f) p 1) = 3 := (nI_eq (by omega) (by omega)).mp c_27b
      refine lv_aload_n C0.1 C0.2.1 dX4_parseWord_30 rfl (lv_at hl 4 rfl) ?_
      refine lv_dup C0.1 C0.2.1 dX4_parseWord_31 rfl ?_
      refine gf_X4_29 C0 w hO rfl dX4_parseWord_32 ?_
      refine lv_iload C0.1 C0.2.1 dX4_parseWord_35 (lv_at hl 0 rfl) ?_
      refine lv_iadd C0.1 C0.2.1 dX4_parseWord_37 ?_
      rw [nI_add p]
      refine pf_X4_29 C0 w hO (by simp) dX4_parseWord_38 (fun Hq lq w => ?_)
      obtain ⟨V66, eV67⟩ : ∃ W9, W9 = hv_up V q (.inr (4, [.ref (q + 1), .int (nI n), .int (nI (p + (rd_a (n, f) p 1))), .int cl, .ref (q + 2), .ref (q + 3)])) := ⟨_, rfl⟩
      have w : hv_w X s V66 Hq lq := by rw [eV67]; exact w
      have hV69 : V66 (q + 1) = some (.inl (X.2.1 2, 100, .inl f)) := by rw [eV67, hv_un (by omega)]; exact hT
      have hV70 : V66 q = some (.inr (4, [.ref (q + 1), .int (nI n), .int (nI (p + (rd_a (n, f) p 1))), .int cl, .ref (q + 2), .ref (q + 3)])) := by rw [eV67]; exact hv_us
      refine lv_iload_n C0.1 C0.2.1 dX4_parseWord_41 rfl (lv_at hl 2 rfl) ?_
      exact hv_iret C0 w hr hlk (⟨by rw [(show rd_w (n, f) p = (1, 3) from by unfold rd_w; rw [if_neg f_0, if_pos g9]), eV67, g9], by rw [(show rd_w (n, f) p = (1, 3) from by unfold rd_w; rw [if_neg f_0, if_pos g9])]; rfl⟩) dX4_parseWord_42
  · skip
    have g9 : (rd_a (n, f) p 0) = 6 := (nI_eq (by omega) (by omega)).mp c_27
    refine lv_aload_n C0.1 C0.2.1 dX4_parseWord_30 rfl (lv_at hl 4 rfl) ?_
    refine lv_dup C0.1 C0.2.1 dX4_parseWord_31 rfl ?_
    refine gf_X4_29 C0 w hO rfl dX4_parseWord_32 ?_
    refine lv_iload C0.1 C0.2.1 dX4_parseWord_35 (lv_at hl 0 rfl) ?_
    refine lv_iadd C0.1 C0.2.1 dX4_parseWord_37 ?_
    rw [nI_add p]
    refine pf_X4_29 C0 w hO (by simp) dX4_parseWord_38 (fun Hq lq w => ?_)
    obtain ⟨V71, eV72⟩ : ∃ W9, W9 = hv_up V q (.inr (4, [.ref (q + 1), .int (nI n), .int (nI (p + (rd_a (n, f) p 0))), .int cl, .ref (q + 2), .ref (q + 3)])) := ⟨_, rfl⟩
    have w : hv_w X s V71 Hq lq := by rw [eV72]; exact w
    have hV74 : V71 (q + 1) = some (.inl (X.2.1 2, 100, .inl f)) := by rw [eV72, hv_un (by omega)]; exact hT
    have hV75 : V71 q = some (.inr (4, [.ref (q + 1), .int (nI n), .int (nI (p + (rd_a (n, f) p 0))), .int cl, .ref (q + 2), .ref (q + 3)])) := by rw [eV72]; exact hv_us
    refine lv_iload_n C0.1 C0.2.1 dX4_parseWord_41 rfl (lv_at hl 2 rfl) ?_
    exact hv_iret C0 w hr hlk (⟨by rw [(show rd_w (n, f) p = (0, 6) from by unfold rd_w; rw [if_pos g9]), eV72, g9], by rw [(show rd_w (n, f) p = (0, 6) from by unfold rd_w; rw [if_pos g9])]; rfl⟩) dX4_parseWord_42

theorem rd_k0 {p p9 k9 : Nat} (h : p9 = p + 1 + k9 ∧ k9 < 100) (h1 : p + 1 < p9) (h2 : nI k9 ≤ 0) : False := nI_nle (n := k9) (by omega) (by omega) h2
theorem rd_k1 {p p9 k9 : Nat} (h : p9 = p + 1 + k9 ∧ k9 < 100) (h2 : ¬ nI k9 ≤ 0) : p + 1 < p9 := by
  rcases Nat.eq_zero_or_pos k9 with q9 | q9
  · exact absurd (show nI k9 ≤ 0 by rw [q9]; decide) h2
  · omega
set_option maxHeartbeats 4000000 in
set_option maxRecDepth 100000 in
theorem c_X4_parseValue {l : Launch} {X : hv_X} {V : hv_V} {q n p : Nat} {cl : Int32} {f : Nat → Int32} (hO : V q = some (sE q n (nI p) cl)) (hT : V (q + 1) = some (bE X 100 f)) (hn : n ≤ 100) (hp : p ≤ n)  : hv_Mi l X 1 yX4_parseValue cX4_parseValue 3 .int V [.ref q] (fun y V1 => V1 = hv_up V q (sE q n (nI (rd_e (n, f) p)) cl) ∧ y = if rd_ok (n, f) p then nI (rd_n (n, f) p) else -1) := by
  refine hv_enter (by decide) (Nat.le_of_ble_eq_true rfl) ?_
  intro p7 e s m below meth c7 ls C0 hr hlk hnm w hl
  have hl : lv_has ls 3 [(0, .ref q)] := hl
  have loop : ∀ (hsp : rd_sp (n, f) p) (m9 k9 p9 v9 : Nat) (Hq : Heap) (lq : List Loc) (ls : Array Slot), (k9 + m9 = 9) → (p9 = p + 1 + k9) → (p9 ≤ n) → (rd_d (n, f) m9 p9 v9 = rd_d (n, f) 9 (p + 1) 0) → hv_w X s (hv_up V q (sE q n (nI p9) cl)) Hq lq → lv_has ls 3 [(0, .ref q), (1, .int (nI v9)), (2, .int (nI k9))] → W p7 l e (hv_rm 1 0 0) s m ([.ref q] : List Value).toArray below meth c7 Hq lq 0 0 (MQ below (hv_Qi X (fun y V1 => V1 = hv_up V q (sE q n (nI (rd_e (n, f) p)) cl) ∧ y = if rd_ok (n, f) p then nI (rd_n (n, f) p) else -1)) ([.ref q] : List Value).toArray s 0 0 X.2.2.1) (F0 m 41 ls []) := by
    intro hsp m9
    induction m9 with
    | zero =>
      intro k9 p9 v9 Hq lq ls hi hpe hpn he w hl
      have hpk : p9 = p + 1 + k9 ∧ k9 < 100 := ⟨hpe, by omega⟩
      obtain ⟨V8, e8⟩ : ∃ W9, W9 = hv_up V q (sE q n (nI p9) cl) := ⟨_, rfl⟩
      rw [← e8] at w
      have q0 : V8 q = some (.inr (4, [.ref (q + 1), .int (nI n), .int (nI p9), .int cl, .ref (q + 2), .ref (q + 3)])) := by rw [e8]; exact hv_us
      have q1 : V8 (q + 1) = some (.inl (X.2.1 2, 100, .inl f)) := by rw [e8, hv_un (by omega)]; exact hT
      refine lv_iload_n C0.1 C0.2.1 dX4_parseValue_41 rfl (lv_at hl 2 rfl) ?_
      refine lv_bipush (v := 9) C0.1 C0.2.1 dX4_parseValue_42 (by decide) ?_
      refine lv_icmp_ge (tgt := 107) C0.1 C0.2.1 dX4_parseValue_44 (by decide) (fun c_44 => ?_) (fun c_44 => absurd (show nI 9 ≤ nI k9 from nI_le (by omega) (by omega)) c_44)
      have hx9 : rd_d (n, f) 9 (p + 1) 0 = (p9, v9) := he.symm
      refine lv_iload_n C0.1 C0.2.1 dX4_parseValue_107 rfl (lv_at hl 2 rfl) ?_
      refine lv_if_le (tgt := 115) C0.1 C0.2.1 dX4_parseValue_108 (by decide) (fun c_108 => ?_) (fun c_108 => ?_)
      · skip
        refine lv_iconst (v := -1) C0.1 C0.2.1 dX4_parseValue_115 (by decide) ?_
        exact hv_iret C0 w hr hlk (⟨by rw [e8, rd_e, if_pos hsp, hx9], by rw [if_neg (fun h9 => by have h8 := h9.2; rw [hx9] at h8; exact rd_k0 hpk h8 c_108)]⟩) dX4_parseValue_116
      · skip
        refine lv_iload_n C0.1 C0.2.1 dX4_parseValue_111 rfl (lv_at hl 1 rfl) ?_
        refine lv_goto (tgt := 116) C0.1 C0.2.1 dX4_parseValue_112 (by decide) ?_
        exact hv_iret C0 w hr hlk (⟨by rw [e8, rd_e, if_pos hsp, hx9], by rw [if_pos ⟨hsp, by rw [hx9]; exact rd_k1 hpk c_108⟩, rd_n, hx9]⟩) dX4_parseValue_116
    | succ m9 ih =>
      intro k9 p9 v9 Hq lq ls hi hpe hpn he w hl
      have hpk : p9 = p + 1 + k9 ∧ k9 < 100 := ⟨hpe, by omega⟩
      obtain ⟨V8, e8⟩ : ∃ W9, W9 = hv_up V q (sE q n (nI p9) cl) := ⟨_, rfl⟩
      rw [← e8] at w
      have q0 : V8 q = some (.inr (4, [.ref (q + 1), .int (nI n), .int (nI p9), .int cl, .ref (q + 2), .ref (q + 3)])) := by rw [e8]; exact hv_us
      have q1 : V8 (q + 1) = some (.inl (X.2.1 2, 100, .inl f)) := by rw [e8, hv_un (by omega)]; exact hT
      refine lv_iload_n C0.1 C0.2.1 dX4_parseValue_41 rfl (lv_at hl 2 rfl) ?_
      refine lv_bipush (v := 9) C0.1 C0.2.1 dX4_parseValue_42 (by decide) ?_
      refine lv_icmp_ge (tgt := 107) C0.1 C0.2.1 dX4_parseValue_44 (by decide) (fun c_44 => absurd c_44 (show ¬ nI 9 ≤ nI k9 from nI_ge (by omega) (by omega))) (fun c_44 => ?_)
      refine lv_aload_n C0.1 C0.2.1 dX4_parseValue_47 rfl (lv_at hl 0 rfl) ?_
      refine gf_X4_29 C0 w q0 rfl dX4_parseValue_48 ?_
      refine lv_aload_n C0.1 C0.2.1 dX4_parseValue_51 rfl (lv_at hl 0 rfl) ?_
      refine gf_X4_22 C0 w q0 rfl dX4_parseValue_52 ?_
      refine lv_icmp_ge (tgt := 107) C0.1 C0.2.1 dX4_parseValue_55 (by decide) (fun c_55 => ?_) (fun c_55 => ?_)
      · skip
        have hx9 : rd_d (n, f) 9 (p + 1) 0 = (p9, v9) := by rw [← he, rd_d, if_neg (fun h9 => absurd (show p9 < n from h9.1) (Nat.not_lt.mpr ((nI_leI (by omega) (by omega)).mp c_55)))]
        refine lv_iload_n C0.1 C0.2.1 dX4_parseValue_107 rfl (lv_at hl 2 rfl) ?_
        refine lv_if_le (tgt := 115) C0.1 C0.2.1 dX4_parseValue_108 (by decide) (fun c_108 => ?_) (fun c_108 => ?_)
        · skip
          refine lv_iconst (v := -1) C0.1 C0.2.1 dX4_parseValue_115 (by decide) ?_
          exact hv_iret C0 w hr hlk (⟨by rw [e8, rd_e, if_pos hsp, hx9], by rw [if_neg (fun h9 => by have h8 := h9.2; rw [hx9] at h8; exact rd_k0 hpk h8 c_108)]⟩) dX4_parseValue_116
        · skip
          refine lv_iload_n C0.1 C0.2.1 dX4_parseValue_111 rfl (lv_at hl 1 rfl) ?_
          refine lv_goto (tgt := 116) C0.1 C0.2.1 dX4_parseValue_112 (by decide) ?_
          exact hv_iret C0 w hr hlk (⟨by rw [e8, rd_e, if_pos hsp, hx9], by rw [if_pos ⟨hsp, by rw [hx9]; exact rd_k1 hpk c_108⟩, rd_n, hx9]⟩) dX4_parseValue_116
      · skip
        have hlt : p9 < n := (nI_ltI (by omega) (by omega)).mp (Int32.not_le.mp c_55)
        refine lv_aload_n C0.1 C0.2.1 dX4_parseValue_58 rfl (lv_at hl 0 rfl) ?_
        refine gf_X4_9 C0 w q0 rfl dX4_parseValue_59 ?_
        refine lv_aload_n C0.1 C0.2.1 dX4_parseValue_62 rfl (lv_at hl 0 rfl) ?_
        refine gf_X4_29 C0 w q0 rfl dX4_parseValue_63 ?_
        refine hv_bald C0 w q1 (hn_in (by omega) (by decide)) dX4_parseValue_66 ?_
        have hc1 : (nI p9).toNatClampNeg = p9 := nI_clamp (by omega)
        rw [hc1]
        refine hv_cSi (As := [.int (f p9)]) C0 w kl_X4_69 ks_X4_isDigit (c_X4_isDigit) (by decide) (by decide) rfl hl.1 rfl (Nat.le_of_ble_eq_true rfl) dX4_parseValue_67 ⟨Nat.le_refl _, Nat.le_refl _⟩ (fun x2 V3 Hq lq hp4 w => ?_)
        obtain ⟨e9, hz9⟩ := hp4
        rw [e9] at w; clear e9
        rcases hz9 with ⟨rfl, hb5⟩ | ⟨rfl, hb5⟩
        · skip
          refine lv_if_eq (tgt := 107) C0.1 C0.2.1 dX4_parseValue_70 (by decide) (fun h9 => absurd h9 (by decide)) (fun _ => ?_)
          refine lv_iload_n C0.1 C0.2.1 dX4_parseValue_73 rfl (lv_at hl 1 rfl) ?_
          refine lv_bipush (v := 10) C0.1 C0.2.1 dX4_parseValue_74 (by decide) ?_
          refine lv_imul C0.1 C0.2.1 dX4_parseValue_76 ?_
          refine lv_aload_n C0.1 C0.2.1 dX4_parseValue_77 rfl (lv_at hl 0 rfl) ?_
          refine gf_X4_9 C0 w q0 rfl dX4_parseValue_78 ?_
          refine lv_aload_n C0.1 C0.2.1 dX4_parseValue_81 rfl (lv_at hl 0 rfl) ?_
          refine gf_X4_29 C0 w q0 rfl dX4_parseValue_82 ?_
          refine hv_bald C0 w q1 (hn_in (by omega) (by decide)) dX4_parseValue_85 ?_
          have hc6 : (nI p9).toNatClampNeg = p9 := nI_clamp (by omega)
          rw [hc6]
          refine lv_bipush (v := 48) C0.1 C0.2.1 dX4_parseValue_86 (by decide) ?_
          refine lv_isub C0.1 C0.2.1 dX4_parseValue_88 ?_
          refine lv_iadd C0.1 C0.2.1 dX4_parseValue_89 ?_
          rw [rd_st1 hb5]
          refine lv_istore_n (lv' := [(1, .int (nI (v9 * 10 + ((f p9).toNatClampNeg - 48)))), (0, .ref q), (2, .int (nI k9))]) C0.1 C0.2.1 dX4_parseValue_90 rfl hl (by decide) rfl (fun ls hl => ?_)
          refine lv_iinc (v := (nI k9) + 1) (lv' := [(2, .int ((nI k9) + 1)), (1, .int (nI (v9 * 10 + ((f p9).toNatClampNeg - 48)))), (0, .ref q)]) C0.1 C0.2.1 dX4_parseValue_91 hl (k := 2) rfl rfl (by decide) rfl (fun ls hl => ?_)
          refine lv_aload_n C0.1 C0.2.1 dX4_parseValue_94 rfl (lv_at hl 2 rfl) ?_
          refine lv_dup C0.1 C0.2.1 dX4_parseValue_95 rfl ?_
          refine gf_X4_29 C0 w q0 rfl dX4_parseValue_96 ?_
          refine lv_iconst (v := 1) C0.1 C0.2.1 dX4_parseValue_99 (by decide) ?_
          refine lv_iadd C0.1 C0.2.1 dX4_parseValue_100 ?_
          rw [nI_1 p9]
          refine pf_X4_29 C0 w q0 (by simp) dX4_parseValue_101 (fun Hq lq w => ?_)
          obtain ⟨V7, eV8⟩ : ∃ W9, W9 = hv_up V8 q (.inr (4, [.ref (q + 1), .int (nI n), .int (nI (p9 + 1)), .int cl, .ref (q + 2), .ref (q + 3)])) := ⟨_, rfl⟩
          have w : hv_w X s V7 Hq lq := by rw [eV8]; exact w
          have hV10 : V7 (q + 1) = some (.inl (X.2.1 2, 100, .inl f)) := by rw [eV8, hv_un (by omega)]; exact q1
          have hV11 : V7 q = some (.inr (4, [.ref (q + 1), .int (nI n), .int (nI (p9 + 1)), .int cl, .ref (q + 2), .ref (q + 3)])) := by rw [eV8]; exact hv_us
          refine lv_goto (tgt := 41) C0.1 C0.2.1 dX4_parseValue_104 (by decide) ?_
          exact ih (k9 + 1) (p9 + 1) (v9 * 10 + ((f p9).toNatClampNeg - 48)) _ _ ls (by omega) (by omega) (by omega) (by rw [← he, rd_d, if_pos ⟨hlt, hb5⟩]) (by rw [eV8, e8, hv_uu] at w; exact w) (by have h9 := (lv_sub (l' := [(0, .ref q), (1, .int (nI (v9 * 10 + ((f p9).toNatClampNeg - 48)))), (2, .int (nI k9 + 1))]) hl [2, 1, 0] rfl); rw [nI_1] at h9; exact h9)
        · skip
          refine lv_if_eq (tgt := 107) C0.1 C0.2.1 dX4_parseValue_70 (by decide) (fun _ => ?_) (fun h9 => absurd h9 (by decide))
          have hx9 : rd_d (n, f) 9 (p + 1) 0 = (p9, v9) := by rw [← he, rd_d, if_neg (fun h9 => hb5 h9.2)]
          refine lv_iload_n C0.1 C0.2.1 dX4_parseValue_107 rfl (lv_at hl 2 rfl) ?_
          refine lv_if_le (tgt := 115) C0.1 C0.2.1 dX4_parseValue_108 (by decide) (fun c_108 => ?_) (fun c_108 => ?_)
          · skip
            refine lv_iconst (v := -1) C0.1 C0.2.1 dX4_parseValue_115 (by decide) ?_
            exact hv_iret C0 w hr hlk (⟨by rw [e8, rd_e, if_pos hsp, hx9], by rw [if_neg (fun h9 => by have h8 := h9.2; rw [hx9] at h8; exact rd_k0 hpk h8 c_108)]⟩) dX4_parseValue_116
          · skip
            refine lv_iload_n C0.1 C0.2.1 dX4_parseValue_111 rfl (lv_at hl 1 rfl) ?_
            refine lv_goto (tgt := 116) C0.1 C0.2.1 dX4_parseValue_112 (by decide) ?_
            exact hv_iret C0 w hr hlk (⟨by rw [e8, rd_e, if_pos hsp, hx9], by rw [if_pos ⟨hsp, by rw [hx9]; exact rd_k1 hpk c_108⟩, rd_n, hx9]⟩) dX4_parseValue_116
  refine lv_aload_n C0.1 C0.2.1 dX4_parseValue_0 rfl (lv_at hl 0 rfl) ?_
  refine gf_X4_29 C0 w hO rfl dX4_parseValue_1 ?_
  refine lv_aload_n C0.1 C0.2.1 dX4_parseValue_4 rfl (lv_at hl 0 rfl) ?_
  refine gf_X4_22 C0 w hO rfl dX4_parseValue_5 ?_
  refine lv_icmp_ge (tgt := 25) C0.1 C0.2.1 dX4_parseValue_8 (by decide) (fun c_8 => ?_) (fun c_8 => ?_)
  · skip
    refine lv_iconst (v := -1) C0.1 C0.2.1 dX4_parseValue_25 (by decide) ?_
    exact hv_iret C0 w hr hlk (⟨by rw [rd_e, if_neg (fun h9 => absurd (show p < n from h9.1) (Nat.not_lt.mpr ((nI_leI (by omega) (by omega)).mp c_8)))]; exact (hv_id hO).symm, by rw [if_neg (fun h8 => (fun h9 => absurd (show p < n from h9.1) (Nat.not_lt.mpr ((nI_leI (by omega) (by omega)).mp c_8))) h8.1)]⟩) dX4_parseValue_26
  · skip
    have hlt : p < n := (nI_ltI (by omega) (by omega)).mp (Int32.not_le.mp c_8)
    refine lv_aload_n C0.1 C0.2.1 dX4_parseValue_11 rfl (lv_at hl 0 rfl) ?_
    refine gf_X4_9 C0 w hO rfl dX4_parseValue_12 ?_
    refine lv_aload_n C0.1 C0.2.1 dX4_parseValue_15 rfl (lv_at hl 0 rfl) ?_
    refine gf_X4_29 C0 w hO rfl dX4_parseValue_16 ?_
    refine hv_bald C0 w hT (hn_in (by omega) (by decide)) dX4_parseValue_19 ?_
    have hc1 : (nI p).toNatClampNeg = p := nI_clamp (by omega)
    rw [hc1]
    refine lv_bipush (v := 32) C0.1 C0.2.1 dX4_parseValue_20 (by decide) ?_
    refine lv_icmp_eq (tgt := 27) C0.1 C0.2.1 dX4_parseValue_22 (by decide) (fun c_22 => ?_) (fun c_22 => ?_)
    · skip
      refine lv_aload_n C0.1 C0.2.1 dX4_parseValue_27 rfl (lv_at hl 0 rfl) ?_
      refine lv_dup C0.1 C0.2.1 dX4_parseValue_28 rfl ?_
      refine gf_X4_29 C0 w hO rfl dX4_parseValue_29 ?_
      refine lv_iconst (v := 1) C0.1 C0.2.1 dX4_parseValue_32 (by decide) ?_
      refine lv_iadd C0.1 C0.2.1 dX4_parseValue_33 ?_
      rw [nI_1 p]
      refine pf_X4_29 C0 w hO (by simp) dX4_parseValue_34 (fun Hq lq w => ?_)
      obtain ⟨V2, eV3⟩ : ∃ W9, W9 = hv_up V q (.inr (4, [.ref (q + 1), .int (nI n), .int (nI (p + 1)), .int cl, .ref (q + 2), .ref (q + 3)])) := ⟨_, rfl⟩
      have w : hv_w X s V2 Hq lq := by rw [eV3]; exact w
      have hV5 : V2 (q + 1) = some (.inl (X.2.1 2, 100, .inl f)) := by rw [eV3, hv_un (by omega)]; exact hT
      have hV6 : V2 q = some (.inr (4, [.ref (q + 1), .int (nI n), .int (nI (p + 1)), .int cl, .ref (q + 2), .ref (q + 3)])) := by rw [eV3]; exact hv_us
      refine lv_iconst (v := 0) C0.1 C0.2.1 dX4_parseValue_37 (by decide) ?_
      refine lv_istore_n (lv' := [(1, .int 0), (0, .ref q)]) C0.1 C0.2.1 dX4_parseValue_38 rfl hl (by decide) rfl (fun ls hl => ?_)
      refine lv_iconst (v := 0) C0.1 C0.2.1 dX4_parseValue_39 (by decide) ?_
      refine lv_istore_n (lv' := [(2, .int 0), (1, .int 0), (0, .ref q)]) C0.1 C0.2.1 dX4_parseValue_40 rfl hl (by decide) rfl (fun ls hl => ?_)
      have hl : lv_has ls 3 [(2, .int 0), (1, .int (nI 0)), (0, .ref q)] := by rw [show ((nI 0)) = (0) from rfl]; exact hl
      have hl : lv_has ls 3 [(2, .int (nI 0)), (1, .int (nI 0)), (0, .ref q)] := by rw [show ((nI 0)) = (0) from rfl]; exact hl
      exact loop ⟨hlt, c_22⟩ 9 0 (p + 1) 0 _ _ ls (by omega) (by omega) (by omega) rfl (by rw [eV3] at w; exact w) (lv_sub hl [2, 1, 0] rfl)
    · skip
      refine lv_iconst (v := -1) C0.1 C0.2.1 dX4_parseValue_25 (by decide) ?_
      exact hv_iret C0 w hr hlk (⟨by rw [rd_e, if_neg (fun h9 => c_22 h9.2)]; exact (hv_id hO).symm, by rw [if_neg (fun h8 => (fun h9 => c_22 h9.2) h8.1)]⟩) dX4_parseValue_26

theorem rd_p3 {V : hv_V} {a b c : Nat} {e1 e2 e3 g1 : va_E} (hab : a ≠ b) (hac : a ≠ c) : hv_up (hv_up (hv_up (hv_up V a e1) b e2) c e3) a g1 = hv_up (hv_up (hv_up V a g1) b e2) c e3 := by
  rw [hv_uc (a := c) (b := a) (Ne.symm hac), hv_uc (a := b) (b := a) (Ne.symm hab), hv_uu]
theorem rd_p4 {V : hv_V} {a b c : Nat} {e1 e2 e3 g1 g3 : va_E} (hab : a ≠ b) (hac : a ≠ c) : hv_up (hv_up (hv_up (hv_up (hv_up V a e1) b e2) c e3) a g1) c g3 = hv_up (hv_up (hv_up V a g1) b e2) c g3 := by
  rw [rd_p3 hab hac, hv_uu]
theorem rd_upv {c k9 : Nat} {vl9 : Nat → Int32} {g : Nat → Nat} (h : ∀ k, k < k9 → vl9 (4 * c + k) = nI (g k)) : ∀ k, k < k9 + 1 → upd vl9 (4 * c + k9) (nI (g k9)) (4 * c + k) = nI (g k) := fun k hk => by
  by_cases q : k = k9
  · subst q; exact if_pos rfl
  · rw [show upd vl9 (4 * c + k9) (nI (g k9)) (4 * c + k) = vl9 (4 * c + k) from if_neg (by omega)]; exact h k (by omega)
set_option maxHeartbeats 4000000 in
set_option maxRecDepth 100000 in
theorem c_X4_parseClause {l : Launch} {X : hv_X} {V : hv_V} {q n p : Nat} {cl : Int32} {f : Nat → Int32} (hO : V q = some (sE q n (nI p) cl)) (hT : V (q + 1) = some (bE X 100 f)) (hn : n ≤ 100) (hp : p ≤ n) {wd vl : Nat → Int32} (hW : V (q + 2) = some (iE X 12 wd)) (hL : V (q + 3) = some (iE X 48 vl)) {c : Nat} (hc : c < 12) : hv_Mi l X 6 yX4_parseClause cX4_parseClause 5 .boolean V [.ref q, .int (nI c)] (fun y V1 => ∃ wd1 vl1 : Nat → Int32, V1 = hv_up (hv_up (hv_up V q (sE q n (nI (rd_c (n, f) p).2) cl)) (q + 2) (iE X 12 wd1)) (q + 3) (iE X 48 vl1) ∧ (∀ j, j < c → wd1 j = wd j) ∧ (∀ j, j < 4 * c → vl1 j = vl j) ∧ ((y = 1 ∧ (rd_c (n, f) p).1 = true ∧ (rd_w (n, f) p).1 < 5 ∧ wd1 c = nI (rd_w (n, f) p).1 ∧ ∀ k, k < rd_due (rd_w (n, f) p).1 → vl1 (4 * c + k) = nI (rd_n (n, f) (rd_q (n, f) p k))) ∨ (y = 0 ∧ ¬ (rd_c (n, f) p).1 = true))) := by
  refine hv_enter (by decide) (Nat.le_of_ble_eq_true rfl) ?_
  intro p7 e s m below meth c7 ls C0 hr hlk hnm w hl
  have hl : lv_has ls 5 [(0, .ref q), (1, .int (nI c))] := hl
  have loop : ∀ (hw5 : (rd_w (n, f) p).1 < 5) (he5 : rd_c (n, f) p = rd_cl (n, f) p (rd_due (rd_w (n, f) p).1) 0) (m9 k9 : Nat) (vl9 : Nat → Int32) (Hq : Heap) (lq : List Loc) (ls : Array Slot), (k9 + m9 = rd_due (rd_w (n, f) p).1) → (rd_cl (n, f) p m9 k9 = rd_c (n, f) p) → (∀ j, j < 4 * c → vl9 j = vl j) → (∀ k, k < k9 → vl9 (4 * c + k) = nI (rd_n (n, f) (rd_q (n, f) p k))) → hv_w X s (hv_up (hv_up (hv_up V q (sE q n (nI (rd_q (n, f) p k9)) cl)) (q + 2) (iE X 12 (upd wd c (nI (rd_w (n, f) p).1)))) (q + 3) (iE X 48 vl9)) Hq lq → lv_has ls 5 [(0, .ref q), (1, .int (nI c)), (2, .int (nI (rd_w (n, f) p).1)), (3, .int (nI k9))] → W p7 l e (hv_rm 6 0 0) s m ([.ref q, .int (nI c)] : List Value).toArray below meth c7 Hq lq 0 0 (MQ below (hv_Qi X (fun y V1 => ∃ wd1 vl1 : Nat → Int32, V1 = hv_up (hv_up (hv_up V q (sE q n (nI (rd_c (n, f) p).2) cl)) (q + 2) (iE X 12 wd1)) (q + 3) (iE X 48 vl1) ∧ (∀ j, j < c → wd1 j = wd j) ∧ (∀ j, j < 4 * c → vl1 j = vl j) ∧ ((y = 1 ∧ (rd_c (n, f) p).1 = true ∧ (rd_w (n, f) p).1 < 5 ∧ wd1 c = nI (rd_w (n, f) p).1 ∧ ∀ k, k < rd_due (rd_w (n, f) p).1 → vl1 (4 * c + k) = nI (rd_n (n, f) (rd_q (n, f) p k))) ∨ (y = 0 ∧ ¬ (rd_c (n, f) p).1 = true)))) ([.ref q, .int (nI c)] : List Value).toArray s 0 0 X.2.2.1) (F0 m 21 ls []) := by
    intro hw5 he5 m9
    have hdue := rd_due4 (rd_w (n, f) p).1
    induction m9 with
    | zero =>
      intro k9 vl9 Hq lq ls hi he hold hval w hl
      obtain ⟨V8, e8⟩ : ∃ W9, W9 = hv_up (hv_up (hv_up V q (sE q n (nI (rd_q (n, f) p k9)) cl)) (q + 2) (iE X 12 (upd wd c (nI (rd_w (n, f) p).1)))) (q + 3) (iE X 48 vl9) := ⟨_, rfl⟩
      rw [← e8] at w
      have q0 : V8 q = some (.inr (4, [.ref (q + 1), .int (nI n), .int (nI (rd_q (n, f) p k9)), .int cl, .ref (q + 2), .ref (q + 3)])) := by rw [e8, hv_un (by omega), hv_un (by omega)]; exact hv_us
      have q1 : V8 (q + 1) = some (.inl (X.2.1 2, 100, .inl f)) := by rw [e8, hv_un (by omega), hv_un (by omega), hv_un (by omega)]; exact hT
      have q2 : V8 (q + 2) = some (.inl (X.2.1 0, 12, .inl (upd wd c (nI (rd_w (n, f) p).1)))) := by rw [e8, hv_un (by omega)]; exact hv_us
      have q3 : V8 (q + 3) = some (.inl (X.2.1 0, 48, .inl vl9)) := by rw [e8]; exact hv_us
      refine lv_iload_n C0.1 C0.2.1 dX4_parseClause_21 rfl (lv_at hl 3 rfl) ?_
      refine lv_iload_n C0.1 C0.2.1 dX4_parseClause_22 rfl (lv_at hl 2 rfl) ?_
      refine hv_cSi (As := [.int (nI (rd_w (n, f) p).1)]) C0 w kl_X4_40 ks_X4_valuesDue (c_X4_valuesDue (w0 := (rd_w (n, f) p).1) hw5) (by decide) (by decide) rfl hl.1 rfl (Nat.le_of_ble_eq_true rfl) dX4_parseClause_23 ⟨Nat.le_refl _, Nat.le_refl _⟩ (fun x1 V2 Hq lq hp3 w => ?_)
      obtain ⟨e9, e8⟩ := hp3
      rw [e9] at w; rw [e8]; clear e9 e8
      refine lv_icmp_ge (tgt := 61) C0.1 C0.2.1 dX4_parseClause_26 (by decide) (fun c_26 => ?_) (fun c_26 => absurd (nI_le (by omega) (by omega)) c_26)
      refine lv_iconst (v := 1) C0.1 C0.2.1 dX4_parseClause_61 (by decide) ?_
      exact hv_zret C0 w hr hlk (by decide) (⟨upd wd c (nI (rd_w (n, f) p).1), vl9, by rw [e8, ← he]; rfl, (fun j hj => show upd wd c (nI (rd_w (n, f) p).1) j = wd j from if_neg (by omega)), hold, Or.inl ⟨rfl, by rw [← he]; rfl, hw5, if_pos rfl, fun k hk => hval k (by omega)⟩⟩) dX4_parseClause_62
    | succ m9 ih =>
      intro k9 vl9 Hq lq ls hi he hold hval w hl
      obtain ⟨V8, e8⟩ : ∃ W9, W9 = hv_up (hv_up (hv_up V q (sE q n (nI (rd_q (n, f) p k9)) cl)) (q + 2) (iE X 12 (upd wd c (nI (rd_w (n, f) p).1)))) (q + 3) (iE X 48 vl9) := ⟨_, rfl⟩
      rw [← e8] at w
      have q0 : V8 q = some (.inr (4, [.ref (q + 1), .int (nI n), .int (nI (rd_q (n, f) p k9)), .int cl, .ref (q + 2), .ref (q + 3)])) := by rw [e8, hv_un (by omega), hv_un (by omega)]; exact hv_us
      have q1 : V8 (q + 1) = some (.inl (X.2.1 2, 100, .inl f)) := by rw [e8, hv_un (by omega), hv_un (by omega), hv_un (by omega)]; exact hT
      have q2 : V8 (q + 2) = some (.inl (X.2.1 0, 12, .inl (upd wd c (nI (rd_w (n, f) p).1)))) := by rw [e8, hv_un (by omega)]; exact hv_us
      have q3 : V8 (q + 3) = some (.inl (X.2.1 0, 48, .inl vl9)) := by rw [e8]; exact hv_us
      refine lv_iload_n C0.1 C0.2.1 dX4_parseClause_21 rfl (lv_at hl 3 rfl) ?_
      refine lv_iload_n C0.1 C0.2.1 dX4_parseClause_22 rfl (lv_at hl 2 rfl) ?_
      refine hv_cSi (As := [.int (nI (rd_w (n, f) p).1)]) C0 w kl_X4_40 ks_X4_valuesDue (c_X4_valuesDue (w0 := (rd_w (n, f) p).1) hw5) (by decide) (by decide) rfl hl.1 rfl (Nat.le_of_ble_eq_true rfl) dX4_parseClause_23 ⟨Nat.le_refl _, Nat.le_refl _⟩ (fun x1 V2 Hq lq hp3 w => ?_)
      obtain ⟨e9, e8⟩ := hp3
      rw [e9] at w; rw [e8]; clear e9 e8
      refine lv_icmp_ge (tgt := 61) C0.1 C0.2.1 dX4_parseClause_26 (by decide) (fun c_26 => absurd c_26 (nI_ge (by omega) (by omega))) (fun c_26 => ?_)
      refine lv_aload_n C0.1 C0.2.1 dX4_parseClause_29 rfl (lv_at hl 0 rfl) ?_
      refine hv_cVi C0 w kl_X4_44 kv_X4_parseValue rfl q0 (c_X4_parseValue (p := (rd_q (n, f) p k9)) q0 q1 hn (rd_qb (T := (n, f)) hp k9)) (by decide) (by decide) rfl hl.1 rfl (Nat.le_of_ble_eq_true rfl) dX4_parseClause_30 ⟨Nat.le_refl _, Nat.le_refl _⟩ (fun x4 V5 Hq lq hp6 w => ?_)
      obtain ⟨hp7, ey9⟩ := hp6
      have hV9 : V5 (q + 1) = some (.inl (X.2.1 2, 100, .inl f)) := by rw [hp7, hv_un (by omega)]; exact q1
      have hV10 : V5 (q + 2) = some (.inl (X.2.1 0, 12, .inl (upd wd c (nI (rd_w (n, f) p).1)))) := by rw [hp7, hv_un (by omega)]; exact q2
      have hV11 : V5 (q + 3) = some (.inl (X.2.1 0, 48, .inl vl9)) := by rw [hp7, hv_un (by omega)]; exact q3
      have hV12 : V5 q = some (.inr (4, [.ref (q + 1), .int (nI n), .int (nI (rd_e (n, f) (rd_q (n, f) p k9))), .int cl, .ref (q + 2), .ref (q + 3)])) := by rw [hp7]; exact hv_us
      by_cases hk9 : rd_ok (n, f) (rd_q (n, f) p k9)
      · rw [if_pos hk9] at ey9; rw [ey9]
        refine lv_istore (lv' := [(4, .int (nI (rd_n (n, f) (rd_q (n, f) p k9)))), (0, .ref q), (1, .int (nI c)), (2, .int (nI (rd_w (n, f) p).1)), (3, .int (nI k9))]) C0.1 C0.2.1 dX4_parseClause_33 hl (by decide) rfl (fun ls hl => ?_)
        refine lv_iload C0.1 C0.2.1 dX4_parseClause_35 (lv_at hl 0 rfl) ?_
        refine lv_iconst (v := -1) C0.1 C0.2.1 dX4_parseClause_37 (by decide) ?_
        refine lv_icmp_ne (tgt := 43) C0.1 C0.2.1 dX4_parseClause_38 (by decide) (fun c_38 => ?_) (fun c_38 => absurd c_38 (nI_m1 (by have := rd_nb (n, f) (rd_q (n, f) p k9); omega)))
        refine lv_aload_n C0.1 C0.2.1 dX4_parseClause_43 rfl (lv_at hl 1 rfl) ?_
        refine gf_X4_19 C0 w hV12 rfl dX4_parseClause_44 ?_
        refine lv_iload_n C0.1 C0.2.1 dX4_parseClause_47 rfl (lv_at hl 2 rfl) ?_
        refine lv_iconst (v := 4) C0.1 C0.2.1 dX4_parseClause_48 (by decide) ?_
        refine lv_imul C0.1 C0.2.1 dX4_parseClause_49 ?_
        refine lv_iload_n C0.1 C0.2.1 dX4_parseClause_50 rfl (lv_at hl 4 rfl) ?_
        refine lv_iadd C0.1 C0.2.1 dX4_parseClause_51 ?_
        rw [rd_ix1 c k9]
        refine lv_iload C0.1 C0.2.1 dX4_parseClause_52 (lv_at hl 0 rfl) ?_
        refine hv_iast C0 w hV11 (hn_in (by omega) (by decide)) dX4_parseClause_54 (fun Hq lq w => ?_)
        have hc13 : (nI (4 * c + k9)).toNatClampNeg = (4 * c + k9) := nI_clamp (by omega)
        rw [hc13] at w
        obtain ⟨V14, eV15⟩ : ∃ W9, W9 = hv_up V5 (q + 3) (.inl (X.2.1 0, 48, .inl (upd vl9 (4 * c + k9) (nI (rd_n (n, f) (rd_q (n, f) p k9)))))) := ⟨_, rfl⟩
        have w : hv_w X s V14 Hq lq := by rw [eV15]; exact w
        have hV16 : V14 (q + 1) = some (.inl (X.2.1 2, 100, .inl f)) := by rw [eV15, hv_un (by omega)]; exact hV9
        have hV17 : V14 (q + 2) = some (.inl (X.2.1 0, 12, .inl (upd wd c (nI (rd_w (n, f) p).1)))) := by rw [eV15, hv_un (by omega)]; exact hV10
        have hV19 : V14 q = some (.inr (4, [.ref (q + 1), .int (nI n), .int (nI (rd_e (n, f) (rd_q (n, f) p k9))), .int cl, .ref (q + 2), .ref (q + 3)])) := by rw [eV15, hv_un (by omega)]; exact hV12
        have hV20 : V14 (q + 3) = some (.inl (X.2.1 0, 48, .inl (upd vl9 (4 * c + k9) (nI (rd_n (n, f) (rd_q (n, f) p k9)))))) := by rw [eV15]; exact hv_us
        refine lv_iinc (v := (nI k9) + 1) (lv' := [(3, .int ((nI k9) + 1)), (4, .int (nI (rd_n (n, f) (rd_q (n, f) p k9)))), (0, .ref q), (1, .int (nI c)), (2, .int (nI (rd_w (n, f) p).1))]) C0.1 C0.2.1 dX4_parseClause_55 hl (k := 4) rfl rfl (by decide) rfl (fun ls hl => ?_)
        refine lv_goto (tgt := 21) C0.1 C0.2.1 dX4_parseClause_58 (by decide) ?_
        exact ih (k9 + 1) (upd vl9 (4 * c + k9) (nI (rd_n (n, f) (rd_q (n, f) p k9)))) _ _ ls (by omega) (by rw [← he, rd_cl, if_pos hk9]) (fun j hj => by rw [show upd vl9 (4 * c + k9) (nI (rd_n (n, f) (rd_q (n, f) p k9))) j = vl9 j from if_neg (by omega)]; exact hold j hj) (rd_upv hval) (by rw [eV15, hp7, e8, rd_p4 (by omega) (by omega)] at w; exact w) (by have h9 := (lv_sub (l' := [(0, .ref q), (1, .int (nI c)), (2, .int (nI (rd_w (n, f) p).1)), (3, .int (nI k9 + 1))]) hl [2, 3, 4, 0] rfl); rw [nI_1] at h9; exact h9)
      · rw [if_neg hk9] at ey9; rw [ey9]
        refine lv_istore (lv' := [(4, .int (-1)), (0, .ref q), (1, .int (nI c)), (2, .int (nI (rd_w (n, f) p).1)), (3, .int (nI k9))]) C0.1 C0.2.1 dX4_parseClause_33 hl (by decide) rfl (fun ls hl => ?_)
        refine lv_iload C0.1 C0.2.1 dX4_parseClause_35 (lv_at hl 0 rfl) ?_
        refine lv_iconst (v := -1) C0.1 C0.2.1 dX4_parseClause_37 (by decide) ?_
        refine lv_icmp_ne (tgt := 43) C0.1 C0.2.1 dX4_parseClause_38 (by decide) (fun h9 => absurd h9 (by decide)) (fun _ => ?_)
        refine lv_iconst (v := 0) C0.1 C0.2.1 dX4_parseClause_41 (by decide) ?_
        exact hv_zret C0 w hr hlk (by decide) (⟨upd wd c (nI (rd_w (n, f) p).1), vl9, by rw [hp7, e8, ← he, rd_cl, if_neg hk9]; exact rd_p3 (by omega) (by omega), (fun j hj => show upd wd c (nI (rd_w (n, f) p).1) j = wd j from if_neg (by omega)), hold, Or.inr ⟨rfl, by rw [← he, rd_cl, if_neg hk9]; exact Bool.false_ne_true⟩⟩) dX4_parseClause_42
  refine lv_aload_n C0.1 C0.2.1 dX4_parseClause_0 rfl (lv_at hl 0 rfl) ?_
  refine hv_cVi C0 w kl_X4_36 kv_X4_parseWord rfl hO (c_X4_parseWord hO hT hn hp) (by decide) (by decide) rfl hl.1 rfl (Nat.le_of_ble_eq_true rfl) dX4_parseClause_1 ⟨Nat.le_refl _, Nat.le_refl _⟩ (fun x1 V2 Hq lq hp3 w => ?_)
  obtain ⟨hp4, ey9⟩ := hp3
  have hV6 : V2 (q + 1) = some (.inl (X.2.1 2, 100, .inl f)) := by rw [hp4, hv_un (by omega)]; exact hT
  have hV7 : V2 (q + 2) = some (.inl (X.2.1 0, 12, .inl wd)) := by rw [hp4, hv_un (by omega)]; exact hW
  have hV8 : V2 (q + 3) = some (.inl (X.2.1 0, 48, .inl vl)) := by rw [hp4, hv_un (by omega)]; exact hL
  have hV9 : V2 q = some (.inr (4, [.ref (q + 1), .int (nI n), .int (nI (p + (rd_w (n, f) p).2)), .int cl, .ref (q + 2), .ref (q + 3)])) := by rw [hp4]; exact hv_us
  by_cases hw9 : (rd_w (n, f) p).1 = 5
  · rw [if_pos hw9] at ey9; rw [ey9]
    refine lv_istore_n (lv' := [(2, .int (-1)), (0, .ref q), (1, .int (nI c))]) C0.1 C0.2.1 dX4_parseClause_4 rfl hl (by decide) rfl (fun ls hl => ?_)
    refine lv_iload_n C0.1 C0.2.1 dX4_parseClause_5 rfl (lv_at hl 0 rfl) ?_
    refine lv_iconst (v := -1) C0.1 C0.2.1 dX4_parseClause_6 (by decide) ?_
    refine lv_icmp_ne (tgt := 12) C0.1 C0.2.1 dX4_parseClause_7 (by decide) (fun h9 => absurd h9 (by decide)) (fun _ => ?_)
    refine lv_iconst (v := 0) C0.1 C0.2.1 dX4_parseClause_10 (by decide) ?_
    exact hv_zret C0 w hr hlk (by decide) (⟨wd, vl, by rw [hp4, rd_c, if_pos hw9, hv_id (a := q + 2) (by rw [hv_un (by omega)]; exact hW), hv_id (a := q + 3) (by rw [hv_un (by omega)]; exact hL)], fun _ _ => rfl, fun _ _ => rfl, Or.inr ⟨rfl, by rw [rd_c, if_pos hw9]; exact Bool.false_ne_true⟩⟩) dX4_parseClause_11
  · rw [if_neg hw9] at ey9; rw [ey9]
    have hw5 : (rd_w (n, f) p).1 < 5 := by have := (rd_wl (T := (n, f)) hp).2.1; omega
    refine lv_istore_n (lv' := [(2, .int (nI (rd_w (n, f) p).1)), (0, .ref q), (1, .int (nI c))]) C0.1 C0.2.1 dX4_parseClause_4 rfl hl (by decide) rfl (fun ls hl => ?_)
    refine lv_iload_n C0.1 C0.2.1 dX4_parseClause_5 rfl (lv_at hl 0 rfl) ?_
    refine lv_iconst (v := -1) C0.1 C0.2.1 dX4_parseClause_6 (by decide) ?_
    refine lv_icmp_ne (tgt := 12) C0.1 C0.2.1 dX4_parseClause_7 (by decide) (fun c_7 => ?_) (fun c_7 => absurd c_7 (nI_m1 (by omega)))
    refine lv_aload_n C0.1 C0.2.1 dX4_parseClause_12 rfl (lv_at hl 1 rfl) ?_
    refine gf_X4_15 C0 w hV9 rfl dX4_parseClause_13 ?_
    refine lv_iload_n C0.1 C0.2.1 dX4_parseClause_16 rfl (lv_at hl 2 rfl) ?_
    refine lv_iload_n C0.1 C0.2.1 dX4_parseClause_17 rfl (lv_at hl 0 rfl) ?_
    refine hv_iast C0 w hV7 (hn_in hc (by decide)) dX4_parseClause_18 (fun Hq lq w => ?_)
    have hc10 : (nI c).toNatClampNeg = c := nI_clamp (by omega)
    rw [hc10] at w
    obtain ⟨V11, eV12⟩ : ∃ W9, W9 = hv_up V2 (q + 2) (.inl (X.2.1 0, 12, .inl (upd wd c (nI (rd_w (n, f) p).1)))) := ⟨_, rfl⟩
    have w : hv_w X s V11 Hq lq := by rw [eV12]; exact w
    have hV13 : V11 (q + 1) = some (.inl (X.2.1 2, 100, .inl f)) := by rw [eV12, hv_un (by omega)]; exact hV6
    have hV15 : V11 (q + 3) = some (.inl (X.2.1 0, 48, .inl vl)) := by rw [eV12, hv_un (by omega)]; exact hV8
    have hV16 : V11 q = some (.inr (4, [.ref (q + 1), .int (nI n), .int (nI (p + (rd_w (n, f) p).2)), .int cl, .ref (q + 2), .ref (q + 3)])) := by rw [eV12, hv_un (by omega)]; exact hV9
    have hV17 : V11 (q + 2) = some (.inl (X.2.1 0, 12, .inl (upd wd c (nI (rd_w (n, f) p).1)))) := by rw [eV12]; exact hv_us
    refine lv_iconst (v := 0) C0.1 C0.2.1 dX4_parseClause_19 (by decide) ?_
    refine lv_istore_n (lv' := [(3, .int 0), (2, .int (nI (rd_w (n, f) p).1)), (0, .ref q), (1, .int (nI c))]) C0.1 C0.2.1 dX4_parseClause_20 rfl hl (by decide) rfl (fun ls hl => ?_)
    have hl : lv_has ls 5 [(3, .int (nI 0)), (2, .int (nI (rd_w (n, f) p).1)), (0, .ref q), (1, .int (nI c))] := by rw [show ((nI 0)) = (0) from rfl]; exact hl
    have he5 : rd_c (n, f) p = rd_cl (n, f) p (rd_due (rd_w (n, f) p).1) 0 := if_neg hw9
    exact loop hw5 he5 (rd_due (rd_w (n, f) p).1) 0 vl _ _ ls (by omega) he5.symm (fun _ _ => rfl) (fun k hk => absurd hk (Nat.not_lt_zero k)) (by rw [hv_id (a := q + 3) (by rw [hv_un (by omega), hv_un (by omega)]; exact hL)]; rw [eV12, hp4] at w; exact w) (lv_sub hl [2, 3, 1, 0] rfl)

theorem rd_hs {T : rd_T} {k : Nat} {wd vl wd1 vl1 : Nat → Int32} (h : rd_h T k wd vl) (h1 : ∀ j, j < k → wd1 j = wd j) (h2 : ∀ j, j < 4 * k → vl1 j = vl j) (g2 : (rd_w T (rd_P T k)).1 < 5) (g3 : wd1 k = nI (rd_w T (rd_P T k)).1) (g4 : ∀ i, i < rd_due (rd_w T (rd_P T k)).1 → vl1 (4 * k + i) = nI (rd_n T (rd_q T (rd_P T k) i))) : rd_h T (k + 1) wd1 vl1 := fun i hi => by
  by_cases q : i = k
  · subst q; exact ⟨g2, g3, fun j hj => g4 j hj⟩
  · obtain ⟨a1, a2, a3⟩ := h i (by omega)
    have hd := rd_due4 (rd_w T (rd_P T i)).1
    exact ⟨a1, (h1 i (by omega)).trans a2, fun j hj => (h2 _ (by omega)).trans (a3 j hj)⟩
theorem rd_p6 {V : hv_V} {a b c : Nat} {e1 e2 e3 g1 g2 g3 : va_E} (hab : a ≠ b) (hac : a ≠ c) (hbc : b ≠ c) : hv_up (hv_up (hv_up (hv_up (hv_up (hv_up V a e1) b e2) c e3) a g1) b g2) c g3 = hv_up (hv_up (hv_up V a g1) b g2) c g3 := by
  rw [rd_p3 hab hac, hv_uc (a := c) (b := b) (Ne.symm hbc), hv_uu, hv_uu]
set_option maxHeartbeats 4000000 in
set_option maxRecDepth 100000 in
theorem c_X4_parse {l : Launch} {X : hv_X} {V : hv_V} {q n : Nat} {pl cl : Int32} {f : Nat → Int32} (hO : V q = some (sE q n pl cl)) (hT : V (q + 1) = some (bE X 100 f)) (hn : n ≤ 100) {wd vl : Nat → Int32} (hW : V (q + 2) = some (iE X 12 wd)) (hL : V (q + 3) = some (iE X 48 vl))  : hv_Mi l X 7 yX4_parse cX4_parse 1 .int V [.ref q] (fun y V1 => ∃ (pl1 : Int32) (wd1 vl1 : Nat → Int32), V1 = hv_up (hv_up (hv_up V q (sE q n pl1 (nI (rd_all (n, f) 12 0).2.2))) (q + 2) (iE X 12 wd1)) (q + 3) (iE X 48 vl1) ∧ (((rd_all (n, f) 12 0).1 = true ∧ y = -1 ∧ rd_h (n, f) (rd_all (n, f) 12 0).2.2 wd1 vl1) ∨ (¬ (rd_all (n, f) 12 0).1 = true ∧ y = nI (rd_all (n, f) 12 0).2.1))) := by
  refine hv_enter (by decide) (Nat.le_of_ble_eq_true rfl) ?_
  intro p7 e s m below meth c7 ls C0 hr hlk hnm w hl
  have hl : lv_has ls 1 [(0, .ref q)] := hl
  have loop : ∀ (m9 k9 : Nat) (wd9 vl9 : Nat → Int32) (Hq : Heap) (lq : List Loc) (ls : Array Slot), (k9 + m9 = 12) → ((rd_P (n, f) k9) ≤ n) → (rd_all (n, f) m9 k9 = (rd_all (n, f) 12 0)) → (rd_h (n, f) k9 wd9 vl9) → hv_w X s (hv_up (hv_up (hv_up V q (sE q n (nI (rd_P (n, f) k9)) (nI k9))) (q + 2) (iE X 12 wd9)) (q + 3) (iE X 48 vl9)) Hq lq → lv_has ls 1 [(0, .ref q)] → W p7 l e (hv_rm 7 0 0) s m ([.ref q] : List Value).toArray below meth c7 Hq lq 0 0 (MQ below (hv_Qi X (fun y V1 => ∃ (pl1 : Int32) (wd1 vl1 : Nat → Int32), V1 = hv_up (hv_up (hv_up V q (sE q n pl1 (nI (rd_all (n, f) 12 0).2.2))) (q + 2) (iE X 12 wd1)) (q + 3) (iE X 48 vl1) ∧ (((rd_all (n, f) 12 0).1 = true ∧ y = -1 ∧ rd_h (n, f) (rd_all (n, f) 12 0).2.2 wd1 vl1) ∨ (¬ (rd_all (n, f) 12 0).1 = true ∧ y = nI (rd_all (n, f) 12 0).2.1)))) ([.ref q] : List Value).toArray s 0 0 X.2.2.1) (F0 m 10 ls []) := by
    intro m9
    induction m9 with
    | zero =>
      intro k9 wd9 vl9 Hq lq ls hi hpn he hh w hl
      have hcn : (rd_c (n, f) (rd_P (n, f) k9)).2 ≤ n := rd_cb (T := (n, f)) hpn
      obtain ⟨V8, e8⟩ : ∃ W9, W9 = hv_up (hv_up (hv_up V q (sE q n (nI (rd_P (n, f) k9)) (nI k9))) (q + 2) (iE X 12 wd9)) (q + 3) (iE X 48 vl9) := ⟨_, rfl⟩
      rw [← e8] at w
      have q0 : V8 q = some (.inr (4, [.ref (q + 1), .int (nI n), .int (nI (rd_P (n, f) k9)), .int (nI k9), .ref (q + 2), .ref (q + 3)])) := by rw [e8, hv_un (by omega), hv_un (by omega)]; exact hv_us
      have q1 : V8 (q + 1) = some (.inl (X.2.1 2, 100, .inl f)) := by rw [e8, hv_un (by omega), hv_un (by omega), hv_un (by omega)]; exact hT
      have q2 : V8 (q + 2) = some (.inl (X.2.1 0, 12, .inl wd9)) := by rw [e8, hv_un (by omega)]; exact hv_us
      have q3 : V8 (q + 3) = some (.inl (X.2.1 0, 48, .inl vl9)) := by rw [e8]; exact hv_us
      refine lv_aload_n C0.1 C0.2.1 dX4_parse_10 rfl (lv_at hl 0 rfl) ?_
      refine gf_X4_26 C0 w q0 rfl dX4_parse_11 ?_
      refine lv_bipush (v := 12) C0.1 C0.2.1 dX4_parse_14 (by decide) ?_
      refine lv_icmp_ge (tgt := 99) C0.1 C0.2.1 dX4_parse_16 (by decide) (fun c_16 => ?_) (fun c_16 => absurd (show nI 12 ≤ nI k9 from nI_le (by omega) (by omega)) c_16)
      refine lv_aload_n C0.1 C0.2.1 dX4_parse_99 rfl (lv_at hl 0 rfl) ?_
      refine gf_X4_29 C0 w q0 rfl dX4_parse_100 ?_
      exact hv_iret C0 w hr hlk (⟨_, wd9, vl9, by rw [e8, ← he]; rfl, Or.inr ⟨by rw [← he]; exact Bool.false_ne_true, by rw [← he]; rfl⟩⟩) dX4_parse_103
    | succ m9 ih =>
      intro k9 wd9 vl9 Hq lq ls hi hpn he hh w hl
      have hcn : (rd_c (n, f) (rd_P (n, f) k9)).2 ≤ n := rd_cb (T := (n, f)) hpn
      obtain ⟨V8, e8⟩ : ∃ W9, W9 = hv_up (hv_up (hv_up V q (sE q n (nI (rd_P (n, f) k9)) (nI k9))) (q + 2) (iE X 12 wd9)) (q + 3) (iE X 48 vl9) := ⟨_, rfl⟩
      rw [← e8] at w
      have q0 : V8 q = some (.inr (4, [.ref (q + 1), .int (nI n), .int (nI (rd_P (n, f) k9)), .int (nI k9), .ref (q + 2), .ref (q + 3)])) := by rw [e8, hv_un (by omega), hv_un (by omega)]; exact hv_us
      have q1 : V8 (q + 1) = some (.inl (X.2.1 2, 100, .inl f)) := by rw [e8, hv_un (by omega), hv_un (by omega), hv_un (by omega)]; exact hT
      have q2 : V8 (q + 2) = some (.inl (X.2.1 0, 12, .inl wd9)) := by rw [e8, hv_un (by omega)]; exact hv_us
      have q3 : V8 (q + 3) = some (.inl (X.2.1 0, 48, .inl vl9)) := by rw [e8]; exact hv_us
      refine lv_aload_n C0.1 C0.2.1 dX4_parse_10 rfl (lv_at hl 0 rfl) ?_
      refine gf_X4_26 C0 w q0 rfl dX4_parse_11 ?_
      refine lv_bipush (v := 12) C0.1 C0.2.1 dX4_parse_14 (by decide) ?_
      refine lv_icmp_ge (tgt := 99) C0.1 C0.2.1 dX4_parse_16 (by decide) (fun c_16 => absurd c_16 (show ¬ nI 12 ≤ nI k9 from nI_ge (by omega) (by omega))) (fun c_16 => ?_)
      refine lv_aload_n C0.1 C0.2.1 dX4_parse_19 rfl (lv_at hl 0 rfl) ?_
      refine lv_aload_n C0.1 C0.2.1 dX4_parse_20 rfl (lv_at hl 0 rfl) ?_
      refine gf_X4_26 C0 w q0 rfl dX4_parse_21 ?_
      refine hv_cVi C0 w kl_X4_32 kv_X4_parseClause rfl q0 (c_X4_parseClause (p := (rd_P (n, f) k9)) (c := k9) q0 q1 hn hpn q2 q3 (by omega)) (by decide) (by decide) rfl hl.1 rfl (Nat.le_of_ble_eq_true rfl) dX4_parse_24 ⟨Nat.le_refl _, Nat.le_refl _⟩ (fun x1 V2 Hq lq hp3 w => ?_)
      obtain ⟨wd1, vl1, e1, hk1, hk2, hz1⟩ := hp3
      have hV4 : V2 q = some (.inr (4, [.ref (q + 1), .int (nI n), .int (nI (rd_c (n, f) (rd_P (n, f) k9)).2), .int (nI k9), .ref (q + 2), .ref (q + 3)])) := by rw [e1, hv_un (by omega), hv_un (by omega)]; exact hv_us
      have hV5 : V2 (q + 1) = some (.inl (X.2.1 2, 100, .inl f)) := by rw [e1, hv_un (by omega), hv_un (by omega), hv_un (by omega)]; exact q1
      have hV6 : V2 (q + 2) = some (.inl (X.2.1 0, 12, .inl wd1)) := by rw [e1, hv_un (by omega)]; exact hv_us
      have hV7 : V2 (q + 3) = some (.inl (X.2.1 0, 48, .inl vl1)) := by rw [e1]; exact hv_us
      rcases hz1 with ⟨rfl, hg1, hg2, hg3, hg4⟩ | ⟨rfl, hg1⟩
      · skip
        refine lv_if_ne (tgt := 35) C0.1 C0.2.1 dX4_parse_27 (by decide) (fun _ => ?_) (fun h9 => absurd h9 (by decide))
        refine lv_aload_n C0.1 C0.2.1 dX4_parse_35 rfl (lv_at hl 0 rfl) ?_
        refine lv_dup C0.1 C0.2.1 dX4_parse_36 rfl ?_
        refine gf_X4_26 C0 w hV4 rfl dX4_parse_37 ?_
        refine lv_iconst (v := 1) C0.1 C0.2.1 dX4_parse_40 (by decide) ?_
        refine lv_iadd C0.1 C0.2.1 dX4_parse_41 ?_
        rw [nI_1 k9]
        refine pf_X4_26 C0 w hV4 (by simp) dX4_parse_42 (fun Hq lq w => ?_)
        obtain ⟨V8, eV9⟩ : ∃ W9, W9 = hv_up V2 q (.inr (4, [.ref (q + 1), .int (nI n), .int (nI (rd_c (n, f) (rd_P (n, f) k9)).2), .int (nI (k9 + 1)), .ref (q + 2), .ref (q + 3)])) := ⟨_, rfl⟩
        have w : hv_w X s V8 Hq lq := by rw [eV9]; exact w
        have hV11 : V8 (q + 1) = some (.inl (X.2.1 2, 100, .inl f)) := by rw [eV9, hv_un (by omega)]; exact hV5
        have hV12 : V8 (q + 2) = some (.inl (X.2.1 0, 12, .inl wd1)) := by rw [eV9, hv_un (by omega)]; exact hV6
        have hV13 : V8 (q + 3) = some (.inl (X.2.1 0, 48, .inl vl1)) := by rw [eV9, hv_un (by omega)]; exact hV7
        have hV14 : V8 q = some (.inr (4, [.ref (q + 1), .int (nI n), .int (nI (rd_c (n, f) (rd_P (n, f) k9)).2), .int (nI (k9 + 1)), .ref (q + 2), .ref (q + 3)])) := by rw [eV9]; exact hv_us
        refine lv_aload_n C0.1 C0.2.1 dX4_parse_45 rfl (lv_at hl 0 rfl) ?_
        refine gf_X4_29 C0 w hV14 rfl dX4_parse_46 ?_
        refine lv_aload_n C0.1 C0.2.1 dX4_parse_49 rfl (lv_at hl 0 rfl) ?_
        refine gf_X4_22 C0 w hV14 rfl dX4_parse_50 ?_
        refine lv_icmp_lt (tgt := 58) C0.1 C0.2.1 dX4_parse_53 (by decide) (fun c_53 => ?_) (fun c_53 => ?_)
        · skip
          have hlt : (rd_c (n, f) (rd_P (n, f) k9)).2 < n := (nI_ltI (by omega) (by omega)).mp c_53
          refine lv_aload_n C0.1 C0.2.1 dX4_parse_58 rfl (lv_at hl 0 rfl) ?_
          refine gf_X4_9 C0 w hV14 rfl dX4_parse_59 ?_
          refine lv_aload_n C0.1 C0.2.1 dX4_parse_62 rfl (lv_at hl 0 rfl) ?_
          refine gf_X4_29 C0 w hV14 rfl dX4_parse_63 ?_
          refine hv_bald C0 w hV11 (hn_in (by omega) (by decide)) dX4_parse_66 ?_
          rw [nI_clamp (show (rd_c (n, f) (rd_P (n, f) k9)).2 < 2 ^ 31 by omega)]
          refine lv_bipush (v := 59) C0.1 C0.2.1 dX4_parse_67 (by decide) ?_
          refine lv_icmp_ne (tgt := 81) C0.1 C0.2.1 dX4_parse_69 (by decide) (fun c_69 => ?_) (fun c_69 => ?_)
          · skip
            refine lv_aload_n C0.1 C0.2.1 dX4_parse_81 rfl (lv_at hl 0 rfl) ?_
            refine gf_X4_29 C0 w hV14 rfl dX4_parse_82 ?_
            exact hv_iret C0 w hr hlk (⟨_, wd1, vl1, by rw [(show (rd_all (n, f) 12 0) = (false, (rd_c (n, f) (rd_P (n, f) k9)).2, k9 + 1) from by rw [← he, rd_all, if_pos hg1, if_neg (show ¬ n ≤ (rd_c (n, f) (rd_P (n, f) k9)).2 from Nat.not_le.mpr hlt), if_pos (Or.inr c_69)]), eV9, e1, e8, rd_p6 (by omega) (by omega) (by omega)]; exact rd_p3 (by omega) (by omega), Or.inr ⟨by rw [(show (rd_all (n, f) 12 0) = (false, (rd_c (n, f) (rd_P (n, f) k9)).2, k9 + 1) from by rw [← he, rd_all, if_pos hg1, if_neg (show ¬ n ≤ (rd_c (n, f) (rd_P (n, f) k9)).2 from Nat.not_le.mpr hlt), if_pos (Or.inr c_69)])]; exact Bool.false_ne_true, by rw [(show (rd_all (n, f) 12 0) = (false, (rd_c (n, f) (rd_P (n, f) k9)).2, k9 + 1) from by rw [← he, rd_all, if_pos hg1, if_neg (show ¬ n ≤ (rd_c (n, f) (rd_P (n, f) k9)).2 from Nat.not_le.mpr hlt), if_pos (Or.inr c_69)])]⟩⟩) dX4_parse_85
          · skip
            refine lv_aload_n C0.1 C0.2.1 dX4_parse_72 rfl (lv_at hl 0 rfl) ?_
            refine gf_X4_26 C0 w hV14 rfl dX4_parse_73 ?_
            refine lv_bipush (v := 12) C0.1 C0.2.1 dX4_parse_76 (by decide) ?_
            refine lv_icmp_ne (tgt := 86) C0.1 C0.2.1 dX4_parse_78 (by decide) (fun c_78 => ?_) (fun c_78 => ?_)
            · skip
              refine lv_aload_n C0.1 C0.2.1 dX4_parse_86 rfl (lv_at hl 0 rfl) ?_
              refine lv_dup C0.1 C0.2.1 dX4_parse_87 rfl ?_
              refine gf_X4_29 C0 w hV14 rfl dX4_parse_88 ?_
              refine lv_iconst (v := 1) C0.1 C0.2.1 dX4_parse_91 (by decide) ?_
              refine lv_iadd C0.1 C0.2.1 dX4_parse_92 ?_
              rw [nI_1 ((rd_c (n, f) (rd_P (n, f) k9)).2)]
              refine pf_X4_29 C0 w hV14 (by simp) dX4_parse_93 (fun Hq lq w => ?_)
              obtain ⟨V15, eV16⟩ : ∃ W9, W9 = hv_up V8 q (.inr (4, [.ref (q + 1), .int (nI n), .int (nI ((rd_c (n, f) (rd_P (n, f) k9)).2 + 1)), .int (nI (k9 + 1)), .ref (q + 2), .ref (q + 3)])) := ⟨_, rfl⟩
              have w : hv_w X s V15 Hq lq := by rw [eV16]; exact w
              have hV17 : V15 (q + 1) = some (.inl (X.2.1 2, 100, .inl f)) := by rw [eV16, hv_un (by omega)]; exact hV11
              have hV18 : V15 (q + 2) = some (.inl (X.2.1 0, 12, .inl wd1)) := by rw [eV16, hv_un (by omega)]; exact hV12
              have hV19 : V15 (q + 3) = some (.inl (X.2.1 0, 48, .inl vl1)) := by rw [eV16, hv_un (by omega)]; exact hV13
              have hV21 : V15 q = some (.inr (4, [.ref (q + 1), .int (nI n), .int (nI ((rd_c (n, f) (rd_P (n, f) k9)).2 + 1)), .int (nI (k9 + 1)), .ref (q + 2), .ref (q + 3)])) := by rw [eV16]; exact hv_us
              refine lv_goto (tgt := 10) C0.1 C0.2.1 dX4_parse_96 (by decide) ?_
              exact ih (k9 + 1) wd1 vl1 _ _ ls (by omega) (show (rd_c (n, f) (rd_P (n, f) k9)).2 + 1 ≤ n from hlt) (by rw [← he, rd_all, if_pos hg1, if_neg (show ¬ n ≤ (rd_c (n, f) (rd_P (n, f) k9)).2 from Nat.not_le.mpr hlt), if_neg (fun h9 => h9.elim (fun h8 => c_78 (show nI (k9 + 1) = nI 12 by rw [show k9 + 1 = 12 by omega])) (fun h8 => h8 c_69))]) (rd_hs hh hk1 hk2 hg2 hg3 hg4) (by rw [eV16, eV9, e1, e8, rd_p6 (by omega) (by omega) (by omega), rd_p3 (by omega) (by omega), rd_p3 (by omega) (by omega)] at w; exact w) (lv_sub hl [0] rfl)
            · skip
              refine lv_aload_n C0.1 C0.2.1 dX4_parse_81 rfl (lv_at hl 0 rfl) ?_
              refine gf_X4_29 C0 w hV14 rfl dX4_parse_82 ?_
              exact hv_iret C0 w hr hlk (⟨_, wd1, vl1, by rw [(show (rd_all (n, f) 12 0) = (false, (rd_c (n, f) (rd_P (n, f) k9)).2, k9 + 1) from by rw [← he, rd_all, if_pos hg1, if_neg (show ¬ n ≤ (rd_c (n, f) (rd_P (n, f) k9)).2 from Nat.not_le.mpr hlt), if_pos (Or.inl (by have h8 := (nI_eq (a := k9 + 1) (b := 12) (by omega) (by omega)).mp c_78; omega))]), eV9, e1, e8, rd_p6 (by omega) (by omega) (by omega)]; exact rd_p3 (by omega) (by omega), Or.inr ⟨by rw [(show (rd_all (n, f) 12 0) = (false, (rd_c (n, f) (rd_P (n, f) k9)).2, k9 + 1) from by rw [← he, rd_all, if_pos hg1, if_neg (show ¬ n ≤ (rd_c (n, f) (rd_P (n, f) k9)).2 from Nat.not_le.mpr hlt), if_pos (Or.inl (by have h8 := (nI_eq (a := k9 + 1) (b := 12) (by omega) (by omega)).mp c_78; omega))])]; exact Bool.false_ne_true, by rw [(show (rd_all (n, f) 12 0) = (false, (rd_c (n, f) (rd_P (n, f) k9)).2, k9 + 1) from by rw [← he, rd_all, if_pos hg1, if_neg (show ¬ n ≤ (rd_c (n, f) (rd_P (n, f) k9)).2 from Nat.not_le.mpr hlt), if_pos (Or.inl (by have h8 := (nI_eq (a := k9 + 1) (b := 12) (by omega) (by omega)).mp c_78; omega))])]⟩⟩) dX4_parse_85
        · skip
          refine lv_iconst (v := -1) C0.1 C0.2.1 dX4_parse_56 (by decide) ?_
          exact hv_iret C0 w hr hlk (⟨_, wd1, vl1, by rw [(show (rd_all (n, f) 12 0) = (true, (rd_c (n, f) (rd_P (n, f) k9)).2, k9 + 1) from by rw [← he, rd_all, if_pos hg1, if_pos (show n ≤ (rd_c (n, f) (rd_P (n, f) k9)).2 from Nat.not_lt.mp (fun h9 => c_53 (nI_lt h9 (by omega))))]), eV9, e1, e8, rd_p6 (by omega) (by omega) (by omega)]; exact rd_p3 (by omega) (by omega), Or.inl ⟨by rw [(show (rd_all (n, f) 12 0) = (true, (rd_c (n, f) (rd_P (n, f) k9)).2, k9 + 1) from by rw [← he, rd_all, if_pos hg1, if_pos (show n ≤ (rd_c (n, f) (rd_P (n, f) k9)).2 from Nat.not_lt.mp (fun h9 => c_53 (nI_lt h9 (by omega))))])], rfl, by rw [(show (rd_all (n, f) 12 0) = (true, (rd_c (n, f) (rd_P (n, f) k9)).2, k9 + 1) from by rw [← he, rd_all, if_pos hg1, if_pos (show n ≤ (rd_c (n, f) (rd_P (n, f) k9)).2 from Nat.not_lt.mp (fun h9 => c_53 (nI_lt h9 (by omega))))])]; exact rd_hs hh hk1 hk2 hg2 hg3 hg4⟩⟩) dX4_parse_57
      · skip
        refine lv_if_ne (tgt := 35) C0.1 C0.2.1 dX4_parse_27 (by decide) (fun h9 => absurd h9 (by decide)) (fun _ => ?_)
        refine lv_aload_n C0.1 C0.2.1 dX4_parse_30 rfl (lv_at hl 0 rfl) ?_
        refine gf_X4_29 C0 w hV4 rfl dX4_parse_31 ?_
        exact hv_iret C0 w hr hlk (⟨_, wd1, vl1, by rw [(show (rd_all (n, f) 12 0) = (false, (rd_c (n, f) (rd_P (n, f) k9)).2, k9) from by rw [← he, rd_all, if_neg hg1]), e1, e8]; exact rd_p6 (by omega) (by omega) (by omega), Or.inr ⟨by rw [(show (rd_all (n, f) 12 0) = (false, (rd_c (n, f) (rd_P (n, f) k9)).2, k9) from by rw [← he, rd_all, if_neg hg1])]; exact Bool.false_ne_true, by rw [(show (rd_all (n, f) 12 0) = (false, (rd_c (n, f) (rd_P (n, f) k9)).2, k9) from by rw [← he, rd_all, if_neg hg1])]⟩⟩) dX4_parse_34
  refine lv_aload_n C0.1 C0.2.1 dX4_parse_0 rfl (lv_at hl 0 rfl) ?_
  refine lv_iconst (v := 0) C0.1 C0.2.1 dX4_parse_1 (by decide) ?_
  refine pf_X4_26 C0 w hO (by simp) dX4_parse_2 (fun Hq lq w => ?_)
  obtain ⟨V1, eV2⟩ : ∃ W9, W9 = hv_up V q (.inr (4, [.ref (q + 1), .int (nI n), .int pl, .int 0, .ref (q + 2), .ref (q + 3)])) := ⟨_, rfl⟩
  have w : hv_w X s V1 Hq lq := by rw [eV2]; exact w
  have hV4 : V1 (q + 1) = some (.inl (X.2.1 2, 100, .inl f)) := by rw [eV2, hv_un (by omega)]; exact hT
  have hV5 : V1 (q + 2) = some (.inl (X.2.1 0, 12, .inl wd)) := by rw [eV2, hv_un (by omega)]; exact hW
  have hV6 : V1 (q + 3) = some (.inl (X.2.1 0, 48, .inl vl)) := by rw [eV2, hv_un (by omega)]; exact hL
  have hV7 : V1 q = some (.inr (4, [.ref (q + 1), .int (nI n), .int pl, .int 0, .ref (q + 2), .ref (q + 3)])) := by rw [eV2]; exact hv_us
  refine lv_aload_n C0.1 C0.2.1 dX4_parse_5 rfl (lv_at hl 0 rfl) ?_
  refine lv_iconst (v := 0) C0.1 C0.2.1 dX4_parse_6 (by decide) ?_
  refine pf_X4_29 C0 w hV7 (by simp) dX4_parse_7 (fun Hq lq w => ?_)
  obtain ⟨V8, eV9⟩ : ∃ W9, W9 = hv_up V1 q (.inr (4, [.ref (q + 1), .int (nI n), .int 0, .int 0, .ref (q + 2), .ref (q + 3)])) := ⟨_, rfl⟩
  have w : hv_w X s V8 Hq lq := by rw [eV9]; exact w
  have hV10 : V8 (q + 1) = some (.inl (X.2.1 2, 100, .inl f)) := by rw [eV9, hv_un (by omega)]; exact hV4
  have hV11 : V8 (q + 2) = some (.inl (X.2.1 0, 12, .inl wd)) := by rw [eV9, hv_un (by omega)]; exact hV5
  have hV12 : V8 (q + 3) = some (.inl (X.2.1 0, 48, .inl vl)) := by rw [eV9, hv_un (by omega)]; exact hV6
  have hV14 : V8 q = some (.inr (4, [.ref (q + 1), .int (nI n), .int 0, .int 0, .ref (q + 2), .ref (q + 3)])) := by rw [eV9]; exact hv_us
  exact loop 12 0 wd vl _ _ ls (by omega) (Nat.zero_le _) rfl (fun i hi => absurd hi (Nat.not_lt_zero i)) (by rw [hv_id (a := q + 2) (by rw [hv_un (by omega)]; exact hW), hv_id (a := q + 3) (by rw [hv_un (by omega)]; exact hL)]; rw [eV9, eV2, hv_uu] at w; exact w) (lv_sub hl [0] rfl)

set_option maxHeartbeats 4000000 in
set_option maxRecDepth 100000 in
theorem c_X4_wordOf {l : Launch} {X : hv_X} {V : hv_V} {q n i N : Nat} {pl : Int32} {wd vl : Nat → Int32} (hO : V q = some (sE q n pl (nI N))) (hW : V (q + 2) = some (iE X 12 wd)) (hL : V (q + 3) = some (iE X 48 vl)) (hi : i < N) (hN : N ≤ 12)  : hv_Mi l X 0 yX4_wordOf cX4_wordOf 2 .int V [.ref q, .int (nI i)] (fun y V1 => V1 = V ∧ y = wd i) := by
  refine hv_enter (by decide) (Nat.le_of_ble_eq_true rfl) ?_
  intro p7 e s m below meth c7 ls C0 hr hlk hnm w hl
  have hl : lv_has ls 2 [(0, .ref q), (1, .int (nI i))] := hl
  refine lv_iload_n C0.1 C0.2.1 dX4_wordOf_0 rfl (lv_at hl 1 rfl) ?_
  refine lv_if_lt (tgt := 21) C0.1 C0.2.1 dX4_wordOf_1 (by decide) (fun c_1 => absurd c_1 (nI_pos (by omega))) (fun c_1 => ?_)
  refine lv_iload_n C0.1 C0.2.1 dX4_wordOf_4 rfl (lv_at hl 1 rfl) ?_
  refine lv_aload_n C0.1 C0.2.1 dX4_wordOf_5 rfl (lv_at hl 0 rfl) ?_
  refine gf_X4_26 C0 w hO rfl dX4_wordOf_6 ?_
  refine lv_icmp_ge (tgt := 21) C0.1 C0.2.1 dX4_wordOf_9 (by decide) (fun c_9 => absurd c_9 (nI_ge hi (by omega))) (fun c_9 => ?_)
  refine lv_aload_n C0.1 C0.2.1 dX4_wordOf_12 rfl (lv_at hl 0 rfl) ?_
  refine gf_X4_15 C0 w hO rfl dX4_wordOf_13 ?_
  refine lv_iload_n C0.1 C0.2.1 dX4_wordOf_16 rfl (lv_at hl 1 rfl) ?_
  refine hv_iald C0 w hW (hn_in (by omega) (by decide)) dX4_wordOf_17 ?_
  have hc1 : (nI i).toNatClampNeg = i := nI_clamp (by omega)
  rw [hc1]
  refine lv_goto (tgt := 22) C0.1 C0.2.1 dX4_wordOf_18 (by decide) ?_
  exact hv_iret C0 w hr hlk (⟨rfl, rfl⟩) dX4_wordOf_22

set_option maxHeartbeats 4000000 in
set_option maxRecDepth 100000 in
theorem c_X4_valueOf {l : Launch} {X : hv_X} {V : hv_V} {q n i N : Nat} {pl : Int32} {wd vl : Nat → Int32} (hO : V q = some (sE q n pl (nI N))) (hW : V (q + 2) = some (iE X 12 wd)) (hL : V (q + 3) = some (iE X 48 vl)) (hi : i < N) (hN : N ≤ 12) {k : Nat} (hk : k < 4) : hv_Mi l X 0 yX4_valueOf cX4_valueOf 4 .int V [.ref q, .int (nI i), .int (nI k)] (fun y V1 => V1 = V ∧ y = vl (4 * i + k)) := by
  refine hv_enter (by decide) (Nat.le_of_ble_eq_true rfl) ?_
  intro p7 e s m below meth c7 ls C0 hr hlk hnm w hl
  have hl : lv_has ls 4 [(0, .ref q), (1, .int (nI i)), (2, .int (nI k))] := hl
  refine lv_iload_n C0.1 C0.2.1 dX4_valueOf_0 rfl (lv_at hl 1 rfl) ?_
  refine lv_if_lt (tgt := 25) C0.1 C0.2.1 dX4_valueOf_1 (by decide) (fun c_1 => absurd c_1 (nI_pos (by omega))) (fun c_1 => ?_)
  refine lv_iload_n C0.1 C0.2.1 dX4_valueOf_4 rfl (lv_at hl 1 rfl) ?_
  refine lv_aload_n C0.1 C0.2.1 dX4_valueOf_5 rfl (lv_at hl 0 rfl) ?_
  refine gf_X4_26 C0 w hO rfl dX4_valueOf_6 ?_
  refine lv_icmp_ge (tgt := 25) C0.1 C0.2.1 dX4_valueOf_9 (by decide) (fun c_9 => absurd c_9 (nI_ge hi (by omega))) (fun c_9 => ?_)
  refine lv_iload_n C0.1 C0.2.1 dX4_valueOf_12 rfl (lv_at hl 2 rfl) ?_
  refine lv_if_lt (tgt := 25) C0.1 C0.2.1 dX4_valueOf_13 (by decide) (fun c_13 => absurd c_13 (nI_pos (by omega))) (fun c_13 => ?_)
  refine lv_iload_n C0.1 C0.2.1 dX4_valueOf_16 rfl (lv_at hl 2 rfl) ?_
  refine lv_iconst (v := 4) C0.1 C0.2.1 dX4_valueOf_17 (by decide) ?_
  refine lv_icmp_ge (tgt := 25) C0.1 C0.2.1 dX4_valueOf_18 (by decide) (fun c_18 => absurd c_18 (show ¬ nI 4 ≤ nI k from nI_ge hk (by omega))) (fun c_18 => ?_)
  refine lv_iconst (v := 1) C0.1 C0.2.1 dX4_valueOf_21 (by decide) ?_
  refine lv_goto (tgt := 26) C0.1 C0.2.1 dX4_valueOf_22 (by decide) ?_
  refine lv_istore_n (lv' := [(3, .int 1), (0, .ref q), (1, .int (nI i)), (2, .int (nI k))]) C0.1 C0.2.1 dX4_valueOf_26 rfl hl (by decide) rfl (fun ls hl => ?_)
  refine lv_iload_n C0.1 C0.2.1 dX4_valueOf_27 rfl (lv_at hl 0 rfl) ?_
  refine lv_if_eq (tgt := 44) C0.1 C0.2.1 dX4_valueOf_28 (by decide) (fun h9 => absurd h9 (by decide)) (fun _ => ?_)
  refine lv_aload_n C0.1 C0.2.1 dX4_valueOf_31 rfl (lv_at hl 1 rfl) ?_
  refine gf_X4_19 C0 w hO rfl dX4_valueOf_32 ?_
  refine lv_iload_n C0.1 C0.2.1 dX4_valueOf_35 rfl (lv_at hl 2 rfl) ?_
  refine lv_iconst (v := 4) C0.1 C0.2.1 dX4_valueOf_36 (by decide) ?_
  refine lv_imul C0.1 C0.2.1 dX4_valueOf_37 ?_
  refine lv_iload_n C0.1 C0.2.1 dX4_valueOf_38 rfl (lv_at hl 3 rfl) ?_
  refine lv_iadd C0.1 C0.2.1 dX4_valueOf_39 ?_
  rw [rd_ix1 i k]
  refine hv_iald C0 w hL (hn_in (by omega) (by decide)) dX4_valueOf_40 ?_
  have hc1 : (nI (4 * i + k)).toNatClampNeg = (4 * i + k) := nI_clamp (by omega)
  rw [hc1]
  refine lv_goto (tgt := 45) C0.1 C0.2.1 dX4_valueOf_41 (by decide) ?_
  exact hv_iret C0 w hr hlk (⟨rfl, rfl⟩) dX4_valueOf_45

