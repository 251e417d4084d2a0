set_option maxHeartbeats 4000000 in
set_option maxRecDepth 100000 in
theorem c_X7_wordOf {l : Launch} {X : hv_X} {V : hv_V} {i : Nat} (hi5 : i < 5) : hv_Mr l X 0 yX7_wordOf cX7_wordOf 1 (.object "java/lang/String") V [.int (nI i)] (fun a V1 => V1 = V ∧ a = X.2.2.2.1 i) := by
  refine hv_enter (by decide) (Nat.le_of_ble_eq_true rfl) ?_
  intro p7 e s m below meth c7 ls C0 hr hlk hnm w hl
  have hl : lv_has ls 1 [(0, .int (nI i))] := hl
  refine lv_iload_n C0.1 C0.2.1 dX7_wordOf_0 rfl (lv_at hl 0 rfl) ?_
  by_cases c_1_0 : (nI i) = 0
  · refine lv_tableIn (off := 31) (tgt := 32) C0.1 C0.2.1 dX7_wordOf_1 (by rw [c_1_0]; decide) (by rw [c_1_0]; decide) (by rw [c_1_0]; rfl) (by decide) ?_
    refine hv_ldcS (i := 0) (tx := "spread") C0 (by decide) dX7_wordOf_32 ?_
    exact hv_aret C0 w hr (by first | exact Or.inl ⟨_, rfl⟩ | exact Or.inr ⟨_, rfl⟩) hlk (⟨rfl, by rw [(nI_eq (b := 0) (by omega) (by omega)).mp c_1_0]⟩) dX7_wordOf_34
  by_cases c_1_1 : (nI i) = 1
  · refine lv_tableIn (off := 34) (tgt := 35) C0.1 C0.2.1 dX7_wordOf_1 (by rw [c_1_1]; decide) (by rw [c_1_1]; decide) (by rw [c_1_1]; rfl) (by decide) ?_
    refine hv_ldcS (i := 1) (tx := "row") C0 (by decide) dX7_wordOf_35 ?_
    exact hv_aret C0 w hr (by first | exact Or.inl ⟨_, rfl⟩ | exact Or.inr ⟨_, rfl⟩) hlk (⟨rfl, by rw [(nI_eq (b := 1) (by omega) (by omega)).mp c_1_1]⟩) dX7_wordOf_37
  by_cases c_1_2 : (nI i) = 2
  · refine lv_tableIn (off := 37) (tgt := 38) C0.1 C0.2.1 dX7_wordOf_1 (by rw [c_1_2]; decide) (by rw [c_1_2]; decide) (by rw [c_1_2]; rfl) (by decide) ?_
    refine hv_ldcS (i := 2) (tx := "add") C0 (by decide) dX7_wordOf_38 ?_
    exact hv_aret C0 w hr (by first | exact Or.inl ⟨_, rfl⟩ | exact Or.inr ⟨_, rfl⟩) hlk (⟨rfl, by rw [(nI_eq (b := 2) (by omega) (by omega)).mp c_1_2]⟩) dX7_wordOf_40
  by_cases c_1_3 : (nI i) = 3
  · refine lv_tableIn (off := 40) (tgt := 41) C0.1 C0.2.1 dX7_wordOf_1 (by rw [c_1_3]; decide) (by rw [c_1_3]; decide) (by rw [c_1_3]; rfl) (by decide) ?_
    refine hv_ldcS (i := 3) (tx := "cut") C0 (by decide) dX7_wordOf_41 ?_
    exact hv_aret C0 w hr (by first | exact Or.inl ⟨_, rfl⟩ | exact Or.inr ⟨_, rfl⟩) hlk (⟨rfl, by rw [(nI_eq (b := 3) (by omega) (by omega)).mp c_1_3]⟩) dX7_wordOf_43
  have tc_1_0 : (nI i).toInt ≠ 0 := fun h9 => c_1_0 (Int32.toInt_inj.mp (h9.trans (by decide)))
  have tc_1_1 : (nI i).toInt ≠ 1 := fun h9 => c_1_1 (Int32.toInt_inj.mp (h9.trans (by decide)))
  have tc_1_2 : (nI i).toInt ≠ 2 := fun h9 => c_1_2 (Int32.toInt_inj.mp (h9.trans (by decide)))
  have tc_1_3 : (nI i).toInt ≠ 3 := fun h9 => c_1_3 (Int32.toInt_inj.mp (h9.trans (by decide)))
  refine lv_tableOut (tgt := 44) C0.1 C0.2.1 dX7_wordOf_1 (by omega) (by decide) ?_
  refine hv_ldcS (i := 4) (tx := "copy") C0 (by decide) dX7_wordOf_44 ?_
  exact hv_aret C0 w hr (by first | exact Or.inl ⟨_, rfl⟩ | exact Or.inr ⟨_, rfl⟩) hlk (⟨rfl, by rw [show i = 4 from by rcases (show i = 0 ∨ i = 1 ∨ i = 2 ∨ i = 3 ∨ i = 4 by omega) with rfl | rfl | rfl | rfl | rfl <;> first | rfl | exact absurd rfl c_1_0 | exact absurd rfl c_1_1 | exact absurd rfl c_1_2 | exact absurd rfl c_1_3]⟩) dX7_wordOf_46

set_option maxHeartbeats 4000000 in
set_option maxRecDepth 100000 in
theorem c_X7_isDigit {l : Launch} {X : hv_X} {V : hv_V} {mo n p : Nat} {ab be : Int64} {se ev bk : Nat} {cl sg ik : Int32} {f : Nat → Int32} (hO : V mo = some (mE mo ab be n (nI p) cl sg se ev bk ik)) (hT : V (mo + 10) = some (bE X 100 f)) (hn : n ≤ 100) (hp : p ≤ n)  : hv_Mi l X 1 yX7_isDigit cX7_isDigit 1 .boolean V [.ref mo] (fun y V1 => V1 = V ∧ hv_B (p < n ∧ 48 ≤ f p ∧ f p ≤ 57) y) := by
  refine hv_enter (by decide) (Nat.le_of_ble_eq_true rfl) ?_
  intro p7 e s m below meth c7 ls C0 hr hlk hnm w hl
  have hl : lv_has ls 1 [(0, .ref mo)] := hl
  refine lv_aload_n C0.1 C0.2.1 dX7_isDigit_0 rfl (lv_at hl 0 rfl) ?_
  refine gf_X7_176 C0 w hO rfl dX7_isDigit_1 ?_
  refine lv_aload_n C0.1 C0.2.1 dX7_isDigit_4 rfl (lv_at hl 0 rfl) ?_
  refine gf_X7_162 C0 w hO rfl dX7_isDigit_5 ?_
  refine lv_icmp_ge (tgt := 34) C0.1 C0.2.1 dX7_isDigit_8 (by decide) (fun c_8 => ?_) (fun c_8 => ?_)
  · skip
    refine lv_iconst (v := 0) C0.1 C0.2.1 dX7_isDigit_34 (by decide) ?_
    exact hv_zret C0 w hr hlk (by decide) (⟨rfl, Or.inr ⟨rfl, fun h9 => absurd h9.1 (Nat.not_lt.mpr ((nI_leI (by omega) (by omega)).mp c_8))⟩⟩) dX7_isDigit_35
  · skip
    have hlt : p < n := (nI_ltI (by omega) (by omega)).mp (Int32.not_le.mp c_8)
    refine lv_aload_n C0.1 C0.2.1 dX7_isDigit_11 rfl (lv_at hl 0 rfl) ?_
    refine gf_X7_23 C0 w hO rfl dX7_isDigit_12 ?_
    refine lv_aload_n C0.1 C0.2.1 dX7_isDigit_15 rfl (lv_at hl 0 rfl) ?_
    refine gf_X7_176 C0 w hO rfl dX7_isDigit_16 ?_
    refine hv_bald C0 w hT (hn_in (by omega) (by decide)) dX7_isDigit_19 ?_
    have hc1 : (nI p).toNatClampNeg = p := nI_clamp (by omega)
    rw [hc1]
    refine lv_bipush (v := 48) C0.1 C0.2.1 dX7_isDigit_20 (by decide) ?_
    refine lv_bipush (v := 57) C0.1 C0.2.1 dX7_isDigit_22 (by decide) ?_
    refine hv_cSi (As := [.int (f p), .int 48, .int 57]) C0 w kl_X7_89 ks_X7_in (c_X7_in) (by decide) (by decide) rfl hl.1 rfl (Nat.le_of_ble_eq_true rfl) dX7_isDigit_24 ⟨Nat.le_refl _, Nat.le_refl _⟩ (fun x2 V3 Hq lq hp4 w => ?_)
    obtain ⟨e9, hz9⟩ := hp4
    rw [e9] at w; clear e9
    rcases hz9 with ⟨rfl, hb5⟩ | ⟨rfl, hb5⟩
    · skip
      refine lv_if_eq (tgt := 34) C0.1 C0.2.1 dX7_isDigit_27 (by decide) (fun h9 => absurd h9 (by decide)) (fun _ => ?_)
      refine lv_iconst (v := 1) C0.1 C0.2.1 dX7_isDigit_30 (by decide) ?_
      refine lv_goto (tgt := 35) C0.1 C0.2.1 dX7_isDigit_31 (by decide) ?_
      exact hv_zret C0 w hr hlk (by decide) (⟨rfl, Or.inl ⟨rfl, hlt, hb5⟩⟩) dX7_isDigit_35
    · skip
      refine lv_if_eq (tgt := 34) C0.1 C0.2.1 dX7_isDigit_27 (by decide) (fun _ => ?_) (fun h9 => absurd h9 (by decide))
      refine lv_iconst (v := 0) C0.1 C0.2.1 dX7_isDigit_34 (by decide) ?_
      exact hv_zret C0 w hr hlk (by decide) (⟨rfl, Or.inr ⟨rfl, fun h9 => hb5 h9.2⟩⟩) dX7_isDigit_35

set_option maxHeartbeats 4000000 in
set_option maxRecDepth 100000 in
theorem c_X7_begun {l : Launch} {X : hv_X} {V : hv_V} {mo n p i : Nat} {ab be : Int64} {se ev bk : Nat} {pl cl sg ik : Int32} {f : Nat → Int32} (hO : V mo = some (mE mo ab be n pl cl sg se ev bk ik)) (hT : V (mo + 10) = some (bE X 100 f)) (hn : n ≤ 100) (hp : p ≤ n) (hi5 : i < 5) : hv_Mi l X 4 yX7_begun cX7_begun 5 .int V [.ref mo, .int (nI i), .int (nI p)] (fun y V1 => V1 = V ∧ y = nI (rd_a (n, f) p i)) := by
  refine hv_enter (by decide) (Nat.le_of_ble_eq_true rfl) ?_
  intro p7 e s m below meth c7 ls C0 hr hlk hnm w hl
  have hl : lv_has ls 5 [(0, .ref mo), (1, .int (nI i)), (2, .int (nI p))] := hl
  have hi6 : i < 6 := by omega
  have hl6 := hv_lens i hi6
  have loop : ∀ (m9 k9 : Nat) (Hq : Heap) (lq : List Loc) (ls : Array Slot), (k9 + m9 = hv_len.getD i 0) → (rd_al (n, f) i p m9 k9 = rd_a (n, f) p i) → hv_w X s (V) Hq lq → lv_has ls 5 [(0, .ref mo), (2, .int (nI p)), (3, .ref (X.2.2.2.1 i)), (4, .int (nI k9))] → W p7 l e (hv_rm 4 0 0) s m ([.ref mo, .int (nI i), .int (nI p)] : List Value).toArray below meth c7 Hq lq 0 0 (MQ below (hv_Qi X (fun y V1 => V1 = V ∧ y = nI (rd_a (n, f) p i))) ([.ref mo, .int (nI i), .int (nI p)] : List Value).toArray s 0 0 X.2.2.1) (F0 m 8 ls []) := by
    intro m9
    induction m9 with
    | zero =>
      intro k9 Hq lq ls hi he w hl
      refine lv_iload C0.1 C0.2.1 dX7_begun_8 (lv_at hl 3 rfl) ?_
      refine lv_aload_n C0.1 C0.2.1 dX7_begun_10 rfl (lv_at hl 2 rfl) ?_
      refine hv_cTi (i := i) C0 w kl_X7_183 kv_J0_length_8abf5 rfl hi6 (c_J0_length hi6) (by decide) (by decide) rfl hl.1 rfl (Nat.le_of_ble_eq_true rfl) dX7_begun_11 ⟨Nat.le_refl _, Nat.le_refl _⟩ (fun x1 V2 Hq lq hp3 w => ?_)
      obtain ⟨e9, e8⟩ := hp3
      rw [e9] at w; rw [e8]; clear e9 e8
      refine lv_icmp_ge (tgt := 52) C0.1 C0.2.1 dX7_begun_14 (by decide) (fun c_14 => ?_) (fun c_14 => absurd (nI_le (by omega) (by omega)) c_14)
      refine lv_iload C0.1 C0.2.1 dX7_begun_52 (lv_at hl 3 rfl) ?_
      exact hv_iret C0 w hr hlk (⟨rfl, by rw [← he]; rfl⟩) dX7_begun_54
    | succ m9 ih =>
      intro k9 Hq lq ls hi he w hl
      refine lv_iload C0.1 C0.2.1 dX7_begun_8 (lv_at hl 3 rfl) ?_
      refine lv_aload_n C0.1 C0.2.1 dX7_begun_10 rfl (lv_at hl 2 rfl) ?_
      refine hv_cTi (i := i) C0 w kl_X7_183 kv_J0_length_8abf5 rfl hi6 (c_J0_length hi6) (by decide) (by decide) rfl hl.1 rfl (Nat.le_of_ble_eq_true rfl) dX7_begun_11 ⟨Nat.le_refl _, Nat.le_refl _⟩ (fun x1 V2 Hq lq hp3 w => ?_)
      obtain ⟨e9, e8⟩ := hp3
      rw [e9] at w; rw [e8]; clear e9 e8
      refine lv_icmp_ge (tgt := 52) C0.1 C0.2.1 dX7_begun_14 (by decide) (fun c_14 => absurd c_14 (nI_ge (by omega) (by omega))) (fun c_14 => ?_)
      refine lv_iload_n C0.1 C0.2.1 dX7_begun_17 rfl (lv_at hl 1 rfl) ?_
      refine lv_iload C0.1 C0.2.1 dX7_begun_18 (lv_at hl 3 rfl) ?_
      refine lv_iadd C0.1 C0.2.1 dX7_begun_20 ?_
      rw [nI_add p k9]
      refine lv_aload_n C0.1 C0.2.1 dX7_begun_21 rfl (lv_at hl 0 rfl) ?_
      refine gf_X7_162 C0 w hO rfl dX7_begun_22 ?_
      refine lv_icmp_ge (tgt := 52) C0.1 C0.2.1 dX7_begun_25 (by decide) (fun c_25 => ?_) (fun c_25 => ?_)
      · skip
        refine lv_iload C0.1 C0.2.1 dX7_begun_52 (lv_at hl 3 rfl) ?_
        exact hv_iret C0 w hr hlk (⟨rfl, by rw [← he, rd_al, if_neg (fun h9 => absurd (show p + k9 < n from h9.1) (Nat.not_lt.mpr ((nI_leI (by omega) (by omega)).mp c_25)))]⟩) dX7_begun_54
      · skip
        have hlt : p + k9 < n := (nI_ltI (by omega) (by omega)).mp (Int32.not_le.mp c_25)
        refine lv_aload_n C0.1 C0.2.1 dX7_begun_28 rfl (lv_at hl 0 rfl) ?_
        refine gf_X7_23 C0 w hO rfl dX7_begun_29 ?_
        refine lv_iload_n C0.1 C0.2.1 dX7_begun_32 rfl (lv_at hl 1 rfl) ?_
        refine lv_iload C0.1 C0.2.1 dX7_begun_33 (lv_at hl 3 rfl) ?_
        refine lv_iadd C0.1 C0.2.1 dX7_begun_35 ?_
        rw [nI_add p k9]
        refine hv_bald C0 w hT (hn_in (by omega) (by decide)) dX7_begun_36 ?_
        have hc4 : (nI (p + k9)).toNatClampNeg = (p + k9) := nI_clamp (by omega)
        rw [hc4]
        refine lv_aload_n C0.1 C0.2.1 dX7_begun_37 rfl (lv_at hl 2 rfl) ?_
        refine lv_iload C0.1 C0.2.1 dX7_begun_38 (lv_at hl 3 rfl) ?_
        refine hv_cTi (i := i) C0 w kl_X7_189 kv_J0_charAt_5068e rfl hi6 (c_J0_charAt hi6 (k := k9) (by omega)) (by decide) (by decide) rfl hl.1 rfl (Nat.le_of_ble_eq_true rfl) dX7_begun_40 ⟨Nat.le_refl _, Nat.le_refl _⟩ (fun x5 V6 Hq lq hp7 w => ?_)
        obtain ⟨e9, e8⟩ := hp7
        rw [e9] at w; rw [e8]; clear e9 e8
        refine lv_icmp_ne (tgt := 52) C0.1 C0.2.1 dX7_begun_43 (by decide) (fun c_43 => ?_) (fun c_43 => ?_)
        · skip
          refine lv_iload C0.1 C0.2.1 dX7_begun_52 (lv_at hl 3 rfl) ?_
          exact hv_iret C0 w hr hlk (⟨rfl, by rw [← he, rd_al, if_neg (fun h9 => c_43 h9.2)]⟩) dX7_begun_54
        · skip
          refine lv_iinc (v := (nI k9) + 1) (lv' := [(4, .int ((nI k9) + 1)), (0, .ref mo), (2, .int (nI p)), (3, .ref (X.2.2.2.1 i))]) C0.1 C0.2.1 dX7_begun_46 hl (k := 3) rfl rfl (by decide) rfl (fun ls hl => ?_)
          refine lv_goto (tgt := 8) C0.1 C0.2.1 dX7_begun_49 (by decide) ?_
          exact ih (k9 + 1) _ _ ls (by omega) (by rw [← he, rd_al, if_pos ⟨hlt, c_43⟩]) w (by have h9 := (lv_sub (l' := [(0, .ref mo), (2, .int (nI p)), (3, .ref (X.2.2.2.1 i)), (4, .int (nI k9 + 1))]) hl [1, 2, 3, 0] rfl); rw [nI_1] at h9; exact h9)
  refine lv_iload_n C0.1 C0.2.1 dX7_begun_0 rfl (lv_at hl 1 rfl) ?_
  refine hv_cSr (As := [.int (nI i)]) C0 w kl_X7_179 ks_X7_wordOf (c_X7_wordOf (i := i) hi5) (by decide) (by decide) rfl hl.1 rfl (Nat.le_of_ble_eq_true rfl) dX7_begun_1 ⟨Nat.le_refl _, Nat.le_refl _⟩ (fun x1 V2 Hq lq hp3 w => ?_)
  obtain ⟨e9, e8⟩ := hp3
  rw [e9] at w; rw [e8]; clear e9 e8
  refine lv_astore_n (lv' := [(3, .ref (X.2.2.2.1 i)), (0, .ref mo), (1, .int (nI i)), (2, .int (nI p))]) C0.1 C0.2.1 dX7_begun_4 rfl hl (by decide) rfl (fun ls hl => ?_)
  refine lv_iconst (v := 0) C0.1 C0.2.1 dX7_begun_5 (by decide) ?_
  refine lv_istore (lv' := [(4, .int 0), (3, .ref (X.2.2.2.1 i)), (0, .ref mo), (1, .int (nI i)), (2, .int (nI p))]) C0.1 C0.2.1 dX7_begun_6 hl (by decide) rfl (fun ls hl => ?_)
  have hl : lv_has ls 5 [(4, .int (nI 0)), (3, .ref (X.2.2.2.1 i)), (0, .ref mo), (1, .int (nI i)), (2, .int (nI p))] := by rw [show ((nI 0)) = (0) from rfl]; exact hl
  exact loop (hv_len.getD i 0) 0 _ _ ls (by omega) rfl w (lv_sub hl [2, 4, 1, 0] rfl)

set_option maxHeartbeats 4000000 in
set_option maxRecDepth 100000 in
theorem c_X7_takesWord {l : Launch} {X : hv_X} {V : hv_V} {mo n p c : Nat} {ab be : Int64} {se ev bk : Nat} {sg ik : Int32} {f : Nat → Int32} (hO : V mo = some (mE mo ab be n (nI p) (nI c) sg se ev bk ik)) (hT : V (mo + 10) = some (bE X 100 f)) (hn : n ≤ 100) (hp : p ≤ n) (hc : c < 12) {wd : Nat → Int32} (hW : V (mo + 11) = some (iE X 12 wd))  : hv_Mi l X 5 yX7_takesWord cX7_takesWord 3 .boolean V [.ref mo] (fun y V1 => ∃ wd1 : Nat → Int32, V1 = hv_up (hv_up V mo (mE mo ab be n (nI (p + (rd_w (n, f) p).2)) (nI c) sg se ev bk ik)) (mo + 11) (iE X 12 wd1) ∧ (∀ j, j < c → wd1 j = wd j) ∧ ((y = 1 ∧ (rd_w (n, f) p).1 < 5 ∧ wd1 c = nI (rd_w (n, f) p).1) ∨ (y = 0 ∧ (rd_w (n, f) p).1 = 5))) := by
  refine hv_enter (by decide) (Nat.le_of_ble_eq_true rfl) ?_
  intro p7 e s m below meth c7 ls C0 hr hlk hnm w hl
  have hl : lv_has ls 3 [(0, .ref mo)] := hl
  have loop : ∀ (m9 b9 w9 : Nat) (Hq : Heap) (lq : List Loc) (ls : Array Slot), (w9 + m9 = 5) → (b9 < 5) → (rd_best (n, f) p m9 w9 b9 = rd_best (n, f) p 4 1 0) → hv_w X s (V) Hq lq → lv_has ls 3 [(0, .ref mo), (1, .int (nI b9)), (2, .int (nI w9))] → W p7 l e (hv_rm 5 0 0) s m ([.ref mo] : List Value).toArray below meth c7 Hq lq 0 0 (MQ below (hv_Qi X (fun y V1 => ∃ wd1 : Nat → Int32, V1 = hv_up (hv_up V mo (mE mo ab be n (nI (p + (rd_w (n, f) p).2)) (nI c) sg se ev bk ik)) (mo + 11) (iE X 12 wd1) ∧ (∀ j, j < c → wd1 j = wd j) ∧ ((y = 1 ∧ (rd_w (n, f) p).1 < 5 ∧ wd1 c = nI (rd_w (n, f) p).1) ∨ (y = 0 ∧ (rd_w (n, f) p).1 = 5)))) ([.ref mo] : List Value).toArray s 0 0 X.2.2.1) (F0 m 4 ls []) := by
    intro m9
    induction m9 with
    | zero =>
      intro b9 w9 Hq lq ls hi hb5 he w hl
      have hg9 : rd_good (n, f) p b9 := by rw [show b9 = rd_best (n, f) p 4 1 0 from he]; exact rd_bw (n, f) p
      have ha1 : rd_a (n, f) p b9 ≤ 6 := Nat.le_trans rd_ab (hv_lens _ (by omega))
      have ha2 := hv_lens b9 (by omega)
      refine lv_iload_n C0.1 C0.2.1 dX7_takesWord_4 rfl (lv_at hl 2 rfl) ?_
      refine lv_iconst (v := 5) C0.1 C0.2.1 dX7_takesWord_5 (by decide) ?_
      refine lv_icmp_ge (tgt := 38) C0.1 C0.2.1 dX7_takesWord_6 (by decide) (fun c_6 => ?_) (fun c_6 => absurd (show nI 5 ≤ nI w9 from nI_le (by omega) (by omega)) c_6)
      refine lv_aload_n C0.1 C0.2.1 dX7_takesWord_38 rfl (lv_at hl 0 rfl) ?_
      refine gf_X7_27 C0 w hO rfl dX7_takesWord_39 ?_
      refine lv_aload_n C0.1 C0.2.1 dX7_takesWord_42 rfl (lv_at hl 0 rfl) ?_
      refine gf_X7_197 C0 w hO rfl dX7_takesWord_43 ?_
      refine lv_iload_n C0.1 C0.2.1 dX7_takesWord_46 rfl (lv_at hl 1 rfl) ?_
      refine hv_iast C0 w hW (hn_in hc (by decide)) dX7_takesWord_47 (fun Hq lq w => ?_)
      have hc1 : (nI c).toNatClampNeg = c := nI_clamp (by omega)
      rw [hc1] at w
      obtain ⟨V2, eV3⟩ : ∃ W9, W9 = hv_up V (mo + 11) (.inl (X.2.1 0, 12, .inl (upd wd c (nI b9)))) := ⟨_, rfl⟩
      have w : hv_w X s V2 Hq lq := by rw [eV3]; exact w
      have hV4 : V2 mo = some (.inr (7, [.ref (mo + 1), .ref (mo + 2), .ref (mo + 3), .long ab, .long be, .ref (mo + 10), .int (nI n), .int (nI p), .int (nI c), .ref (mo + 11), .ref (mo + 12), .ref (mo + 13), .int sg, .ref (mo + 14), .ref (mo + 15), .ref (mo + 16), .ref (mo + 17), .int (nI se), .ref (mo + 18), .ref (mo + 19), .int (nI ev), .ref (mo + 20), .ref (mo + 21), .ref (mo + 22), .int (nI bk), .int ik, .ref (mo + 23), .ref (mo + 24), .ref (mo + 25), .ref (mo + 26), .ref (mo + 33), .ref (mo + 41), .ref (mo + 42), .ref (mo + 43)])) := by rw [eV3, hv_un (by omega)]; exact hO
      have hV5 : V2 (mo + 10) = some (.inl (X.2.1 2, 100, .inl f)) := by rw [eV3, hv_un (by omega)]; exact hT
      have hV7 : V2 (mo + 11) = some (.inl (X.2.1 0, 12, .inl (upd wd c (nI b9)))) := by rw [eV3]; exact hv_us
      refine lv_aload_n C0.1 C0.2.1 dX7_takesWord_48 rfl (lv_at hl 0 rfl) ?_
      refine lv_iload_n C0.1 C0.2.1 dX7_takesWord_49 rfl (lv_at hl 1 rfl) ?_
      refine lv_aload_n C0.1 C0.2.1 dX7_takesWord_50 rfl (lv_at hl 0 rfl) ?_
      refine gf_X7_176 C0 w hV4 rfl dX7_takesWord_51 ?_
      refine hv_cVi C0 w kl_X7_193 kv_X7_begun rfl hV4 (c_X7_begun (i := b9) (p := p) hV4 hV5 hn hp (by omega)) (by decide) (by decide) rfl hl.1 rfl (Nat.le_of_ble_eq_true rfl) dX7_takesWord_54 ⟨Nat.le_refl _, Nat.le_refl _⟩ (fun x8 V9 Hq lq hp10 w => ?_)
      obtain ⟨e9, e8⟩ := hp10
      rw [e9] at w; rw [e8]; clear e9 e8
      refine lv_istore_n (lv' := [(2, .int (nI (rd_a (n, f) p b9))), (0, .ref mo), (1, .int (nI b9))]) C0.1 C0.2.1 dX7_takesWord_57 rfl hl (by decide) rfl (fun ls hl => ?_)
      refine lv_aload_n C0.1 C0.2.1 dX7_takesWord_58 rfl (lv_at hl 1 rfl) ?_
      refine lv_dup C0.1 C0.2.1 dX7_takesWord_59 rfl ?_
      refine gf_X7_176 C0 w hV4 rfl dX7_takesWord_60 ?_
      refine lv_iload_n C0.1 C0.2.1 dX7_takesWord_63 rfl (lv_at hl 0 rfl) ?_
      refine lv_iadd C0.1 C0.2.1 dX7_takesWord_64 ?_
      rw [nI_add p]
      refine pf_X7_176 C0 w hV4 (by simp) dX7_takesWord_65 (fun Hq lq w => ?_)
      obtain ⟨V11, eV12⟩ : ∃ W9, W9 = hv_up V2 mo (.inr (7, [.ref (mo + 1), .ref (mo + 2), .ref (mo + 3), .long ab, .long be, .ref (mo + 10), .int (nI n), .int (nI (p + rd_a (n, f) p b9)), .int (nI c), .ref (mo + 11), .ref (mo + 12), .ref (mo + 13), .int sg, .ref (mo + 14), .ref (mo + 15), .ref (mo + 16), .ref (mo + 17), .int (nI se), .ref (mo + 18), .ref (mo + 19), .int (nI ev), .ref (mo + 20), .ref (mo + 21), .ref (mo + 22), .int (nI bk), .int ik, .ref (mo + 23), .ref (mo + 24), .ref (mo + 25), .ref (mo + 26), .ref (mo + 33), .ref (mo + 41), .ref (mo + 42), .ref (mo + 43)])) := ⟨_, rfl⟩
      have w : hv_w X s V11 Hq lq := by rw [eV12]; exact w
      have hV14 : V11 (mo + 10) = some (.inl (X.2.1 2, 100, .inl f)) := by rw [eV12, hv_un (by omega)]; exact hV5
      have hV15 : V11 (mo + 11) = some (.inl (X.2.1 0, 12, .inl (upd wd c (nI b9)))) := by rw [eV12, hv_un (by omega)]; exact hV7
      have hV16 : V11 mo = some (.inr (7, [.ref (mo + 1), .ref (mo + 2), .ref (mo + 3), .long ab, .long be, .ref (mo + 10), .int (nI n), .int (nI (p + rd_a (n, f) p b9)), .int (nI c), .ref (mo + 11), .ref (mo + 12), .ref (mo + 13), .int sg, .ref (mo + 14), .ref (mo + 15), .ref (mo + 16), .ref (mo + 17), .int (nI se), .ref (mo + 18), .ref (mo + 19), .int (nI ev), .ref (mo + 20), .ref (mo + 21), .ref (mo + 22), .int (nI bk), .int ik, .ref (mo + 23), .ref (mo + 24), .ref (mo + 25), .ref (mo + 26), .ref (mo + 33), .ref (mo + 41), .ref (mo + 42), .ref (mo + 43)])) := by rw [eV12]; exact hv_us
      refine lv_iload_n C0.1 C0.2.1 dX7_takesWord_68 rfl (lv_at hl 0 rfl) ?_
      refine lv_iload_n C0.1 C0.2.1 dX7_takesWord_69 rfl (lv_at hl 2 rfl) ?_
      refine hv_cSr (As := [.int (nI b9)]) C0 w kl_X7_179 ks_X7_wordOf (c_X7_wordOf (i := b9) hb5) (by decide) (by decide) rfl hl.1 rfl (Nat.le_of_ble_eq_true rfl) dX7_takesWord_70 ⟨Nat.le_refl _, Nat.le_refl _⟩ (fun x17 V18 Hq lq hp19 w => ?_)
      obtain ⟨e9, e8⟩ := hp19
      rw [e9] at w; rw [e8]; clear e9 e8
      refine hv_cTi (i := b9) C0 w kl_X7_183 kv_J0_length_8abf5 rfl (by omega) (c_J0_length (by omega)) (by decide) (by decide) rfl hl.1 rfl (Nat.le_of_ble_eq_true rfl) dX7_takesWord_73 ⟨Nat.le_refl _, Nat.le_refl _⟩ (fun x20 V21 Hq lq hp22 w => ?_)
      obtain ⟨e9, e8⟩ := hp22
      rw [e9] at w; rw [e8]; clear e9 e8
      refine lv_icmp_ne (tgt := 83) C0.1 C0.2.1 dX7_takesWord_76 (by decide) (fun c_76 => ?_) (fun c_76 => ?_)
      · skip
        have hw9 := hg9.2.2 (fun h9 => c_76 (by rw [h9]))
        refine lv_iconst (v := 0) C0.1 C0.2.1 dX7_takesWord_83 (by decide) ?_
        exact hv_zret C0 w hr hlk (by decide) (⟨(upd wd c (nI b9)), by rw [eV12, eV3, hv_uc (by omega), hw9], (fun j hj => show upd wd c (nI b9) j = wd j from if_neg (by omega)), Or.inr ⟨rfl, by rw [hw9]⟩⟩) dX7_takesWord_84
      · skip
        have hw9 := hg9.2.1 ((nI_eq (by omega) (by omega)).mp c_76)
        refine lv_iconst (v := 1) C0.1 C0.2.1 dX7_takesWord_79 (by decide) ?_
        refine lv_goto (tgt := 84) C0.1 C0.2.1 dX7_takesWord_80 (by decide) ?_
        exact hv_zret C0 w hr hlk (by decide) (⟨(upd wd c (nI b9)), by rw [eV12, eV3, hv_uc (by omega), hw9], (fun j hj => show upd wd c (nI b9) j = wd j from if_neg (by omega)), Or.inl ⟨rfl, by rw [hw9]; exact hb5, by rw [hw9]; exact if_pos rfl⟩⟩) dX7_takesWord_84
    | succ m9 ih =>
      intro b9 w9 Hq lq ls hi hb5 he w hl
      refine lv_iload_n C0.1 C0.2.1 dX7_takesWord_4 rfl (lv_at hl 2 rfl) ?_
      refine lv_iconst (v := 5) C0.1 C0.2.1 dX7_takesWord_5 (by decide) ?_
      refine lv_icmp_ge (tgt := 38) C0.1 C0.2.1 dX7_takesWord_6 (by decide) (fun c_6 => absurd c_6 (show ¬ nI 5 ≤ nI w9 from nI_ge (by omega) (by omega))) (fun c_6 => ?_)
      have ha1 : rd_a (n, f) p b9 ≤ 6 := Nat.le_trans rd_ab (hv_lens _ (by omega))
      have ha2 : rd_a (n, f) p w9 ≤ 6 := Nat.le_trans rd_ab (hv_lens _ (by omega))
      refine lv_aload_n C0.1 C0.2.1 dX7_takesWord_9 rfl (lv_at hl 0 rfl) ?_
      refine lv_iload_n C0.1 C0.2.1 dX7_takesWord_10 rfl (lv_at hl 2 rfl) ?_
      refine lv_aload_n C0.1 C0.2.1 dX7_takesWord_11 rfl (lv_at hl 0 rfl) ?_
      refine gf_X7_176 C0 w hO rfl dX7_takesWord_12 ?_
      refine hv_cVi C0 w kl_X7_193 kv_X7_begun rfl hO (c_X7_begun (i := w9) (p := p) hO hT hn hp (by omega)) (by decide) (by decide) rfl hl.1 rfl (Nat.le_of_ble_eq_true rfl) dX7_takesWord_15 ⟨Nat.le_refl _, Nat.le_refl _⟩ (fun x1 V2 Hq lq hp3 w => ?_)
      obtain ⟨e9, e8⟩ := hp3
      rw [e9] at w; rw [e8]; clear e9 e8
      refine lv_aload_n C0.1 C0.2.1 dX7_takesWord_18 rfl (lv_at hl 0 rfl) ?_
      refine lv_iload_n C0.1 C0.2.1 dX7_takesWord_19 rfl (lv_at hl 1 rfl) ?_
      refine lv_aload_n C0.1 C0.2.1 dX7_takesWord_20 rfl (lv_at hl 0 rfl) ?_
      refine gf_X7_176 C0 w hO rfl dX7_takesWord_21 ?_
      refine hv_cVi C0 w kl_X7_193 kv_X7_begun rfl hO (c_X7_begun (i := b9) (p := p) hO hT hn hp (by omega)) (by decide) (by decide) rfl hl.1 rfl (Nat.le_of_ble_eq_true rfl) dX7_takesWord_24 ⟨Nat.le_refl _, Nat.le_refl _⟩ (fun x4 V5 Hq lq hp6 w => ?_)
      obtain ⟨e9, e8⟩ := hp6
      rw [e9] at w; rw [e8]; clear e9 e8
      refine lv_icmp_le (tgt := 32) C0.1 C0.2.1 dX7_takesWord_27 (by decide) (fun c_27 => ?_) (fun c_27 => ?_)
      · skip
        refine lv_iinc (v := (nI w9) + 1) (lv' := [(2, .int ((nI w9) + 1)), (0, .ref mo), (1, .int (nI b9))]) C0.1 C0.2.1 dX7_takesWord_32 hl (k := 2) rfl rfl (by decide) rfl (fun ls hl => ?_)
        refine lv_goto (tgt := 4) C0.1 C0.2.1 dX7_takesWord_35 (by decide) ?_
        exact ih b9 (w9 + 1) _ _ ls (by omega) (by omega) (by rw [← he, rd_bn (Nat.not_lt.mpr ((nI_leI (by omega) (by omega)).mp c_27))]) w (by have h9 := (lv_sub (l' := [(0, .ref mo), (1, .int (nI b9)), (2, .int (nI w9 + 1))]) hl [1, 2, 0] rfl); rw [nI_1] at h9; exact h9)
      · skip
        refine lv_iload_n C0.1 C0.2.1 dX7_takesWord_30 rfl (lv_at hl 2 rfl) ?_
        refine lv_istore_n (lv' := [(1, .int (nI w9)), (0, .ref mo), (2, .int (nI w9))]) C0.1 C0.2.1 dX7_takesWord_31 rfl hl (by decide) rfl (fun ls hl => ?_)
        refine lv_iinc (v := (nI w9) + 1) (lv' := [(2, .int ((nI w9) + 1)), (1, .int (nI w9)), (0, .ref mo)]) C0.1 C0.2.1 dX7_takesWord_32 hl (k := 2) rfl rfl (by decide) rfl (fun ls hl => ?_)
        refine lv_goto (tgt := 4) C0.1 C0.2.1 dX7_takesWord_35 (by decide) ?_
        exact ih w9 (w9 + 1) _ _ ls (by omega) (by omega) (by rw [← he, rd_bp (Nat.not_le.mp (fun h9 => c_27 (nI_le h9 (by omega))))]) w (by have h9 := (lv_sub (l' := [(0, .ref mo), (1, .int (nI w9)), (2, .int (nI w9 + 1))]) hl [2, 1, 0] rfl); rw [nI_1] at h9; exact h9)
  refine lv_iconst (v := 0) C0.1 C0.2.1 dX7_takesWord_0 (by decide) ?_
  refine lv_istore_n (lv' := [(1, .int 0), (0, .ref mo)]) C0.1 C0.2.1 dX7_takesWord_1 rfl hl (by decide) rfl (fun ls hl => ?_)
  refine lv_iconst (v := 1) C0.1 C0.2.1 dX7_takesWord_2 (by decide) ?_
  refine lv_istore_n (lv' := [(2, .int 1), (1, .int 0), (0, .ref mo)]) C0.1 C0.2.1 dX7_takesWord_3 rfl hl (by decide) rfl (fun ls hl => ?_)
  have hl : lv_has ls 3 [(2, .int 1), (1, .int (nI 0)), (0, .ref mo)] := by rw [show ((nI 0)) = (0) from rfl]; exact hl
  have hl : lv_has ls 3 [(2, .int (nI 1)), (1, .int (nI 0)), (0, .ref mo)] := by rw [show ((nI 1)) = (1) from rfl]; exact hl
  exact loop 4 0 1 _ _ ls (by omega) (by omega) rfl w (lv_sub hl [2, 1, 0] rfl)

set_option maxHeartbeats 4000000 in
set_option maxRecDepth 100000 in
theorem c_X7_takesNumber {l : Launch} {X : hv_X} {V : hv_V} {mo n p c : Nat} {ab be : Int64} {se ev bk : Nat} {sg ik : Int32} {f : Nat → Int32} (hO : V mo = some (mE mo ab be n (nI p) (nI c) sg se ev bk ik)) (hT : V (mo + 10) = some (bE X 100 f)) (hn : n ≤ 100) (hp : p ≤ n) (hc : c < 12) {td : Nat → Int32} (hL : V (mo + 12) = some (iE X 48 td)) {k : Nat} (hk : k < 4)  : hv_Mi l X 2 yX7_takesNumber cX7_takesNumber 4 .boolean V [.ref mo, .int (nI k)] (fun y V1 => ∃ td1 : Nat → Int32, V1 = hv_up (hv_up V mo (mE mo ab be n (nI (rd_e (n, f) p)) (nI c) sg se ev bk ik)) (mo + 12) (iE X 48 td1) ∧ (∀ j, j ≠ 4 * c + k → td1 j = td j) ∧ ((y = 1 ∧ rd_ok (n, f) p ∧ td1 (4 * c + k) = nI (rd_n (n, f) p)) ∨ (y = 0 ∧ ¬ rd_ok (n, f) p))) := by
  refine hv_enter (by decide) (Nat.le_of_ble_eq_true rfl) ?_
  intro p7 e s m below meth c7 ls C0 hr hlk hnm w hl
  have hl : lv_has ls 4 [(0, .ref mo), (1, .int (nI k))] := hl
  have loop : ∀ (hsp : rd_sp (n, f) p) (hd1 : p + 1 < n ∧ 48 ≤ f (p + 1) ∧ f (p + 1) ≤ 57) (m9 k9 p9 v9 : Nat) (Hq : Heap) (lq : List Loc) (ls : Array Slot), (k9 + m9 = 9) → (p9 = p + 1 + k9) → (p9 ≤ n) → (rd_d (n, f) m9 p9 v9 = rd_d (n, f) 9 (p + 1) 0) → hv_w X s (hv_up V mo (mE mo ab be n (nI p9) (nI c) sg se ev bk ik)) Hq lq → lv_has ls 4 [(0, .ref mo), (1, .int (nI k)), (2, .int (nI v9)), (3, .int (nI k9))] → W p7 l e (hv_rm 2 0 0) s m ([.ref mo, .int (nI k)] : List Value).toArray below meth c7 Hq lq 0 0 (MQ below (hv_Qi X (fun y V1 => ∃ td1 : Nat → Int32, V1 = hv_up (hv_up V mo (mE mo ab be n (nI (rd_e (n, f) p)) (nI c) sg se ev bk ik)) (mo + 12) (iE X 48 td1) ∧ (∀ j, j ≠ 4 * c + k → td1 j = td j) ∧ ((y = 1 ∧ rd_ok (n, f) p ∧ td1 (4 * c + k) = nI (rd_n (n, f) p)) ∨ (y = 0 ∧ ¬ rd_ok (n, f) p)))) ([.ref mo, .int (nI k)] : List Value).toArray s 0 0 X.2.2.1) (F0 m 50 ls []) := by
    intro hsp hd1 m9
    induction m9 with
    | zero =>
      intro k9 p9 v9 Hq lq ls hi hpe hpn he w hl
      obtain ⟨V8, e8⟩ : ∃ W9, W9 = hv_up V mo (mE mo ab be n (nI p9) (nI c) sg se ev bk ik) := ⟨_, rfl⟩
      rw [← e8] at w
      have q0 : V8 mo = some (.inr (7, [.ref (mo + 1), .ref (mo + 2), .ref (mo + 3), .long ab, .long be, .ref (mo + 10), .int (nI n), .int (nI p9), .int (nI c), .ref (mo + 11), .ref (mo + 12), .ref (mo + 13), .int sg, .ref (mo + 14), .ref (mo + 15), .ref (mo + 16), .ref (mo + 17), .int (nI se), .ref (mo + 18), .ref (mo + 19), .int (nI ev), .ref (mo + 20), .ref (mo + 21), .ref (mo + 22), .int (nI bk), .int ik, .ref (mo + 23), .ref (mo + 24), .ref (mo + 25), .ref (mo + 26), .ref (mo + 33), .ref (mo + 41), .ref (mo + 42), .ref (mo + 43)])) := by rw [e8]; exact hv_us
      have q1 : V8 (mo + 10) = some (.inl (X.2.1 2, 100, .inl f)) := by rw [e8, hv_un (by omega)]; exact hT
      have q2 : V8 (mo + 12) = some (.inl (X.2.1 0, 48, .inl td)) := by rw [e8, hv_un (by omega)]; exact hL
      refine lv_iload_n C0.1 C0.2.1 dX7_takesNumber_50 rfl (lv_at hl 3 rfl) ?_
      refine lv_bipush (v := 9) C0.1 C0.2.1 dX7_takesNumber_51 (by decide) ?_
      refine lv_icmp_ge (tgt := 97) C0.1 C0.2.1 dX7_takesNumber_53 (by decide) (fun c_53 => ?_) (fun c_53 => absurd (show nI 9 ≤ nI k9 from nI_le (by omega) (by omega)) c_53)
      have hx9 : rd_d (n, f) 9 (p + 1) 0 = (p9, v9) := he.symm
      have hok : rd_ok (n, f) p := ⟨hsp, by rw [hx9]; show p + 1 < p9; omega⟩
      refine lv_aload_n C0.1 C0.2.1 dX7_takesNumber_97 rfl (lv_at hl 0 rfl) ?_
      refine gf_X7_30 C0 w q0 rfl dX7_takesNumber_98 ?_
      refine lv_iconst (v := 4) C0.1 C0.2.1 dX7_takesNumber_101 (by decide) ?_
      refine lv_aload_n C0.1 C0.2.1 dX7_takesNumber_102 rfl (lv_at hl 0 rfl) ?_
      refine gf_X7_197 C0 w q0 rfl dX7_takesNumber_103 ?_
      refine lv_imul C0.1 C0.2.1 dX7_takesNumber_106 ?_
      refine lv_iload_n C0.1 C0.2.1 dX7_takesNumber_107 rfl (lv_at hl 1 rfl) ?_
      refine lv_iadd C0.1 C0.2.1 dX7_takesNumber_108 ?_
      rw [rd_ix2 c k]
      refine lv_iload_n C0.1 C0.2.1 dX7_takesNumber_109 rfl (lv_at hl 2 rfl) ?_
      refine hv_iast C0 w q2 (hn_in (by omega) (by decide)) dX7_takesNumber_110 (fun Hq lq w => ?_)
      have hc1 : (nI (4 * c + k)).toNatClampNeg = (4 * c + k) := nI_clamp (by omega)
      rw [hc1] at w
      obtain ⟨V2, eV3⟩ : ∃ W9, W9 = hv_up V8 (mo + 12) (.inl (X.2.1 0, 48, .inl (upd td (4 * c + k) (nI v9)))) := ⟨_, rfl⟩
      have w : hv_w X s V2 Hq lq := by rw [eV3]; exact w
      have hV4 : V2 mo = some (.inr (7, [.ref (mo + 1), .ref (mo + 2), .ref (mo + 3), .long ab, .long be, .ref (mo + 10), .int (nI n), .int (nI p9), .int (nI c), .ref (mo + 11), .ref (mo + 12), .ref (mo + 13), .int sg, .ref (mo + 14), .ref (mo + 15), .ref (mo + 16), .ref (mo + 17), .int (nI se), .ref (mo + 18), .ref (mo + 19), .int (nI ev), .ref (mo + 20), .ref (mo + 21), .ref (mo + 22), .int (nI bk), .int ik, .ref (mo + 23), .ref (mo + 24), .ref (mo + 25), .ref (mo + 26), .ref (mo + 33), .ref (mo + 41), .ref (mo + 42), .ref (mo + 43)])) := by rw [eV3, hv_un (by omega)]; exact q0
      have hV5 : V2 (mo + 10) = some (.inl (X.2.1 2, 100, .inl f)) := by rw [eV3, hv_un (by omega)]; exact q1
      have hV7 : V2 (mo + 12) = some (.inl (X.2.1 0, 48, .inl (upd td (4 * c + k) (nI v9)))) := by rw [eV3]; exact hv_us
      refine lv_iconst (v := 1) C0.1 C0.2.1 dX7_takesNumber_111 (by decide) ?_
      exact hv_zret C0 w hr hlk (by decide) (⟨upd td (4 * c + k) (nI v9), by rw [eV3, e8, rd_e, if_pos hsp, hx9], fun j hj => if_neg hj, Or.inl ⟨rfl, hok, by rw [rd_n, hx9]; exact if_pos rfl⟩⟩) dX7_takesNumber_112
    | succ m9 ih =>
      intro k9 p9 v9 Hq lq ls hi hpe hpn he w hl
      obtain ⟨V8, e8⟩ : ∃ W9, W9 = hv_up V mo (mE mo ab be n (nI p9) (nI c) sg se ev bk ik) := ⟨_, rfl⟩
      rw [← e8] at w
      have q0 : V8 mo = some (.inr (7, [.ref (mo + 1), .ref (mo + 2), .ref (mo + 3), .long ab, .long be, .ref (mo + 10), .int (nI n), .int (nI p9), .int (nI c), .ref (mo + 11), .ref (mo + 12), .ref (mo + 13), .int sg, .ref (mo + 14), .ref (mo + 15), .ref (mo + 16), .ref (mo + 17), .int (nI se), .ref (mo + 18), .ref (mo + 19), .int (nI ev), .ref (mo + 20), .ref (mo + 21), .ref (mo + 22), .int (nI bk), .int ik, .ref (mo + 23), .ref (mo + 24), .ref (mo + 25), .ref (mo + 26), .ref (mo + 33), .ref (mo + 41), .ref (mo + 42), .ref (mo + 43)])) := by rw [e8]; exact hv_us
      have q1 : V8 (mo + 10) = some (.inl (X.2.1 2, 100, .inl f)) := by rw [e8, hv_un (by omega)]; exact hT
      have q2 : V8 (mo + 12) = some (.inl (X.2.1 0, 48, .inl td)) := by rw [e8, hv_un (by omega)]; exact hL
      refine lv_iload_n C0.1 C0.2.1 dX7_takesNumber_50 rfl (lv_at hl 3 rfl) ?_
      refine lv_bipush (v := 9) C0.1 C0.2.1 dX7_takesNumber_51 (by decide) ?_
      refine lv_icmp_ge (tgt := 97) C0.1 C0.2.1 dX7_takesNumber_53 (by decide) (fun c_53 => absurd c_53 (show ¬ nI 9 ≤ nI k9 from nI_ge (by omega) (by omega))) (fun c_53 => ?_)
      refine lv_aload_n C0.1 C0.2.1 dX7_takesNumber_56 rfl (lv_at hl 0 rfl) ?_
      refine hv_cVi C0 w kl_X7_200 kv_X7_isDigit rfl q0 (c_X7_isDigit (p := p9) q0 q1 hn (by omega)) (by decide) (by decide) rfl hl.1 rfl (Nat.le_of_ble_eq_true rfl) dX7_takesNumber_57 ⟨Nat.le_refl _, Nat.le_refl _⟩ (fun x1 V2 Hq lq hp3 w => ?_)
      obtain ⟨e9, hz9⟩ := hp3
      rw [e9] at w; clear e9
      rcases hz9 with ⟨rfl, hb4⟩ | ⟨rfl, hb4⟩
      · skip
        refine lv_if_eq (tgt := 97) C0.1 C0.2.1 dX7_takesNumber_60 (by decide) (fun h9 => absurd h9 (by decide)) (fun _ => ?_)
        have hlt := hb4.1
        refine lv_bipush (v := 10) C0.1 C0.2.1 dX7_takesNumber_63 (by decide) ?_
        refine lv_iload_n C0.1 C0.2.1 dX7_takesNumber_65 rfl (lv_at hl 2 rfl) ?_
        refine lv_imul C0.1 C0.2.1 dX7_takesNumber_66 ?_
        refine lv_aload_n C0.1 C0.2.1 dX7_takesNumber_67 rfl (lv_at hl 0 rfl) ?_
        refine gf_X7_23 C0 w q0 rfl dX7_takesNumber_68 ?_
        refine lv_aload_n C0.1 C0.2.1 dX7_takesNumber_71 rfl (lv_at hl 0 rfl) ?_
        refine gf_X7_176 C0 w q0 rfl dX7_takesNumber_72 ?_
        refine hv_bald C0 w q1 (hn_in (by omega) (by decide)) dX7_takesNumber_75 ?_
        have hc5 : (nI p9).toNatClampNeg = p9 := nI_clamp (by omega)
        rw [hc5]
        refine lv_iadd C0.1 C0.2.1 dX7_takesNumber_76 ?_
        refine lv_bipush (v := 48) C0.1 C0.2.1 dX7_takesNumber_77 (by decide) ?_
        refine lv_isub C0.1 C0.2.1 dX7_takesNumber_79 ?_
        rw [rd_st2 hb4.2]
        refine lv_istore_n (lv' := [(2, .int (nI (v9 * 10 + ((f p9).toNatClampNeg - 48)))), (0, .ref mo), (1, .int (nI k)), (3, .int (nI k9))]) C0.1 C0.2.1 dX7_takesNumber_80 rfl hl (by decide) rfl (fun ls hl => ?_)
        refine lv_aload_n C0.1 C0.2.1 dX7_takesNumber_81 rfl (lv_at hl 1 rfl) ?_
        refine lv_dup C0.1 C0.2.1 dX7_takesNumber_82 rfl ?_
        refine gf_X7_176 C0 w q0 rfl dX7_takesNumber_83 ?_
        refine lv_iconst (v := 1) C0.1 C0.2.1 dX7_takesNumber_86 (by decide) ?_
        refine lv_iadd C0.1 C0.2.1 dX7_takesNumber_87 ?_
        rw [nI_1 p9]
        refine pf_X7_176 C0 w q0 (by simp) dX7_takesNumber_88 (fun Hq lq w => ?_)
        obtain ⟨V6, eV7⟩ : ∃ W9, W9 = hv_up V8 mo (.inr (7, [.ref (mo + 1), .ref (mo + 2), .ref (mo + 3), .long ab, .long be, .ref (mo + 10), .int (nI n), .int (nI (p9 + 1)), .int (nI c), .ref (mo + 11), .ref (mo + 12), .ref (mo + 13), .int sg, .ref (mo + 14), .ref (mo + 15), .ref (mo + 16), .ref (mo + 17), .int (nI se), .ref (mo + 18), .ref (mo + 19), .int (nI ev), .ref (mo + 20), .ref (mo + 21), .ref (mo + 22), .int (nI bk), .int ik, .ref (mo + 23), .ref (mo + 24), .ref (mo + 25), .ref (mo + 26), .ref (mo + 33), .ref (mo + 41), .ref (mo + 42), .ref (mo + 43)])) := ⟨_, rfl⟩
        have w : hv_w X s V6 Hq lq := by rw [eV7]; exact w
        have hV9 : V6 (mo + 10) = some (.inl (X.2.1 2, 100, .inl f)) := by rw [eV7, hv_un (by omega)]; exact q1
        have hV10 : V6 (mo + 12) = some (.inl (X.2.1 0, 48, .inl td)) := by rw [eV7, hv_un (by omega)]; exact q2
        have hV11 : V6 mo = some (.inr (7, [.ref (mo + 1), .ref (mo + 2), .ref (mo + 3), .long ab, .long be, .ref (mo + 10), .int (nI n), .int (nI (p9 + 1)), .int (nI c), .ref (mo + 11), .ref (mo + 12), .ref (mo + 13), .int sg, .ref (mo + 14), .ref (mo + 15), .ref (mo + 16), .ref (mo + 17), .int (nI se), .ref (mo + 18), .ref (mo + 19), .int (nI ev), .ref (mo + 20), .ref (mo + 21), .ref (mo + 22), .int (nI bk), .int ik, .ref (mo + 23), .ref (mo + 24), .ref (mo + 25), .ref (mo + 26), .ref (mo + 33), .ref (mo + 41), .ref (mo + 42), .ref (mo + 43)])) := by rw [eV7]; exact hv_us
        refine lv_iinc (v := (nI k9) + 1) (lv' := [(3, .int ((nI k9) + 1)), (2, .int (nI (v9 * 10 + ((f p9).toNatClampNeg - 48)))), (0, .ref mo), (1, .int (nI k))]) C0.1 C0.2.1 dX7_takesNumber_91 hl (k := 3) rfl rfl (by decide) rfl (fun ls hl => ?_)
        refine lv_goto (tgt := 50) C0.1 C0.2.1 dX7_takesNumber_94 (by decide) ?_
        exact ih (k9 + 1) (p9 + 1) (v9 * 10 + ((f p9).toNatClampNeg - 48)) _ _ ls (by omega) (by omega) (by omega) (by rw [← he, rd_d, if_pos hb4]) (by rw [eV7, e8, hv_uu] at w; exact w) (by have h9 := (lv_sub (l' := [(0, .ref mo), (1, .int (nI k)), (2, .int (nI (v9 * 10 + ((f p9).toNatClampNeg - 48)))), (3, .int (nI k9 + 1))]) hl [2, 3, 1, 0] rfl); rw [nI_1] at h9; exact h9)
      · skip
        refine lv_if_eq (tgt := 97) C0.1 C0.2.1 dX7_takesNumber_60 (by decide) (fun _ => ?_) (fun h9 => absurd h9 (by decide))
        have hx9 : rd_d (n, f) 9 (p + 1) 0 = (p9, v9) := by rw [← he, rd_d, if_neg hb4]
        have hok : rd_ok (n, f) p := ⟨hsp, by rw [hx9]; show p + 1 < p9; rcases Nat.eq_zero_or_pos k9 with h9 | h9; exact absurd hd1 (by rw [show p + 1 = p9 by omega]; exact hb4); omega⟩
        refine lv_aload_n C0.1 C0.2.1 dX7_takesNumber_97 rfl (lv_at hl 0 rfl) ?_
        refine gf_X7_30 C0 w q0 rfl dX7_takesNumber_98 ?_
        refine lv_iconst (v := 4) C0.1 C0.2.1 dX7_takesNumber_101 (by decide) ?_
        refine lv_aload_n C0.1 C0.2.1 dX7_takesNumber_102 rfl (lv_at hl 0 rfl) ?_
        refine gf_X7_197 C0 w q0 rfl dX7_takesNumber_103 ?_
        refine lv_imul C0.1 C0.2.1 dX7_takesNumber_106 ?_
        refine lv_iload_n C0.1 C0.2.1 dX7_takesNumber_107 rfl (lv_at hl 1 rfl) ?_
        refine lv_iadd C0.1 C0.2.1 dX7_takesNumber_108 ?_
        rw [rd_ix2 c k]
        refine lv_iload_n C0.1 C0.2.1 dX7_takesNumber_109 rfl (lv_at hl 2 rfl) ?_
        refine hv_iast C0 w q2 (hn_in (by omega) (by decide)) dX7_takesNumber_110 (fun Hq lq w => ?_)
        have hc12 : (nI (4 * c + k)).toNatClampNeg = (4 * c + k) := nI_clamp (by omega)
        rw [hc12] at w
        obtain ⟨V13, eV14⟩ : ∃ W9, W9 = hv_up V8 (mo + 12) (.inl (X.2.1 0, 48, .inl (upd td (4 * c + k) (nI v9)))) := ⟨_, rfl⟩
        have w : hv_w X s V13 Hq lq := by rw [eV14]; exact w
        have hV15 : V13 mo = some (.inr (7, [.ref (mo + 1), .ref (mo + 2), .ref (mo + 3), .long ab, .long be, .ref (mo + 10), .int (nI n), .int (nI p9), .int (nI c), .ref (mo + 11), .ref (mo + 12), .ref (mo + 13), .int sg, .ref (mo + 14), .ref (mo + 15), .ref (mo + 16), .ref (mo + 17), .int (nI se), .ref (mo + 18), .ref (mo + 19), .int (nI ev), .ref (mo + 20), .ref (mo + 21), .ref (mo + 22), .int (nI bk), .int ik, .ref (mo + 23), .ref (mo + 24), .ref (mo + 25), .ref (mo + 26), .ref (mo + 33), .ref (mo + 41), .ref (mo + 42), .ref (mo + 43)])) := by rw [eV14, hv_un (by omega)]; exact q0
        have hV16 : V13 (mo + 10) = some (.inl (X.2.1 2, 100, .inl f)) := by rw [eV14, hv_un (by omega)]; exact q1
        have hV18 : V13 (mo + 12) = some (.inl (X.2.1 0, 48, .inl (upd td (4 * c + k) (nI v9)))) := by rw [eV14]; exact hv_us
        refine lv_iconst (v := 1) C0.1 C0.2.1 dX7_takesNumber_111 (by decide) ?_
        exact hv_zret C0 w hr hlk (by decide) (⟨upd td (4 * c + k) (nI v9), by rw [eV14, e8, rd_e, if_pos hsp, hx9], fun j hj => if_neg hj, Or.inl ⟨rfl, hok, by rw [rd_n, hx9]; exact if_pos rfl⟩⟩) dX7_takesNumber_112
  refine lv_aload_n C0.1 C0.2.1 dX7_takesNumber_0 rfl (lv_at hl 0 rfl) ?_
  refine gf_X7_176 C0 w hO rfl dX7_takesNumber_1 ?_
  refine lv_aload_n C0.1 C0.2.1 dX7_takesNumber_4 rfl (lv_at hl 0 rfl) ?_
  refine gf_X7_162 C0 w hO rfl dX7_takesNumber_5 ?_
  refine lv_icmp_ge (tgt := 25) C0.1 C0.2.1 dX7_takesNumber_8 (by decide) (fun c_8 => ?_) (fun c_8 => ?_)
  · skip
    refine lv_iconst (v := 0) C0.1 C0.2.1 dX7_takesNumber_25 (by decide) ?_
    exact hv_zret C0 w hr hlk (by decide) (⟨td, by rw [rd_e, if_neg (fun h9 => absurd (show p < n from h9.1) (Nat.not_lt.mpr ((nI_leI (by omega) (by omega)).mp c_8))), hv_id hO, hv_id hL], fun _ _ => rfl, Or.inr ⟨rfl, fun h8 => (fun h9 => absurd (show p < n from h9.1) (Nat.not_lt.mpr ((nI_leI (by omega) (by omega)).mp c_8))) h8.1⟩⟩) dX7_takesNumber_26
  · skip
    have hlt : p < n := (nI_ltI (by omega) (by omega)).mp (Int32.not_le.mp c_8)
    refine lv_aload_n C0.1 C0.2.1 dX7_takesNumber_11 rfl (lv_at hl 0 rfl) ?_
    refine gf_X7_23 C0 w hO rfl dX7_takesNumber_12 ?_
    refine lv_aload_n C0.1 C0.2.1 dX7_takesNumber_15 rfl (lv_at hl 0 rfl) ?_
    refine gf_X7_176 C0 w hO rfl dX7_takesNumber_16 ?_
    refine hv_bald C0 w hT (hn_in (by omega) (by decide)) dX7_takesNumber_19 ?_
    have hc1 : (nI p).toNatClampNeg = p := nI_clamp (by omega)
    rw [hc1]
    refine lv_bipush (v := 32) C0.1 C0.2.1 dX7_takesNumber_20 (by decide) ?_
    refine lv_icmp_eq (tgt := 27) C0.1 C0.2.1 dX7_takesNumber_22 (by decide) (fun c_22 => ?_) (fun c_22 => ?_)
    · skip
      refine lv_aload_n C0.1 C0.2.1 dX7_takesNumber_27 rfl (lv_at hl 0 rfl) ?_
      refine lv_dup C0.1 C0.2.1 dX7_takesNumber_28 rfl ?_
      refine gf_X7_176 C0 w hO rfl dX7_takesNumber_29 ?_
      refine lv_iconst (v := 1) C0.1 C0.2.1 dX7_takesNumber_32 (by decide) ?_
      refine lv_iadd C0.1 C0.2.1 dX7_takesNumber_33 ?_
      rw [nI_1 p]
      refine pf_X7_176 C0 w hO (by simp) dX7_takesNumber_34 (fun Hq lq w => ?_)
      obtain ⟨V2, eV3⟩ : ∃ W9, W9 = hv_up V mo (.inr (7, [.ref (mo + 1), .ref (mo + 2), .ref (mo + 3), .long ab, .long be, .ref (mo + 10), .int (nI n), .int (nI (p + 1)), .int (nI c), .ref (mo + 11), .ref (mo + 12), .ref (mo + 13), .int sg, .ref (mo + 14), .ref (mo + 15), .ref (mo + 16), .ref (mo + 17), .int (nI se), .ref (mo + 18), .ref (mo + 19), .int (nI ev), .ref (mo + 20), .ref (mo + 21), .ref (mo + 22), .int (nI bk), .int ik, .ref (mo + 23), .ref (mo + 24), .ref (mo + 25), .ref (mo + 26), .ref (mo + 33), .ref (mo + 41), .ref (mo + 42), .ref (mo + 43)])) := ⟨_, rfl⟩
      have w : hv_w X s V2 Hq lq := by rw [eV3]; exact w
      have hV5 : V2 (mo + 10) = some (.inl (X.2.1 2, 100, .inl f)) := by rw [eV3, hv_un (by omega)]; exact hT
      have hV6 : V2 (mo + 12) = some (.inl (X.2.1 0, 48, .inl td)) := by rw [eV3, hv_un (by omega)]; exact hL
      have hV7 : V2 mo = some (.inr (7, [.ref (mo + 1), .ref (mo + 2), .ref (mo + 3), .long ab, .long be, .ref (mo + 10), .int (nI n), .int (nI (p + 1)), .int (nI c), .ref (mo + 11), .ref (mo + 12), .ref (mo + 13), .int sg, .ref (mo + 14), .ref (mo + 15), .ref (mo + 16), .ref (mo + 17), .int (nI se), .ref (mo + 18), .ref (mo + 19), .int (nI ev), .ref (mo + 20), .ref (mo + 21), .ref (mo + 22), .int (nI bk), .int ik, .ref (mo + 23), .ref (mo + 24), .ref (mo + 25), .ref (mo + 26), .ref (mo + 33), .ref (mo + 41), .ref (mo + 42), .ref (mo + 43)])) := by rw [eV3]; exact hv_us
      refine lv_aload_n C0.1 C0.2.1 dX7_takesNumber_37 rfl (lv_at hl 0 rfl) ?_
      refine hv_cVi C0 w kl_X7_200 kv_X7_isDigit rfl hV7 (c_X7_isDigit (p := p + 1) hV7 hV5 hn (by omega)) (by decide) (by decide) rfl hl.1 rfl (Nat.le_of_ble_eq_true rfl) dX7_takesNumber_38 ⟨Nat.le_refl _, Nat.le_refl _⟩ (fun x8 V9 Hq lq hp10 w => ?_)
      obtain ⟨e9, hz9⟩ := hp10
      rw [e9] at w; clear e9
      rcases hz9 with ⟨rfl, hb11⟩ | ⟨rfl, hb11⟩
      · skip
        refine lv_if_ne (tgt := 46) C0.1 C0.2.1 dX7_takesNumber_41 (by decide) (fun _ => ?_) (fun h9 => absurd h9 (by decide))
        refine lv_iconst (v := 0) C0.1 C0.2.1 dX7_takesNumber_46 (by decide) ?_
        refine lv_istore_n (lv' := [(2, .int 0), (0, .ref mo), (1, .int (nI k))]) C0.1 C0.2.1 dX7_takesNumber_47 rfl hl (by decide) rfl (fun ls hl => ?_)
        refine lv_iconst (v := 0) C0.1 C0.2.1 dX7_takesNumber_48 (by decide) ?_
        refine lv_istore_n (lv' := [(3, .int 0), (2, .int 0), (0, .ref mo), (1, .int (nI k))]) C0.1 C0.2.1 dX7_takesNumber_49 rfl hl (by decide) rfl (fun ls hl => ?_)
        have hl : lv_has ls 4 [(3, .int 0), (2, .int (nI 0)), (0, .ref mo), (1, .int (nI k))] := by rw [show ((nI 0)) = (0) from rfl]; exact hl
        have hl : lv_has ls 4 [(3, .int (nI 0)), (2, .int (nI 0)), (0, .ref mo), (1, .int (nI k))] := by rw [show ((nI 0)) = (0) from rfl]; exact hl
        exact loop ⟨hlt, c_22⟩ hb11 9 0 (p + 1) 0 _ _ ls (by omega) (by omega) (by omega) rfl (by rw [eV3] at w; exact w) (lv_sub hl [2, 3, 1, 0] rfl)
      · skip
        refine lv_if_ne (tgt := 46) C0.1 C0.2.1 dX7_takesNumber_41 (by decide) (fun h9 => absurd h9 (by decide)) (fun _ => ?_)
        refine lv_iconst (v := 0) C0.1 C0.2.1 dX7_takesNumber_44 (by decide) ?_
        exact hv_zret C0 w hr hlk (by decide) (⟨td, by rw [eV3, rd_e, if_pos ⟨hlt, c_22⟩, (show rd_d (n, f) 9 (p + 1) 0 = (p + 1, 0) from by rw [rd_d, if_neg hb11]), hv_id (a := mo + 12) (by rw [hv_un (by omega)]; exact hL)], fun _ _ => rfl, Or.inr ⟨rfl, fun h8 => by have h7 := h8.2; rw [(show rd_d (n, f) 9 (p + 1) 0 = (p + 1, 0) from by rw [rd_d, if_neg hb11])] at h7; exact absurd h7 (Nat.lt_irrefl _)⟩⟩) dX7_takesNumber_45
    · skip
      refine lv_iconst (v := 0) C0.1 C0.2.1 dX7_takesNumber_25 (by decide) ?_
      exact hv_zret C0 w hr hlk (by decide) (⟨td, by rw [rd_e, if_neg (fun h9 => c_22 h9.2), hv_id hO, hv_id hL], fun _ _ => rfl, Or.inr ⟨rfl, fun h8 => (fun h9 => c_22 h9.2) h8.1⟩⟩) dX7_takesNumber_26

set_option maxHeartbeats 4000000 in
set_option maxRecDepth 100000 in
theorem c_X7_takesClause {l : Launch} {X : hv_X} {V : hv_V} {mo n p c : Nat} {ab be : Int64} {se ev bk : Nat} {sg ik : Int32} {f : Nat → Int32} (hO : V mo = some (mE mo ab be n (nI p) (nI c) sg se ev bk ik)) (hT : V (mo + 10) = some (bE X 100 f)) (hn : n ≤ 100) (hp : p ≤ n) (hc : c < 12) {wd : Nat → Int32} (hW : V (mo + 11) = some (iE X 12 wd)) {td : Nat → Int32} (hL : V (mo + 12) = some (iE X 48 td))  : hv_Mi l X 6 yX7_takesClause cX7_takesClause 3 .boolean V [.ref mo] (fun y V1 => ∃ (cl1 : Int32) (wd1 td1 : Nat → Int32), V1 = hv_up (hv_up (hv_up V mo (mE mo ab be n (nI (rd_c (n, f) p).2) cl1 sg se ev bk ik)) (mo + 11) (iE X 12 wd1)) (mo + 12) (iE X 48 td1) ∧ (∀ j, j < c → wd1 j = wd j) ∧ (∀ j, j < 4 * c → td1 j = td j) ∧ ((y = 1 ∧ (rd_c (n, f) p).1 = true ∧ cl1 = nI (c + 1) ∧ (rd_w (n, f) p).1 < 5 ∧ wd1 c = nI (rd_w (n, f) p).1 ∧ ∀ k, k < rd_due (rd_w (n, f) p).1 → td1 (4 * c + k) = nI (rd_n (n, f) (rd_q (n, f) p k))) ∨ (y = 0 ∧ ¬ (rd_c (n, f) p).1 = true ∧ cl1 = nI c))) := by
  refine hv_enter (by decide) (Nat.le_of_ble_eq_true rfl) ?_
  intro p7 e s m below meth c7 ls C0 hr hlk hnm w hl
  have hl : lv_has ls 3 [(0, .ref mo)] := hl
  have loop : ∀ (wd1 : Nat → Int32) (hw1 : ∀ j, j < c → wd1 j = wd j) (hwc : wd1 c = nI (rd_w (n, f) p).1) (hw5 : (rd_w (n, f) p).1 < 5) (m9 k9 : Nat) (td9 : Nat → Int32) (Hq : Heap) (lq : List Loc) (ls : Array Slot), (k9 + m9 = rd_due (rd_w (n, f) p).1) → (rd_cl (n, f) p m9 k9 = rd_c (n, f) p) → (∀ j, j < 4 * c → td9 j = td j) → (∀ k, k < k9 → td9 (4 * c + k) = nI (rd_n (n, f) (rd_q (n, f) p k))) → hv_w X s (hv_up (hv_up (hv_up V mo (mE mo ab be n (nI (rd_q (n, f) p k9)) (nI c) sg se ev bk ik)) (mo + 11) (iE X 12 wd1)) (mo + 12) (iE X 48 td9)) Hq lq → lv_has ls 3 [(0, .ref mo), (1, .int (nI (rd_due (rd_w (n, f) p).1))), (2, .int (nI k9))] → W p7 l e (hv_rm 6 0 0) s m ([.ref mo] : List Value).toArray below meth c7 Hq lq 0 0 (MQ below (hv_Qi X (fun y V1 => ∃ (cl1 : Int32) (wd1 td1 : Nat → Int32), V1 = hv_up (hv_up (hv_up V mo (mE mo ab be n (nI (rd_c (n, f) p).2) cl1 sg se ev bk ik)) (mo + 11) (iE X 12 wd1)) (mo + 12) (iE X 48 td1) ∧ (∀ j, j < c → wd1 j = wd j) ∧ (∀ j, j < 4 * c → td1 j = td j) ∧ ((y = 1 ∧ (rd_c (n, f) p).1 = true ∧ cl1 = nI (c + 1) ∧ (rd_w (n, f) p).1 < 5 ∧ wd1 c = nI (rd_w (n, f) p).1 ∧ ∀ k, k < rd_due (rd_w (n, f) p).1 → td1 (4 * c + k) = nI (rd_n (n, f) (rd_q (n, f) p k))) ∨ (y = 0 ∧ ¬ (rd_c (n, f) p).1 = true ∧ cl1 = nI c)))) ([.ref mo] : List Value).toArray s 0 0 X.2.2.1) (F0 m 29 ls []) := by
    intro wd1 hw1 hwc hw5 m9
    have hdue := rd_due4 (rd_w (n, f) p).1
    induction m9 with
    | zero =>
      intro k9 td9 Hq lq ls hi he hold hval w hl
      obtain ⟨V8, e8⟩ : ∃ W9, W9 = hv_up (hv_up (hv_up V mo (mE mo ab be n (nI (rd_q (n, f) p k9)) (nI c) sg se ev bk ik)) (mo + 11) (iE X 12 wd1)) (mo + 12) (iE X 48 td9) := ⟨_, rfl⟩
      rw [← e8] at w
      have q0 : V8 mo = some (.inr (7, [.ref (mo + 1), .ref (mo + 2), .ref (mo + 3), .long ab, .long be, .ref (mo + 10), .int (nI n), .int (nI (rd_q (n, f) p k9)), .int (nI c), .ref (mo + 11), .ref (mo + 12), .ref (mo + 13), .int sg, .ref (mo + 14), .ref (mo + 15), .ref (mo + 16), .ref (mo + 17), .int (nI se), .ref (mo + 18), .ref (mo + 19), .int (nI ev), .ref (mo + 20), .ref (mo + 21), .ref (mo + 22), .int (nI bk), .int ik, .ref (mo + 23), .ref (mo + 24), .ref (mo + 25), .ref (mo + 26), .ref (mo + 33), .ref (mo + 41), .ref (mo + 42), .ref (mo + 43)])) := by rw [e8, hv_un (by omega), hv_un (by omega)]; exact hv_us
      have q1 : V8 (mo + 10) = some (.inl (X.2.1 2, 100, .inl f)) := by rw [e8, hv_un (by omega), hv_un (by omega), hv_un (by omega)]; exact hT
      have q2 : V8 (mo + 11) = some (.inl (X.2.1 0, 12, .inl wd1)) := by rw [e8, hv_un (by omega)]; exact hv_us
      have q3 : V8 (mo + 12) = some (.inl (X.2.1 0, 48, .inl td9)) := by rw [e8]; exact hv_us
      refine lv_iload_n C0.1 C0.2.1 dX7_takesClause_29 rfl (lv_at hl 2 rfl) ?_
      refine lv_iload_n C0.1 C0.2.1 dX7_takesClause_30 rfl (lv_at hl 1 rfl) ?_
      refine lv_icmp_ge (tgt := 50) C0.1 C0.2.1 dX7_takesClause_31 (by decide) (fun c_31 => ?_) (fun c_31 => absurd (nI_le (by omega) (by omega)) c_31)
      refine lv_aload_n C0.1 C0.2.1 dX7_takesClause_50 rfl (lv_at hl 0 rfl) ?_
      refine lv_dup C0.1 C0.2.1 dX7_takesClause_51 rfl ?_
      refine gf_X7_197 C0 w q0 rfl dX7_takesClause_52 ?_
      refine lv_iconst (v := 1) C0.1 C0.2.1 dX7_takesClause_55 (by decide) ?_
      refine lv_iadd C0.1 C0.2.1 dX7_takesClause_56 ?_
      rw [nI_1 c]
      refine pf_X7_197 C0 w q0 (by simp) dX7_takesClause_57 (fun Hq lq w => ?_)
      obtain ⟨V1, eV2⟩ : ∃ W9, W9 = hv_up V8 mo (.inr (7, [.ref (mo + 1), .ref (mo + 2), .ref (mo + 3), .long ab, .long be, .ref (mo + 10), .int (nI n), .int (nI (rd_q (n, f) p k9)), .int (nI (c + 1)), .ref (mo + 11), .ref (mo + 12), .ref (mo + 13), .int sg, .ref (mo + 14), .ref (mo + 15), .ref (mo + 16), .ref (mo + 17), .int (nI se), .ref (mo + 18), .ref (mo + 19), .int (nI ev), .ref (mo + 20), .ref (mo + 21), .ref (mo + 22), .int (nI bk), .int ik, .ref (mo + 23), .ref (mo + 24), .ref (mo + 25), .ref (mo + 26), .ref (mo + 33), .ref (mo + 41), .ref (mo + 42), .ref (mo + 43)])) := ⟨_, rfl⟩
      have w : hv_w X s V1 Hq lq := by rw [eV2]; exact w
      have hV4 : V1 (mo + 10) = some (.inl (X.2.1 2, 100, .inl f)) := by rw [eV2, hv_un (by omega)]; exact q1
      have hV5 : V1 (mo + 11) = some (.inl (X.2.1 0, 12, .inl wd1)) := by rw [eV2, hv_un (by omega)]; exact q2
      have hV6 : V1 (mo + 12) = some (.inl (X.2.1 0, 48, .inl td9)) := by rw [eV2, hv_un (by omega)]; exact q3
      have hV7 : V1 mo = some (.inr (7, [.ref (mo + 1), .ref (mo + 2), .ref (mo + 3), .long ab, .long be, .ref (mo + 10), .int (nI n), .int (nI (rd_q (n, f) p k9)), .int (nI (c + 1)), .ref (mo + 11), .ref (mo + 12), .ref (mo + 13), .int sg, .ref (mo + 14), .ref (mo + 15), .ref (mo + 16), .ref (mo + 17), .int (nI se), .ref (mo + 18), .ref (mo + 19), .int (nI ev), .ref (mo + 20), .ref (mo + 21), .ref (mo + 22), .int (nI bk), .int ik, .ref (mo + 23), .ref (mo + 24), .ref (mo + 25), .ref (mo + 26), .ref (mo + 33), .ref (mo + 41), .ref (mo + 42), .ref (mo + 43)])) := by rw [eV2]; exact hv_us
      refine lv_iconst (v := 1) C0.1 C0.2.1 dX7_takesClause_60 (by decide) ?_
      exact hv_zret C0 w hr hlk (by decide) (⟨nI (c + 1), wd1, td9, by rw [eV2, e8, ← he]; exact rd_p3 (by omega) (by omega), hw1, hold, Or.inl ⟨rfl, by rw [← he]; rfl, rfl, hw5, hwc, fun k hk => hval k (by omega)⟩⟩) dX7_takesClause_61
    | succ m9 ih =>
      intro k9 td9 Hq lq ls hi he hold hval w hl
      obtain ⟨V8, e8⟩ : ∃ W9, W9 = hv_up (hv_up (hv_up V mo (mE mo ab be n (nI (rd_q (n, f) p k9)) (nI c) sg se ev bk ik)) (mo + 11) (iE X 12 wd1)) (mo + 12) (iE X 48 td9) := ⟨_, rfl⟩
      rw [← e8] at w
      have q0 : V8 mo = some (.inr (7, [.ref (mo + 1), .ref (mo + 2), .ref (mo + 3), .long ab, .long be, .ref (mo + 10), .int (nI n), .int (nI (rd_q (n, f) p k9)), .int (nI c), .ref (mo + 11), .ref (mo + 12), .ref (mo + 13), .int sg, .ref (mo + 14), .ref (mo + 15), .ref (mo + 16), .ref (mo + 17), .int (nI se), .ref (mo + 18), .ref (mo + 19), .int (nI ev), .ref (mo + 20), .ref (mo + 21), .ref (mo + 22), .int (nI bk), .int ik, .ref (mo + 23), .ref (mo + 24), .ref (mo + 25), .ref (mo + 26), .ref (mo + 33), .ref (mo + 41), .ref (mo + 42), .ref (mo + 43)])) := by rw [e8, hv_un (by omega), hv_un (by omega)]; exact hv_us
      have q1 : V8 (mo + 10) = some (.inl (X.2.1 2, 100, .inl f)) := by rw [e8, hv_un (by omega), hv_un (by omega), hv_un (by omega)]; exact hT
      have q2 : V8 (mo + 11) = some (.inl (X.2.1 0, 12, .inl wd1)) := by rw [e8, hv_un (by omega)]; exact hv_us
      have q3 : V8 (mo + 12) = some (.inl (X.2.1 0, 48, .inl td9)) := by rw [e8]; exact hv_us
      refine lv_iload_n C0.1 C0.2.1 dX7_takesClause_29 rfl (lv_at hl 2 rfl) ?_
      refine lv_iload_n C0.1 C0.2.1 dX7_takesClause_30 rfl (lv_at hl 1 rfl) ?_
      refine lv_icmp_ge (tgt := 50) C0.1 C0.2.1 dX7_takesClause_31 (by decide) (fun c_31 => absurd c_31 (nI_ge (by omega) (by omega))) (fun c_31 => ?_)
      refine lv_aload_n C0.1 C0.2.1 dX7_takesClause_34 rfl (lv_at hl 0 rfl) ?_
      refine lv_iload_n C0.1 C0.2.1 dX7_takesClause_35 rfl (lv_at hl 2 rfl) ?_
      refine hv_cVi C0 w kl_X7_206 kv_X7_takesNumber rfl q0 (c_X7_takesNumber (p := (rd_q (n, f) p k9)) (k := k9) q0 q1 hn (rd_qb (T := (n, f)) hp k9) hc q3 (by omega)) (by decide) (by decide) rfl hl.1 rfl (Nat.le_of_ble_eq_true rfl) dX7_takesClause_36 ⟨Nat.le_refl _, Nat.le_refl _⟩ (fun x1 V2 Hq lq hp3 w => ?_)
      obtain ⟨td1, e1, hk1, hz1⟩ := hp3
      rw [e8, rd_p4 (by omega) (by omega)] at e1
      have hV4 : V2 mo = some (.inr (7, [.ref (mo + 1), .ref (mo + 2), .ref (mo + 3), .long ab, .long be, .ref (mo + 10), .int (nI n), .int (nI (rd_e (n, f) (rd_q (n, f) p k9))), .int (nI c), .ref (mo + 11), .ref (mo + 12), .ref (mo + 13), .int sg, .ref (mo + 14), .ref (mo + 15), .ref (mo + 16), .ref (mo + 17), .int (nI se), .ref (mo + 18), .ref (mo + 19), .int (nI ev), .ref (mo + 20), .ref (mo + 21), .ref (mo + 22), .int (nI bk), .int ik, .ref (mo + 23), .ref (mo + 24), .ref (mo + 25), .ref (mo + 26), .ref (mo + 33), .ref (mo + 41), .ref (mo + 42), .ref (mo + 43)])) := by rw [e1, hv_un (by omega), hv_un (by omega)]; exact hv_us
      have hV5 : V2 (mo + 10) = some (.inl (X.2.1 2, 100, .inl f)) := by rw [e1, hv_un (by omega), hv_un (by omega), hv_un (by omega)]; exact hT
      have hV6 : V2 (mo + 11) = some (.inl (X.2.1 0, 12, .inl wd1)) := by rw [e1, hv_un (by omega)]; exact hv_us
      have hV7 : V2 (mo + 12) = some (.inl (X.2.1 0, 48, .inl td1)) := by rw [e1]; exact hv_us
      rcases hz1 with ⟨rfl, hok, hv1⟩ | ⟨rfl, hok⟩
      · skip
        refine lv_if_ne (tgt := 44) C0.1 C0.2.1 dX7_takesClause_39 (by decide) (fun _ => ?_) (fun h9 => absurd h9 (by decide))
        refine lv_iinc (v := (nI k9) + 1) (lv' := [(2, .int ((nI k9) + 1)), (0, .ref mo), (1, .int (nI (rd_due (rd_w (n, f) p).1)))]) C0.1 C0.2.1 dX7_takesClause_44 hl (k := 2) rfl rfl (by decide) rfl (fun ls hl => ?_)
        refine lv_goto (tgt := 29) C0.1 C0.2.1 dX7_takesClause_47 (by decide) ?_
        exact ih (k9 + 1) td1 _ _ ls (by omega) (by rw [← he, rd_cl, if_pos hok]) (fun j hj => (hk1 j (by omega)).trans (hold j hj)) (fun k hk => by
          by_cases q : k = k9
          · rw [q]; exact hv1
          · rw [hk1 _ (by omega)]; exact hval k (by omega)) (by rw [e1] at w; exact w) (by have h9 := (lv_sub (l' := [(0, .ref mo), (1, .int (nI (rd_due (rd_w (n, f) p).1))), (2, .int (nI k9 + 1))]) hl [1, 2, 0] rfl); rw [nI_1] at h9; exact h9)
      · skip
        refine lv_if_ne (tgt := 44) C0.1 C0.2.1 dX7_takesClause_39 (by decide) (fun h9 => absurd h9 (by decide)) (fun _ => ?_)
        refine lv_iconst (v := 0) C0.1 C0.2.1 dX7_takesClause_42 (by decide) ?_
        exact hv_zret C0 w hr hlk (by decide) (⟨nI c, wd1, td1, by rw [e1, ← he, rd_cl, if_neg hok], hw1, fun j hj => (hk1 j (by omega)).trans (hold j hj), Or.inr ⟨rfl, by rw [← he, rd_cl, if_neg hok]; exact Bool.false_ne_true, rfl⟩⟩) dX7_takesClause_43
  refine lv_aload_n C0.1 C0.2.1 dX7_takesClause_0 rfl (lv_at hl 0 rfl) ?_
  refine hv_cVi C0 w kl_X7_203 kv_X7_takesWord rfl hO (c_X7_takesWord hO hT hn hp hc hW) (by decide) (by decide) rfl hl.1 rfl (Nat.le_of_ble_eq_true rfl) dX7_takesClause_1 ⟨Nat.le_refl _, Nat.le_refl _⟩ (fun x1 V2 Hq lq hp3 w => ?_)
  obtain ⟨wd1, e1, hk1, hz1⟩ := hp3
  have hV4 : V2 mo = some (.inr (7, [.ref (mo + 1), .ref (mo + 2), .ref (mo + 3), .long ab, .long be, .ref (mo + 10), .int (nI n), .int (nI (p + (rd_w (n, f) p).2)), .int (nI c), .ref (mo + 11), .ref (mo + 12), .ref (mo + 13), .int sg, .ref (mo + 14), .ref (mo + 15), .ref (mo + 16), .ref (mo + 17), .int (nI se), .ref (mo + 18), .ref (mo + 19), .int (nI ev), .ref (mo + 20), .ref (mo + 21), .ref (mo + 22), .int (nI bk), .int ik, .ref (mo + 23), .ref (mo + 24), .ref (mo + 25), .ref (mo + 26), .ref (mo + 33), .ref (mo + 41), .ref (mo + 42), .ref (mo + 43)])) := by rw [e1, hv_un (by omega)]; exact hv_us
  have hV5 : V2 (mo + 11) = some (.inl (X.2.1 0, 12, .inl wd1)) := by rw [e1]; exact hv_us
  rcases hz1 with ⟨rfl, hw5, hwc⟩ | ⟨rfl, hw5⟩
  · skip
    refine lv_if_ne (tgt := 9) C0.1 C0.2.1 dX7_takesClause_4 (by decide) (fun _ => ?_) (fun h9 => absurd h9 (by decide))
    refine lv_aload_n C0.1 C0.2.1 dX7_takesClause_9 rfl (lv_at hl 0 rfl) ?_
    refine gf_X7_27 C0 w hV4 rfl dX7_takesClause_10 ?_
    refine lv_aload_n C0.1 C0.2.1 dX7_takesClause_13 rfl (lv_at hl 0 rfl) ?_
    refine gf_X7_197 C0 w hV4 rfl dX7_takesClause_14 ?_
    refine hv_iald C0 w hV5 (hn_in hc (by decide)) dX7_takesClause_17 ?_
    have hc6 : (nI c).toNatClampNeg = c := nI_clamp (by omega)
    rw [hc6]
    rw [hwc]
    refine lv_if_ne (tgt := 25) C0.1 C0.2.1 dX7_takesClause_18 (by decide) (fun c_18 => ?_) (fun c_18 => ?_)
    · skip
      refine lv_iconst (v := 2) C0.1 C0.2.1 dX7_takesClause_25 (by decide) ?_
      refine lv_istore_n (lv' := [(1, .int 2), (0, .ref mo)]) C0.1 C0.2.1 dX7_takesClause_26 rfl hl (by decide) rfl (fun ls hl => ?_)
      have hl : lv_has ls 3 [(1, .int (nI (rd_due (rd_w (n, f) p).1))), (0, .ref mo)] := by rw [show ((nI (rd_due (rd_w (n, f) p).1))) = (2) from (by rw [rd_due, if_neg (fun h9 => c_18 (by rw [h9]; rfl))]; rfl)]; exact hl
      refine lv_iconst (v := 0) C0.1 C0.2.1 dX7_takesClause_27 (by decide) ?_
      refine lv_istore_n (lv' := [(2, .int 0), (1, .int (nI (rd_due (rd_w (n, f) p).1))), (0, .ref mo)]) C0.1 C0.2.1 dX7_takesClause_28 rfl hl (by decide) rfl (fun ls hl => ?_)
      have hl : lv_has ls 3 [(2, .int (nI 0)), (1, .int (nI (rd_due (rd_w (n, f) p).1))), (0, .ref mo)] := by rw [show ((nI 0)) = (0) from rfl]; exact hl
      have he5 : rd_c (n, f) p = rd_cl (n, f) p (rd_due (rd_w (n, f) p).1) 0 := if_neg (by omega)
      exact loop wd1 hk1 hwc hw5 (rd_due (rd_w (n, f) p).1) 0 td _ _ ls (by omega) he5.symm (fun _ _ => rfl) (fun k hk => absurd hk (Nat.not_lt_zero k)) (by rw [hv_id (a := mo + 12) (by rw [hv_un (by omega), hv_un (by omega)]; exact hL)]; rw [e1] at w; exact w) (lv_sub hl [2, 1, 0] rfl)
    · skip
      refine lv_iconst (v := 4) C0.1 C0.2.1 dX7_takesClause_21 (by decide) ?_
      refine lv_goto (tgt := 26) C0.1 C0.2.1 dX7_takesClause_22 (by decide) ?_
      refine lv_istore_n (lv' := [(1, .int 4), (0, .ref mo)]) C0.1 C0.2.1 dX7_takesClause_26 rfl hl (by decide) rfl (fun ls hl => ?_)
      have hl : lv_has ls 3 [(1, .int (nI (rd_due (rd_w (n, f) p).1))), (0, .ref mo)] := by rw [show ((nI (rd_due (rd_w (n, f) p).1))) = (4) from (by rw [rd_due, if_pos ((nI_eq (b := 0) (by omega) (by omega)).mp c_18)]; rfl)]; exact hl
      refine lv_iconst (v := 0) C0.1 C0.2.1 dX7_takesClause_27 (by decide) ?_
      refine lv_istore_n (lv' := [(2, .int 0), (1, .int (nI (rd_due (rd_w (n, f) p).1))), (0, .ref mo)]) C0.1 C0.2.1 dX7_takesClause_28 rfl hl (by decide) rfl (fun ls hl => ?_)
      have hl : lv_has ls 3 [(2, .int (nI 0)), (1, .int (nI (rd_due (rd_w (n, f) p).1))), (0, .ref mo)] := by rw [show ((nI 0)) = (0) from rfl]; exact hl
      have he5 : rd_c (n, f) p = rd_cl (n, f) p (rd_due (rd_w (n, f) p).1) 0 := if_neg (by omega)
      exact loop wd1 hk1 hwc hw5 (rd_due (rd_w (n, f) p).1) 0 td _ _ ls (by omega) he5.symm (fun _ _ => rfl) (fun k hk => absurd hk (Nat.not_lt_zero k)) (by rw [hv_id (a := mo + 12) (by rw [hv_un (by omega), hv_un (by omega)]; exact hL)]; rw [e1] at w; exact w) (lv_sub hl [2, 1, 0] rfl)
  · skip
    refine lv_if_ne (tgt := 9) C0.1 C0.2.1 dX7_takesClause_4 (by decide) (fun h9 => absurd h9 (by decide)) (fun _ => ?_)
    refine lv_iconst (v := 0) C0.1 C0.2.1 dX7_takesClause_7 (by decide) ?_
    exact hv_zret C0 w hr hlk (by decide) (⟨nI c, wd1, td, by rw [e1, rd_c, if_pos hw5, hv_id (a := mo + 12) (by rw [hv_un (by omega), hv_un (by omega)]; exact hL)], hk1, fun _ _ => rfl, Or.inr ⟨rfl, by rw [rd_c, if_pos hw5]; exact Bool.false_ne_true, rfl⟩⟩) dX7_takesClause_8

set_option maxHeartbeats 4000000 in
set_option maxRecDepth 100000 in
theorem c_X7_takesAll {l : Launch} {X : hv_X} {V : hv_V} {mo n : Nat} {ab be : Int64} {se ev bk : Nat} {pl cl sg ik : Int32} {f : Nat → Int32} (hO : V mo = some (mE mo ab be n pl cl sg se ev bk ik)) (hT : V (mo + 10) = some (bE X 100 f)) (hn : n ≤ 100) {wd : Nat → Int32} (hW : V (mo + 11) = some (iE X 12 wd)) {td : Nat → Int32} (hL : V (mo + 12) = some (iE X 48 td))  : hv_Mi l X 7 yX7_takesAll cX7_takesAll 1 .boolean V [.ref mo] (fun y V1 => ∃ wd1 td1 : Nat → Int32, V1 = hv_up (hv_up (hv_up V mo (mE mo ab be n (nI (rd_all (n, f) 12 0).2.1) (nI (rd_all (n, f) 12 0).2.2) sg se ev bk ik)) (mo + 11) (iE X 12 wd1)) (mo + 12) (iE X 48 td1) ∧ ((y = 1 ∧ (rd_all (n, f) 12 0).1 = true ∧ rd_h (n, f) (rd_all (n, f) 12 0).2.2 wd1 td1) ∨ (y = 0 ∧ ¬ (rd_all (n, f) 12 0).1 = true))) := by
  refine hv_enter (by decide) (Nat.le_of_ble_eq_true rfl) ?_
  intro p7 e s m below meth c7 ls C0 hr hlk hnm w hl
  have hl : lv_has ls 1 [(0, .ref mo)] := hl
  have loop : ∀ (m9 k8 : Nat) (wd9 td9 : Nat → Int32) (Hq : Heap) (lq : List Loc) (ls : Array Slot), (k8 + 1 + m9 = 12) → ((rd_c (n, f) (rd_P (n, f) k8)).2 ≤ n) → ((rd_c (n, f) (rd_P (n, f) k8)).1 = true) → (rd_all (n, f) (m9 + 1) k8 = (rd_all (n, f) 12 0)) → (rd_h (n, f) (k8 + 1) wd9 td9) → hv_w X s (hv_up (hv_up (hv_up V mo (mE mo ab be n (nI (rd_c (n, f) (rd_P (n, f) k8)).2) (nI (k8 + 1)) sg se ev bk ik)) (mo + 11) (iE X 12 wd9)) (mo + 12) (iE X 48 td9)) Hq lq → lv_has ls 1 [(0, .ref mo)] → W p7 l e (hv_rm 7 0 0) s m ([.ref mo] : List Value).toArray below meth c7 Hq lq 0 0 (MQ below (hv_Qi X (fun y V1 => ∃ wd1 td1 : Nat → Int32, V1 = hv_up (hv_up (hv_up V mo (mE mo ab be n (nI (rd_all (n, f) 12 0).2.1) (nI (rd_all (n, f) 12 0).2.2) sg se ev bk ik)) (mo + 11) (iE X 12 wd1)) (mo + 12) (iE X 48 td1) ∧ ((y = 1 ∧ (rd_all (n, f) 12 0).1 = true ∧ rd_h (n, f) (rd_all (n, f) 12 0).2.2 wd1 td1) ∨ (y = 0 ∧ ¬ (rd_all (n, f) 12 0).1 = true)))) ([.ref mo] : List Value).toArray s 0 0 X.2.2.1) (F0 m 19 ls []) := by
    intro m9
    induction m9 with
    | zero =>
      intro k8 wd9 td9 Hq lq ls hi hcn hg9 he hh w hl
      obtain ⟨V8, e8⟩ : ∃ W9, W9 = hv_up (hv_up (hv_up V mo (mE mo ab be n (nI (rd_c (n, f) (rd_P (n, f) k8)).2) (nI (k8 + 1)) sg se ev bk ik)) (mo + 11) (iE X 12 wd9)) (mo + 12) (iE X 48 td9) := ⟨_, rfl⟩
      rw [← e8] at w
      have q0 : V8 mo = some (.inr (7, [.ref (mo + 1), .ref (mo + 2), .ref (mo + 3), .long ab, .long be, .ref (mo + 10), .int (nI n), .int (nI (rd_c (n, f) (rd_P (n, f) k8)).2), .int (nI (k8 + 1)), .ref (mo + 11), .ref (mo + 12), .ref (mo + 13), .int sg, .ref (mo + 14), .ref (mo + 15), .ref (mo + 16), .ref (mo + 17), .int (nI se), .ref (mo + 18), .ref (mo + 19), .int (nI ev), .ref (mo + 20), .ref (mo + 21), .ref (mo + 22), .int (nI bk), .int ik, .ref (mo + 23), .ref (mo + 24), .ref (mo + 25), .ref (mo + 26), .ref (mo + 33), .ref (mo + 41), .ref (mo + 42), .ref (mo + 43)])) := by rw [e8, hv_un (by omega), hv_un (by omega)]; exact hv_us
      have q1 : V8 (mo + 10) = some (.inl (X.2.1 2, 100, .inl f)) := by rw [e8, hv_un (by omega), hv_un (by omega), hv_un (by omega)]; exact hT
      have q2 : V8 (mo + 11) = some (.inl (X.2.1 0, 12, .inl wd9)) := by rw [e8, hv_un (by omega)]; exact hv_us
      have q3 : V8 (mo + 12) = some (.inl (X.2.1 0, 48, .inl td9)) := by rw [e8]; exact hv_us
      refine lv_aload_n C0.1 C0.2.1 dX7_takesAll_19 rfl (lv_at hl 0 rfl) ?_
      refine gf_X7_176 C0 w q0 rfl dX7_takesAll_20 ?_
      refine lv_aload_n C0.1 C0.2.1 dX7_takesAll_23 rfl (lv_at hl 0 rfl) ?_
      refine gf_X7_162 C0 w q0 rfl dX7_takesAll_24 ?_
      refine lv_icmp_ge (tgt := 74) C0.1 C0.2.1 dX7_takesAll_27 (by decide) (fun c_27 => ?_) (fun c_27 => ?_)
      · skip
        refine lv_iconst (v := 1) C0.1 C0.2.1 dX7_takesAll_74 (by decide) ?_
        exact hv_zret C0 w hr hlk (by decide) (⟨wd9, td9, by rw [(show (rd_all (n, f) 12 0) = (true, (rd_c (n, f) (rd_P (n, f) k8)).2, k8 + 1) from by rw [← he, rd_all, if_pos hg9, if_pos (show n ≤ (rd_c (n, f) (rd_P (n, f) k8)).2 from (nI_leI (by omega) (by omega)).mp c_27)]), e8], Or.inl ⟨rfl, by rw [(show (rd_all (n, f) 12 0) = (true, (rd_c (n, f) (rd_P (n, f) k8)).2, k8 + 1) from by rw [← he, rd_all, if_pos hg9, if_pos (show n ≤ (rd_c (n, f) (rd_P (n, f) k8)).2 from (nI_leI (by omega) (by omega)).mp c_27)])], by rw [(show (rd_all (n, f) 12 0) = (true, (rd_c (n, f) (rd_P (n, f) k8)).2, k8 + 1) from by rw [← he, rd_all, if_pos hg9, if_pos (show n ≤ (rd_c (n, f) (rd_P (n, f) k8)).2 from (nI_leI (by omega) (by omega)).mp c_27)])]; exact hh⟩⟩) dX7_takesAll_75
      · skip
        have hlt : (rd_c (n, f) (rd_P (n, f) k8)).2 < n := (nI_ltI (by omega) (by omega)).mp (Int32.not_le.mp c_27)
        refine lv_aload_n C0.1 C0.2.1 dX7_takesAll_30 rfl (lv_at hl 0 rfl) ?_
        refine gf_X7_197 C0 w q0 rfl dX7_takesAll_31 ?_
        refine lv_bipush (v := 12) C0.1 C0.2.1 dX7_takesAll_34 (by decide) ?_
        refine lv_icmp_eq (tgt := 53) C0.1 C0.2.1 dX7_takesAll_36 (by decide) (fun c_36 => ?_) (fun c_36 => absurd (show nI (k8 + 1) = nI 12 by rw [show k8 + 1 = 12 by omega]) c_36)
        refine lv_iconst (v := 0) C0.1 C0.2.1 dX7_takesAll_53 (by decide) ?_
        exact hv_zret C0 w hr hlk (by decide) (⟨wd9, td9, by rw [(show (rd_all (n, f) 12 0) = (false, (rd_c (n, f) (rd_P (n, f) k8)).2, k8 + 1) from by rw [← he, rd_all, if_pos hg9, if_neg (show ¬ n ≤ (rd_c (n, f) (rd_P (n, f) k8)).2 from Nat.not_le.mpr hlt), if_pos (Or.inl rfl)]), e8], Or.inr ⟨rfl, by rw [(show (rd_all (n, f) 12 0) = (false, (rd_c (n, f) (rd_P (n, f) k8)).2, k8 + 1) from by rw [← he, rd_all, if_pos hg9, if_neg (show ¬ n ≤ (rd_c (n, f) (rd_P (n, f) k8)).2 from Nat.not_le.mpr hlt), if_pos (Or.inl rfl)])]; exact Bool.false_ne_true⟩⟩) dX7_takesAll_54
    | succ m9 ih =>
      intro k8 wd9 td9 Hq lq ls hi hcn hg9 he hh w hl
      obtain ⟨V8, e8⟩ : ∃ W9, W9 = hv_up (hv_up (hv_up V mo (mE mo ab be n (nI (rd_c (n, f) (rd_P (n, f) k8)).2) (nI (k8 + 1)) sg se ev bk ik)) (mo + 11) (iE X 12 wd9)) (mo + 12) (iE X 48 td9) := ⟨_, rfl⟩
      rw [← e8] at w
      have q0 : V8 mo = some (.inr (7, [.ref (mo + 1), .ref (mo + 2), .ref (mo + 3), .long ab, .long be, .ref (mo + 10), .int (nI n), .int (nI (rd_c (n, f) (rd_P (n, f) k8)).2), .int (nI (k8 + 1)), .ref (mo + 11), .ref (mo + 12), .ref (mo + 13), .int sg, .ref (mo + 14), .ref (mo + 15), .ref (mo + 16), .ref (mo + 17), .int (nI se), .ref (mo + 18), .ref (mo + 19), .int (nI ev), .ref (mo + 20), .ref (mo + 21), .ref (mo + 22), .int (nI bk), .int ik, .ref (mo + 23), .ref (mo + 24), .ref (mo + 25), .ref (mo + 26), .ref (mo + 33), .ref (mo + 41), .ref (mo + 42), .ref (mo + 43)])) := by rw [e8, hv_un (by omega), hv_un (by omega)]; exact hv_us
      have q1 : V8 (mo + 10) = some (.inl (X.2.1 2, 100, .inl f)) := by rw [e8, hv_un (by omega), hv_un (by omega), hv_un (by omega)]; exact hT
      have q2 : V8 (mo + 11) = some (.inl (X.2.1 0, 12, .inl wd9)) := by rw [e8, hv_un (by omega)]; exact hv_us
      have q3 : V8 (mo + 12) = some (.inl (X.2.1 0, 48, .inl td9)) := by rw [e8]; exact hv_us
      refine lv_aload_n C0.1 C0.2.1 dX7_takesAll_19 rfl (lv_at hl 0 rfl) ?_
      refine gf_X7_176 C0 w q0 rfl dX7_takesAll_20 ?_
      refine lv_aload_n C0.1 C0.2.1 dX7_takesAll_23 rfl (lv_at hl 0 rfl) ?_
      refine gf_X7_162 C0 w q0 rfl dX7_takesAll_24 ?_
      refine lv_icmp_ge (tgt := 74) C0.1 C0.2.1 dX7_takesAll_27 (by decide) (fun c_27 => ?_) (fun c_27 => ?_)
      · skip
        refine lv_iconst (v := 1) C0.1 C0.2.1 dX7_takesAll_74 (by decide) ?_
        exact hv_zret C0 w hr hlk (by decide) (⟨wd9, td9, by rw [(show (rd_all (n, f) 12 0) = (true, (rd_c (n, f) (rd_P (n, f) k8)).2, k8 + 1) from by rw [← he, rd_all, if_pos hg9, if_pos (show n ≤ (rd_c (n, f) (rd_P (n, f) k8)).2 from (nI_leI (by omega) (by omega)).mp c_27)]), e8], Or.inl ⟨rfl, by rw [(show (rd_all (n, f) 12 0) = (true, (rd_c (n, f) (rd_P (n, f) k8)).2, k8 + 1) from by rw [← he, rd_all, if_pos hg9, if_pos (show n ≤ (rd_c (n, f) (rd_P (n, f) k8)).2 from (nI_leI (by omega) (by omega)).mp c_27)])], by rw [(show (rd_all (n, f) 12 0) = (true, (rd_c (n, f) (rd_P (n, f) k8)).2, k8 + 1) from by rw [← he, rd_all, if_pos hg9, if_pos (show n ≤ (rd_c (n, f) (rd_P (n, f) k8)).2 from (nI_leI (by omega) (by omega)).mp c_27)])]; exact hh⟩⟩) dX7_takesAll_75
      · skip
        have hlt : (rd_c (n, f) (rd_P (n, f) k8)).2 < n := (nI_ltI (by omega) (by omega)).mp (Int32.not_le.mp c_27)
        refine lv_aload_n C0.1 C0.2.1 dX7_takesAll_30 rfl (lv_at hl 0 rfl) ?_
        refine gf_X7_197 C0 w q0 rfl dX7_takesAll_31 ?_
        refine lv_bipush (v := 12) C0.1 C0.2.1 dX7_takesAll_34 (by decide) ?_
        refine lv_icmp_eq (tgt := 53) C0.1 C0.2.1 dX7_takesAll_36 (by decide) (fun c_36 => absurd c_36 (show ¬ nI (k8 + 1) = nI 12 from fun h9 => by have h8 := (nI_eq (by omega) (by omega)).mp h9; omega)) (fun c_36 => ?_)
        refine lv_aload_n C0.1 C0.2.1 dX7_takesAll_39 rfl (lv_at hl 0 rfl) ?_
        refine gf_X7_23 C0 w q0 rfl dX7_takesAll_40 ?_
        refine lv_aload_n C0.1 C0.2.1 dX7_takesAll_43 rfl (lv_at hl 0 rfl) ?_
        refine gf_X7_176 C0 w q0 rfl dX7_takesAll_44 ?_
        refine hv_bald C0 w q1 (hn_in (by omega) (by decide)) dX7_takesAll_47 ?_
        rw [nI_clamp (show (rd_c (n, f) (rd_P (n, f) k8)).2 < 2 ^ 31 by omega)]
        refine lv_bipush (v := 59) C0.1 C0.2.1 dX7_takesAll_48 (by decide) ?_
        refine lv_icmp_eq (tgt := 55) C0.1 C0.2.1 dX7_takesAll_50 (by decide) (fun c_50 => ?_) (fun c_50 => ?_)
        · skip
          refine lv_aload_n C0.1 C0.2.1 dX7_takesAll_55 rfl (lv_at hl 0 rfl) ?_
          refine lv_dup C0.1 C0.2.1 dX7_takesAll_56 rfl ?_
          refine gf_X7_176 C0 w q0 rfl dX7_takesAll_57 ?_
          refine lv_iconst (v := 1) C0.1 C0.2.1 dX7_takesAll_60 (by decide) ?_
          refine lv_iadd C0.1 C0.2.1 dX7_takesAll_61 ?_
          rw [nI_1 ((rd_c (n, f) (rd_P (n, f) k8)).2)]
          refine pf_X7_176 C0 w q0 (by simp) dX7_takesAll_62 (fun Hq lq w => ?_)
          obtain ⟨V1, eV2⟩ : ∃ W9, W9 = hv_up V8 mo (.inr (7, [.ref (mo + 1), .ref (mo + 2), .ref (mo + 3), .long ab, .long be, .ref (mo + 10), .int (nI n), .int (nI ((rd_c (n, f) (rd_P (n, f) k8)).2 + 1)), .int (nI (k8 + 1)), .ref (mo + 11), .ref (mo + 12), .ref (mo + 13), .int sg, .ref (mo + 14), .ref (mo + 15), .ref (mo + 16), .ref (mo + 17), .int (nI se), .ref (mo + 18), .ref (mo + 19), .int (nI ev), .ref (mo + 20), .ref (mo + 21), .ref (mo + 22), .int (nI bk), .int ik, .ref (mo + 23), .ref (mo + 24), .ref (mo + 25), .ref (mo + 26), .ref (mo + 33), .ref (mo + 41), .ref (mo + 42), .ref (mo + 43)])) := ⟨_, rfl⟩
          have w : hv_w X s V1 Hq lq := by rw [eV2]; exact w
          have hV4 : V1 (mo + 10) = some (.inl (X.2.1 2, 100, .inl f)) := by rw [eV2, hv_un (by omega)]; exact q1
          have hV5 : V1 (mo + 11) = some (.inl (X.2.1 0, 12, .inl wd9)) := by rw [eV2, hv_un (by omega)]; exact q2
          have hV6 : V1 (mo + 12) = some (.inl (X.2.1 0, 48, .inl td9)) := by rw [eV2, hv_un (by omega)]; exact q3
          have hV7 : V1 mo = some (.inr (7, [.ref (mo + 1), .ref (mo + 2), .ref (mo + 3), .long ab, .long be, .ref (mo + 10), .int (nI n), .int (nI ((rd_c (n, f) (rd_P (n, f) k8)).2 + 1)), .int (nI (k8 + 1)), .ref (mo + 11), .ref (mo + 12), .ref (mo + 13), .int sg, .ref (mo + 14), .ref (mo + 15), .ref (mo + 16), .ref (mo + 17), .int (nI se), .ref (mo + 18), .ref (mo + 19), .int (nI ev), .ref (mo + 20), .ref (mo + 21), .ref (mo + 22), .int (nI bk), .int ik, .ref (mo + 23), .ref (mo + 24), .ref (mo + 25), .ref (mo + 26), .ref (mo + 33), .ref (mo + 41), .ref (mo + 42), .ref (mo + 43)])) := by rw [eV2]; exact hv_us
          refine lv_aload_n C0.1 C0.2.1 dX7_takesAll_65 rfl (lv_at hl 0 rfl) ?_
          refine hv_cVi C0 w kl_X7_209 kv_X7_takesClause rfl hV7 (c_X7_takesClause (p := ((rd_c (n, f) (rd_P (n, f) k8)).2 + 1)) (c := (k8 + 1)) hV7 hV4 hn (by omega) (by omega) hV5 hV6) (by decide) (by decide) rfl hl.1 rfl (Nat.le_of_ble_eq_true rfl) dX7_takesAll_66 ⟨Nat.le_refl _, Nat.le_refl _⟩ (fun x8 V9 Hq lq hp10 w => ?_)
          obtain ⟨cl1, wd1, td1, e1, hk1, hk2, hz1⟩ := hp10
          rcases hz1 with ⟨rfl, hg1, rfl, hg2, hg3, hg4⟩ | ⟨rfl, hg1, rfl⟩
          · skip
            refine lv_if_ne (tgt := 19) C0.1 C0.2.1 dX7_takesAll_69 (by decide) (fun _ => ?_) (fun h9 => absurd h9 (by decide))
            exact ih (k8 + 1) wd1 td1 _ _ ls (by omega) (rd_cb (T := (n, f)) (show (rd_c (n, f) (rd_P (n, f) k8)).2 + 1 ≤ n by omega)) hg1 (by rw [← he]; exact (show rd_all (n, f) (m9 + 1 + 1) k8 = rd_all (n, f) (m9 + 1) (k8 + 1) from by rw [rd_all, if_pos hg9, if_neg (show ¬ n ≤ (rd_c (n, f) (rd_P (n, f) k8)).2 from Nat.not_le.mpr hlt), if_neg (fun h9 => h9.elim (fun h8 => by omega) (fun h8 => h8 c_50))]).symm) (rd_hs hh hk1 hk2 hg2 hg3 hg4) (by rw [e1, eV2, e8, rd_p3 (by omega) (by omega), rd_p6 (by omega) (by omega) (by omega)] at w; exact w) (lv_sub hl [0] rfl)
          · skip
            refine lv_if_ne (tgt := 19) C0.1 C0.2.1 dX7_takesAll_69 (by decide) (fun h9 => absurd h9 (by decide)) (fun _ => ?_)
            refine lv_iconst (v := 0) C0.1 C0.2.1 dX7_takesAll_72 (by decide) ?_
            exact hv_zret C0 w hr hlk (by decide) (⟨wd1, td1, by rw [(show (rd_all (n, f) 12 0) = (false, (rd_c (n, f) (rd_P (n, f) (k8 + 1))).2, k8 + 1) from by rw [← he, rd_all, if_pos hg9, if_neg (show ¬ n ≤ (rd_c (n, f) (rd_P (n, f) k8)).2 from Nat.not_le.mpr hlt), if_neg (fun h9 => h9.elim (fun h8 => by omega) (fun h8 => h8 c_50)), rd_all, if_neg (show ¬ (rd_c (n, f) (rd_P (n, f) (k8 + 1))).1 = true from hg1)]), e1, eV2, e8, rd_p3 (by omega) (by omega)]; exact rd_p6 (by omega) (by omega) (by omega), Or.inr ⟨rfl, by rw [(show (rd_all (n, f) 12 0) = (false, (rd_c (n, f) (rd_P (n, f) (k8 + 1))).2, k8 + 1) from by rw [← he, rd_all, if_pos hg9, if_neg (show ¬ n ≤ (rd_c (n, f) (rd_P (n, f) k8)).2 from Nat.not_le.mpr hlt), if_neg (fun h9 => h9.elim (fun h8 => by omega) (fun h8 => h8 c_50)), rd_all, if_neg (show ¬ (rd_c (n, f) (rd_P (n, f) (k8 + 1))).1 = true from hg1)])]; exact Bool.false_ne_true⟩⟩) dX7_takesAll_73
        · skip
          refine lv_iconst (v := 0) C0.1 C0.2.1 dX7_takesAll_53 (by decide) ?_
          exact hv_zret C0 w hr hlk (by decide) (⟨wd9, td9, by rw [(show (rd_all (n, f) 12 0) = (false, (rd_c (n, f) (rd_P (n, f) k8)).2, k8 + 1) from by rw [← he, rd_all, if_pos hg9, if_neg (show ¬ n ≤ (rd_c (n, f) (rd_P (n, f) k8)).2 from Nat.not_le.mpr hlt), if_pos (Or.inr c_50)]), e8], Or.inr ⟨rfl, by rw [(show (rd_all (n, f) 12 0) = (false, (rd_c (n, f) (rd_P (n, f) k8)).2, k8 + 1) from by rw [← he, rd_all, if_pos hg9, if_neg (show ¬ n ≤ (rd_c (n, f) (rd_P (n, f) k8)).2 from Nat.not_le.mpr hlt), if_pos (Or.inr c_50)])]; exact Bool.false_ne_true⟩⟩) dX7_takesAll_54
  refine lv_aload_n C0.1 C0.2.1 dX7_takesAll_0 rfl (lv_at hl 0 rfl) ?_
  refine lv_iconst (v := 0) C0.1 C0.2.1 dX7_takesAll_1 (by decide) ?_
  refine pf_X7_176 C0 w hO (by simp) dX7_takesAll_2 (fun Hq lq w => ?_)
  obtain ⟨V1, eV2⟩ : ∃ W9, W9 = hv_up V mo (.inr (7, [.ref (mo + 1), .ref (mo + 2), .ref (mo + 3), .long ab, .long be, .ref (mo + 10), .int (nI n), .int 0, .int cl, .ref (mo + 11), .ref (mo + 12), .ref (mo + 13), .int sg, .ref (mo + 14), .ref (mo + 15), .ref (mo + 16), .ref (mo + 17), .int (nI se), .ref (mo + 18), .ref (mo + 19), .int (nI ev), .ref (mo + 20), .ref (mo + 21), .ref (mo + 22), .int (nI bk), .int ik, .ref (mo + 23), .ref (mo + 24), .ref (mo + 25), .ref (mo + 26), .ref (mo + 33), .ref (mo + 41), .ref (mo + 42), .ref (mo + 43)])) := ⟨_, rfl⟩
  have w : hv_w X s V1 Hq lq := by rw [eV2]; exact w
  have hV4 : V1 (mo + 10) = some (.inl (X.2.1 2, 100, .inl f)) := by rw [eV2, hv_un (by omega)]; exact hT
  have hV5 : V1 (mo + 11) = some (.inl (X.2.1 0, 12, .inl wd)) := by rw [eV2, hv_un (by omega)]; exact hW
  have hV6 : V1 (mo + 12) = some (.inl (X.2.1 0, 48, .inl td)) := by rw [eV2, hv_un (by omega)]; exact hL
  have hV7 : V1 mo = some (.inr (7, [.ref (mo + 1), .ref (mo + 2), .ref (mo + 3), .long ab, .long be, .ref (mo + 10), .int (nI n), .int 0, .int cl, .ref (mo + 11), .ref (mo + 12), .ref (mo + 13), .int sg, .ref (mo + 14), .ref (mo + 15), .ref (mo + 16), .ref (mo + 17), .int (nI se), .ref (mo + 18), .ref (mo + 19), .int (nI ev), .ref (mo + 20), .ref (mo + 21), .ref (mo + 22), .int (nI bk), .int ik, .ref (mo + 23), .ref (mo + 24), .ref (mo + 25), .ref (mo + 26), .ref (mo + 33), .ref (mo + 41), .ref (mo + 42), .ref (mo + 43)])) := by rw [eV2]; exact hv_us
  refine lv_aload_n C0.1 C0.2.1 dX7_takesAll_5 rfl (lv_at hl 0 rfl) ?_
  refine lv_iconst (v := 0) C0.1 C0.2.1 dX7_takesAll_6 (by decide) ?_
  refine pf_X7_197 C0 w hV7 (by simp) dX7_takesAll_7 (fun Hq lq w => ?_)
  obtain ⟨V8, eV9⟩ : ∃ W9, W9 = hv_up V1 mo (.inr (7, [.ref (mo + 1), .ref (mo + 2), .ref (mo + 3), .long ab, .long be, .ref (mo + 10), .int (nI n), .int 0, .int 0, .ref (mo + 11), .ref (mo + 12), .ref (mo + 13), .int sg, .ref (mo + 14), .ref (mo + 15), .ref (mo + 16), .ref (mo + 17), .int (nI se), .ref (mo + 18), .ref (mo + 19), .int (nI ev), .ref (mo + 20), .ref (mo + 21), .ref (mo + 22), .int (nI bk), .int ik, .ref (mo + 23), .ref (mo + 24), .ref (mo + 25), .ref (mo + 26), .ref (mo + 33), .ref (mo + 41), .ref (mo + 42), .ref (mo + 43)])) := ⟨_, rfl⟩
  have w : hv_w X s V8 Hq lq := by rw [eV9]; exact w
  have hV10 : V8 (mo + 10) = some (.inl (X.2.1 2, 100, .inl f)) := by rw [eV9, hv_un (by omega)]; exact hV4
  have hV11 : V8 (mo + 11) = some (.inl (X.2.1 0, 12, .inl wd)) := by rw [eV9, hv_un (by omega)]; exact hV5
  have hV12 : V8 (mo + 12) = some (.inl (X.2.1 0, 48, .inl td)) := by rw [eV9, hv_un (by omega)]; exact hV6
  have hV14 : V8 mo = some (.inr (7, [.ref (mo + 1), .ref (mo + 2), .ref (mo + 3), .long ab, .long be, .ref (mo + 10), .int (nI n), .int 0, .int 0, .ref (mo + 11), .ref (mo + 12), .ref (mo + 13), .int sg, .ref (mo + 14), .ref (mo + 15), .ref (mo + 16), .ref (mo + 17), .int (nI se), .ref (mo + 18), .ref (mo + 19), .int (nI ev), .ref (mo + 20), .ref (mo + 21), .ref (mo + 22), .int (nI bk), .int ik, .ref (mo + 23), .ref (mo + 24), .ref (mo + 25), .ref (mo + 26), .ref (mo + 33), .ref (mo + 41), .ref (mo + 42), .ref (mo + 43)])) := by rw [eV9]; exact hv_us
  have hz0 : V8 mo = some (.inr (7, [.ref (mo + 1), .ref (mo + 2), .ref (mo + 3), .long ab, .long be, .ref (mo + 10), .int (nI n), .int (nI (rd_P (n, f) 0)), .int (nI 0), .ref (mo + 11), .ref (mo + 12), .ref (mo + 13), .int sg, .ref (mo + 14), .ref (mo + 15), .ref (mo + 16), .ref (mo + 17), .int (nI se), .ref (mo + 18), .ref (mo + 19), .int (nI ev), .ref (mo + 20), .ref (mo + 21), .ref (mo + 22), .int (nI bk), .int ik, .ref (mo + 23), .ref (mo + 24), .ref (mo + 25), .ref (mo + 26), .ref (mo + 33), .ref (mo + 41), .ref (mo + 42), .ref (mo + 43)])) := hV14
  refine lv_aload_n C0.1 C0.2.1 dX7_takesAll_10 rfl (lv_at hl 0 rfl) ?_
  refine hv_cVi C0 w kl_X7_209 kv_X7_takesClause rfl hz0 (c_X7_takesClause (p := (rd_P (n, f) 0)) (c := 0) hz0 hV10 hn (Nat.zero_le _) (by omega) hV11 hV12) (by decide) (by decide) rfl hl.1 rfl (Nat.le_of_ble_eq_true rfl) dX7_takesAll_11 ⟨Nat.le_refl _, Nat.le_refl _⟩ (fun x15 V16 Hq lq hp17 w => ?_)
  obtain ⟨cl1, wd1, td1, e1, hk1, hk2, hz1⟩ := hp17
  rcases hz1 with ⟨rfl, hg1, rfl, hg2, hg3, hg4⟩ | ⟨rfl, hg1, rfl⟩
  · skip
    refine lv_if_ne (tgt := 19) C0.1 C0.2.1 dX7_takesAll_14 (by decide) (fun _ => ?_) (fun h9 => absurd h9 (by decide))
    exact loop 11 0 wd1 td1 _ _ ls (by omega) (rd_cb (T := (n, f)) (Nat.zero_le _)) hg1 rfl (rd_hs (wd := wd) (vl := td) (fun i hi => absurd hi (Nat.not_lt_zero i)) hk1 hk2 hg2 hg3 hg4) (by rw [e1, eV9, eV2, hv_uu, hv_uu] at w; exact w) (lv_sub hl [0] rfl)
  · skip
    refine lv_if_ne (tgt := 19) C0.1 C0.2.1 dX7_takesAll_14 (by decide) (fun h9 => absurd h9 (by decide)) (fun _ => ?_)
    refine lv_iconst (v := 0) C0.1 C0.2.1 dX7_takesAll_17 (by decide) ?_
    exact hv_zret C0 w hr hlk (by decide) (⟨wd1, td1, by rw [(show (rd_all (n, f) 12 0) = (false, (rd_c (n, f) (rd_P (n, f) 0)).2, 0) from by rw [rd_all, if_neg hg1]), e1, eV9, eV2, hv_uu, hv_uu], Or.inr ⟨rfl, by rw [(show (rd_all (n, f) 12 0) = (false, (rd_c (n, f) (rd_P (n, f) 0)).2, 0) from by rw [rd_all, if_neg hg1])]; exact Bool.false_ne_true⟩⟩) dX7_takesAll_18

