/-! ROW, what is asked: FLAW, GREATER; what happens to it -/
theorem hs_i64 (x y : Int32) : x.toInt64 < y.toInt64 ↔ x < y := by
  rw [Int64.lt_iff_toInt_lt, Int32.lt_iff_toInt_lt, Int32.toInt_toInt64, Int32.toInt_toInt64]
theorem hs_i64e (x y : Int32) : x.toInt64 = y.toInt64 ↔ x = y := by
  rw [← Int64.toInt_inj, ← Int32.toInt_inj, Int32.toInt_toInt64, Int32.toInt_toInt64]
theorem hs_i64l (x y : Int32) : x.toInt64 ≤ y.toInt64 ↔ x ≤ y := by
  rw [Int64.le_iff_toInt_le, Int32.le_iff_toInt_le, Int32.toInt_toInt64, Int32.toInt_toInt64]
theorem hs_lt1 (x : Int32) : x.toInt64 < 1 ↔ x < 1 := hs_i64 x 1
theorem hs_lt2 (x : Int32) : x.toInt64 < 2 ↔ x < 2 := hs_i64 x 2
theorem hs_gt1 (x : Int32) : 1 < x.toInt64 ↔ 1 < x := hs_i64 1 x
theorem hs_eq1 (x : Int32) : x.toInt64 = 1 ↔ x = 1 := hs_i64e x 1
theorem hs_eq0 (x : Int32) : x.toInt64 = 0 ↔ x = 0 := hs_i64e x 0
theorem hs_last0 (x : Int32) : nI 0 = x - 1 ↔ x = 1 := by
  rw [nI_0]
  constructor
  · intro h
    have h2 : x = (x - 1) + 1 := (Int32.sub_add_cancel x 1).symm
    rw [h2, ← h]; decide
  · intro h
    rw [h]; decide
/-- number i of a row of kind kd, n numbers f, is amiss -/
def sp_am (kd : Int32) (n : Nat) (f : Nat → Int32) (i : Nat) : Bool :=
  if kd = 0 then (if i = 0 then decide ((f 0).toInt64 < 2) else decide ((f i).toInt64 < (f (i - 1)).toInt64 * ((f (i - 1)).toInt64 - 1) + 1))
  else if kd = 1 then (if i = 0 then decide ((f 0).toInt64 < 2) else decide ((f i).toInt64 < (f (i - 1)).toInt64))
  else if kd = 2 then (if i = 0 then decide ((f 0).toInt64 < 1 ∨ (nI 0 = nI n - 1 ∧ (f 0).toInt64 = 1)) else decide ((f i).toInt64 ≤ (f (i - 1)).toInt64 ∨ (nI i = nI n - 1 ∧ (f i).toInt64 = (f (i - 1)).toInt64 + 1)))
  else decide ((nI i + 1).toInt64 < (f i).toInt64 ∨ (nI i = nI n - 1 ∧ (f i).toInt64 = 0))
def sp_fl (kd : Int32) (n : Nat) (f : Nat → Int32) : Nat → Nat → Int32
  | 0, _ => -5
  | m + 1, i => if sp_am kd n f i = true then nI i else sp_fl kd n f m (i + 1)
def sp_flaw (kd : Int32) (n : Nat) (f : Nat → Int32) : Int32 := if n = 0 then 0 else sp_fl kd n f n 0
theorem hs_c1 (x : Int32) : (nI 0 + 1).toInt64 < x.toInt64 ↔ 1 < x := by
  rw [show (nI 0 + 1).toInt64 = (1 : Int32).toInt64 from by decide]; exact hs_i64 1 x
set_option maxHeartbeats 4000000 in
set_option maxRecDepth 100000 in
theorem c_X3_isFirstAmiss {l : Launch} {X : hv_X} {V : hv_V} {r b n : Nat} {kd : Int32} {f : Nat → Int32} (hR : V r = some (rE kd n b)) (hB : V b = some (nE X f))  : hv_Mi l X 0 yX3_isFirstAmiss cX3_isFirstAmiss 2 .boolean V [.ref r] (fun x V1 => V1 = V ∧ hv_B (sp_am kd n f 0 = true) x) := by
  refine hv_enter (by decide) (Nat.le_of_ble_eq_true rfl) ?_
  intro p e s m below meth c ls C0 hr hlk hnm w hl
  have hl : lv_has ls 2 [(0, .ref r)] := hl
  refine lv_aload_n C0.1 C0.2.1 dX3_isFirstAmiss_0 rfl (lv_at hl 0 rfl) ?_
  refine gf_X3_9 C0 w hR rfl dX3_isFirstAmiss_1 ?_
  refine lv_iconst (v := 0) C0.1 C0.2.1 dX3_isFirstAmiss_4 (by decide) ?_
  refine hv_iald C0 w hB (hn_in (n := 0) (by decide) (by decide)) dX3_isFirstAmiss_5 ?_
  have hc9 : (0 : Int32).toNatClampNeg = 0 := by decide
  rw [hc9]; clear hc9
  refine lv_istore_n (lv' := [(1, .int (f 0)), (0, .ref r)]) C0.1 C0.2.1 dX3_isFirstAmiss_6 rfl hl (by decide) rfl (fun ls hl => ?_)
  refine lv_aload_n C0.1 C0.2.1 dX3_isFirstAmiss_7 rfl (lv_at hl 1 rfl) ?_
  refine gf_X3_15 C0 w hR rfl dX3_isFirstAmiss_8 ?_
  refine lv_if_eq (tgt := 22) C0.1 C0.2.1 dX3_isFirstAmiss_11 (by decide) (fun c_11 => ?_) (fun c_11 => ?_)
  · skip
    refine lv_iload_n C0.1 C0.2.1 dX3_isFirstAmiss_22 rfl (lv_at hl 0 rfl) ?_
    refine lv_iconst (v := 2) C0.1 C0.2.1 dX3_isFirstAmiss_23 (by decide) ?_
    refine lv_icmp_ge (tgt := 31) C0.1 C0.2.1 dX3_isFirstAmiss_24 (by decide) (fun c_24 => ?_) (fun c_24 => ?_)
    · skip
      refine lv_iconst (v := 0) C0.1 C0.2.1 dX3_isFirstAmiss_31 (by decide) ?_
      exact hv_zret C0 w hr hlk (by decide) (⟨rfl, Or.inr ⟨rfl, by rw [sp_am, if_pos c_11]; simp only [if_true, hs_lt1, hs_lt2, hs_eq1, hs_eq0, hs_last0, hs_c1, decide_eq_true_eq]; simp_all [Int32.not_lt, Int32.not_le]⟩⟩) dX3_isFirstAmiss_32
    · skip
      refine lv_iconst (v := 1) C0.1 C0.2.1 dX3_isFirstAmiss_27 (by decide) ?_
      refine lv_goto (tgt := 32) C0.1 C0.2.1 dX3_isFirstAmiss_28 (by decide) ?_
      exact hv_zret C0 w hr hlk (by decide) (⟨rfl, Or.inl ⟨rfl, by rw [sp_am, if_pos c_11]; simp only [if_true, hs_lt1, hs_lt2, hs_eq1, hs_eq0, hs_last0, hs_c1, decide_eq_true_eq]; simp_all [Int32.not_lt, Int32.not_le]⟩⟩) dX3_isFirstAmiss_32
  · skip
    refine lv_aload_n C0.1 C0.2.1 dX3_isFirstAmiss_14 rfl (lv_at hl 1 rfl) ?_
    refine gf_X3_15 C0 w hR rfl dX3_isFirstAmiss_15 ?_
    refine lv_iconst (v := 1) C0.1 C0.2.1 dX3_isFirstAmiss_18 (by decide) ?_
    refine lv_icmp_ne (tgt := 33) C0.1 C0.2.1 dX3_isFirstAmiss_19 (by decide) (fun c_19 => ?_) (fun c_19 => ?_)
    · skip
      refine lv_aload_n C0.1 C0.2.1 dX3_isFirstAmiss_33 rfl (lv_at hl 1 rfl) ?_
      refine gf_X3_15 C0 w hR rfl dX3_isFirstAmiss_34 ?_
      refine lv_iconst (v := 2) C0.1 C0.2.1 dX3_isFirstAmiss_37 (by decide) ?_
      refine lv_icmp_ne (tgt := 65) C0.1 C0.2.1 dX3_isFirstAmiss_38 (by decide) (fun c_38 => ?_) (fun c_38 => ?_)
      · skip
        refine lv_iload_n C0.1 C0.2.1 dX3_isFirstAmiss_65 rfl (lv_at hl 0 rfl) ?_
        refine lv_iconst (v := 1) C0.1 C0.2.1 dX3_isFirstAmiss_66 (by decide) ?_
        refine lv_icmp_gt (tgt := 82) C0.1 C0.2.1 dX3_isFirstAmiss_67 (by decide) (fun c_67 => ?_) (fun c_67 => ?_)
        · skip
          refine lv_iconst (v := 1) C0.1 C0.2.1 dX3_isFirstAmiss_82 (by decide) ?_
          refine lv_goto (tgt := 87) C0.1 C0.2.1 dX3_isFirstAmiss_83 (by decide) ?_
          exact hv_zret C0 w hr hlk (by decide) (⟨rfl, Or.inl ⟨rfl, by rw [sp_am, if_neg c_11, if_neg c_19, if_neg c_38]; simp only [if_true, hs_lt1, hs_lt2, hs_eq1, hs_eq0, hs_last0, hs_c1, decide_eq_true_eq]; simp_all [Int32.not_lt, Int32.not_le]⟩⟩) dX3_isFirstAmiss_87
        · skip
          refine lv_aload_n C0.1 C0.2.1 dX3_isFirstAmiss_70 rfl (lv_at hl 1 rfl) ?_
          refine gf_X3_19 C0 w hR rfl dX3_isFirstAmiss_71 ?_
          refine lv_iconst (v := 1) C0.1 C0.2.1 dX3_isFirstAmiss_74 (by decide) ?_
          refine lv_icmp_ne (tgt := 86) C0.1 C0.2.1 dX3_isFirstAmiss_75 (by decide) (fun c_75 => ?_) (fun c_75 => ?_)
          · skip
            refine lv_iconst (v := 0) C0.1 C0.2.1 dX3_isFirstAmiss_86 (by decide) ?_
            exact hv_zret C0 w hr hlk (by decide) (⟨rfl, Or.inr ⟨rfl, by rw [sp_am, if_neg c_11, if_neg c_19, if_neg c_38]; simp only [if_true, hs_lt1, hs_lt2, hs_eq1, hs_eq0, hs_last0, hs_c1, decide_eq_true_eq]; simp_all [Int32.not_lt, Int32.not_le]⟩⟩) dX3_isFirstAmiss_87
          · skip
            refine lv_iload_n C0.1 C0.2.1 dX3_isFirstAmiss_78 rfl (lv_at hl 0 rfl) ?_
            refine lv_if_ne (tgt := 86) C0.1 C0.2.1 dX3_isFirstAmiss_79 (by decide) (fun c_79 => ?_) (fun c_79 => ?_)
            · skip
              refine lv_iconst (v := 0) C0.1 C0.2.1 dX3_isFirstAmiss_86 (by decide) ?_
              exact hv_zret C0 w hr hlk (by decide) (⟨rfl, Or.inr ⟨rfl, by rw [sp_am, if_neg c_11, if_neg c_19, if_neg c_38]; simp only [if_true, hs_lt1, hs_lt2, hs_eq1, hs_eq0, hs_last0, hs_c1, decide_eq_true_eq]; simp_all [Int32.not_lt, Int32.not_le]⟩⟩) dX3_isFirstAmiss_87
            · skip
              refine lv_iconst (v := 1) C0.1 C0.2.1 dX3_isFirstAmiss_82 (by decide) ?_
              refine lv_goto (tgt := 87) C0.1 C0.2.1 dX3_isFirstAmiss_83 (by decide) ?_
              exact hv_zret C0 w hr hlk (by decide) (⟨rfl, Or.inl ⟨rfl, by rw [sp_am, if_neg c_11, if_neg c_19, if_neg c_38]; simp only [if_true, hs_lt1, hs_lt2, hs_eq1, hs_eq0, hs_last0, hs_c1, decide_eq_true_eq]; simp_all [Int32.not_lt, Int32.not_le]⟩⟩) dX3_isFirstAmiss_87
      · skip
        refine lv_iload_n C0.1 C0.2.1 dX3_isFirstAmiss_41 rfl (lv_at hl 0 rfl) ?_
        refine lv_iconst (v := 1) C0.1 C0.2.1 dX3_isFirstAmiss_42 (by decide) ?_
        refine lv_icmp_lt (tgt := 59) C0.1 C0.2.1 dX3_isFirstAmiss_43 (by decide) (fun c_43 => ?_) (fun c_43 => ?_)
        · skip
          refine lv_iconst (v := 1) C0.1 C0.2.1 dX3_isFirstAmiss_59 (by decide) ?_
          refine lv_goto (tgt := 64) C0.1 C0.2.1 dX3_isFirstAmiss_60 (by decide) ?_
          exact hv_zret C0 w hr hlk (by decide) (⟨rfl, Or.inl ⟨rfl, by rw [sp_am, if_neg c_11, if_neg c_19, if_pos c_38]; simp only [if_true, hs_lt1, hs_lt2, hs_eq1, hs_eq0, hs_last0, hs_c1, decide_eq_true_eq]; simp_all [Int32.not_lt, Int32.not_le]⟩⟩) dX3_isFirstAmiss_64
        · skip
          refine lv_aload_n C0.1 C0.2.1 dX3_isFirstAmiss_46 rfl (lv_at hl 1 rfl) ?_
          refine gf_X3_19 C0 w hR rfl dX3_isFirstAmiss_47 ?_
          refine lv_iconst (v := 1) C0.1 C0.2.1 dX3_isFirstAmiss_50 (by decide) ?_
          refine lv_icmp_ne (tgt := 63) C0.1 C0.2.1 dX3_isFirstAmiss_51 (by decide) (fun c_51 => ?_) (fun c_51 => ?_)
          · skip
            refine lv_iconst (v := 0) C0.1 C0.2.1 dX3_isFirstAmiss_63 (by decide) ?_
            exact hv_zret C0 w hr hlk (by decide) (⟨rfl, Or.inr ⟨rfl, by rw [sp_am, if_neg c_11, if_neg c_19, if_pos c_38]; simp only [if_true, hs_lt1, hs_lt2, hs_eq1, hs_eq0, hs_last0, hs_c1, decide_eq_true_eq]; simp_all [Int32.not_lt, Int32.not_le]⟩⟩) dX3_isFirstAmiss_64
          · skip
            refine lv_iload_n C0.1 C0.2.1 dX3_isFirstAmiss_54 rfl (lv_at hl 0 rfl) ?_
            refine lv_iconst (v := 1) C0.1 C0.2.1 dX3_isFirstAmiss_55 (by decide) ?_
            refine lv_icmp_ne (tgt := 63) C0.1 C0.2.1 dX3_isFirstAmiss_56 (by decide) (fun c_56 => ?_) (fun c_56 => ?_)
            · skip
              refine lv_iconst (v := 0) C0.1 C0.2.1 dX3_isFirstAmiss_63 (by decide) ?_
              exact hv_zret C0 w hr hlk (by decide) (⟨rfl, Or.inr ⟨rfl, by rw [sp_am, if_neg c_11, if_neg c_19, if_pos c_38]; simp only [if_true, hs_lt1, hs_lt2, hs_eq1, hs_eq0, hs_last0, hs_c1, decide_eq_true_eq]; simp_all [Int32.not_lt, Int32.not_le]⟩⟩) dX3_isFirstAmiss_64
            · skip
              refine lv_iconst (v := 1) C0.1 C0.2.1 dX3_isFirstAmiss_59 (by decide) ?_
              refine lv_goto (tgt := 64) C0.1 C0.2.1 dX3_isFirstAmiss_60 (by decide) ?_
              exact hv_zret C0 w hr hlk (by decide) (⟨rfl, Or.inl ⟨rfl, by rw [sp_am, if_neg c_11, if_neg c_19, if_pos c_38]; simp only [if_true, hs_lt1, hs_lt2, hs_eq1, hs_eq0, hs_last0, hs_c1, decide_eq_true_eq]; simp_all [Int32.not_lt, Int32.not_le]⟩⟩) dX3_isFirstAmiss_64
    · skip
      refine lv_iload_n C0.1 C0.2.1 dX3_isFirstAmiss_22 rfl (lv_at hl 0 rfl) ?_
      refine lv_iconst (v := 2) C0.1 C0.2.1 dX3_isFirstAmiss_23 (by decide) ?_
      refine lv_icmp_ge (tgt := 31) C0.1 C0.2.1 dX3_isFirstAmiss_24 (by decide) (fun c_24 => ?_) (fun c_24 => ?_)
      · skip
        refine lv_iconst (v := 0) C0.1 C0.2.1 dX3_isFirstAmiss_31 (by decide) ?_
        exact hv_zret C0 w hr hlk (by decide) (⟨rfl, Or.inr ⟨rfl, by rw [sp_am, if_neg c_11, if_pos c_19]; simp only [if_true, hs_lt1, hs_lt2, hs_eq1, hs_eq0, hs_last0, hs_c1, decide_eq_true_eq]; simp_all [Int32.not_lt, Int32.not_le]⟩⟩) dX3_isFirstAmiss_32
      · skip
        refine lv_iconst (v := 1) C0.1 C0.2.1 dX3_isFirstAmiss_27 (by decide) ?_
        refine lv_goto (tgt := 32) C0.1 C0.2.1 dX3_isFirstAmiss_28 (by decide) ?_
        exact hv_zret C0 w hr hlk (by decide) (⟨rfl, Or.inl ⟨rfl, by rw [sp_am, if_neg c_11, if_pos c_19]; simp only [if_true, hs_lt1, hs_lt2, hs_eq1, hs_eq0, hs_last0, hs_c1, decide_eq_true_eq]; simp_all [Int32.not_lt, Int32.not_le]⟩⟩) dX3_isFirstAmiss_32

set_option maxHeartbeats 4000000 in
set_option maxRecDepth 100000 in
theorem c_X3_isLaterAmiss {l : Launch} {X : hv_X} {V : hv_V} {r b n : Nat} {kd : Int32} {f : Nat → Int32} (hR : V r = some (rE kd n b)) (hB : V b = some (nE X f)) {j : Nat} (hj : j + 1 < 16) : hv_Mi l X 0 yX3_isLaterAmiss cX3_isLaterAmiss 7 .boolean V [.ref r, .int (nI (j + 1))] (fun x V1 => V1 = V ∧ hv_B (sp_am kd n f (j + 1) = true) x) := by
  refine hv_enter (by decide) (Nat.le_of_ble_eq_true rfl) ?_
  intro p e s m below meth c ls C0 hr hlk hnm w hl
  have hl : lv_has ls 7 [(0, .ref r), (1, .int (nI (j + 1)))] := hl
  refine lv_aload_n C0.1 C0.2.1 dX3_isLaterAmiss_0 rfl (lv_at hl 0 rfl) ?_
  refine gf_X3_9 C0 w hR rfl dX3_isLaterAmiss_1 ?_
  refine lv_iload_n C0.1 C0.2.1 dX3_isLaterAmiss_4 rfl (lv_at hl 1 rfl) ?_
  refine hv_iald C0 w hB (hn_in hj (by decide)) dX3_isLaterAmiss_5 ?_
  have hc1 : (nI (j + 1)).toNatClampNeg = (j + 1) := nI_clamp (by omega)
  rw [hc1]
  refine lv_i2l (v := (f (j + 1)).toInt64) C0.1 C0.2.1 dX3_isLaterAmiss_6 rfl ?_
  refine lv_lstore_n (lv' := [(2, .long ((f (j + 1)).toInt64)), (0, .ref r), (1, .int (nI (j + 1)))]) C0.1 C0.2.1 dX3_isLaterAmiss_7 rfl hl (by decide) rfl (fun ls hl => ?_)
  refine lv_aload_n C0.1 C0.2.1 dX3_isLaterAmiss_8 rfl (lv_at hl 1 rfl) ?_
  refine gf_X3_9 C0 w hR rfl dX3_isLaterAmiss_9 ?_
  refine lv_iload_n C0.1 C0.2.1 dX3_isLaterAmiss_12 rfl (lv_at hl 2 rfl) ?_
  refine lv_iconst (v := 1) C0.1 C0.2.1 dX3_isLaterAmiss_13 (by decide) ?_
  refine lv_isub C0.1 C0.2.1 dX3_isLaterAmiss_14 ?_
  rw [nI_pred]
  refine hv_iald C0 w hB (hn_in (by omega) (by decide)) dX3_isLaterAmiss_15 ?_
  have hc2 : (nI j).toNatClampNeg = j := nI_clamp (by omega)
  rw [hc2]
  refine lv_i2l (v := (f j).toInt64) C0.1 C0.2.1 dX3_isLaterAmiss_16 rfl ?_
  refine lv_lstore (lv' := [(4, .long ((f j).toInt64)), (2, .long ((f (j + 1)).toInt64)), (0, .ref r), (1, .int (nI (j + 1)))]) C0.1 C0.2.1 dX3_isLaterAmiss_17 hl (by decide) rfl (fun ls hl => ?_)
  refine lv_iload_n C0.1 C0.2.1 dX3_isLaterAmiss_19 rfl (lv_at hl 3 rfl) ?_
  refine lv_aload_n C0.1 C0.2.1 dX3_isLaterAmiss_20 rfl (lv_at hl 2 rfl) ?_
  refine gf_X3_19 C0 w hR rfl dX3_isLaterAmiss_21 ?_
  refine lv_iconst (v := 1) C0.1 C0.2.1 dX3_isLaterAmiss_24 (by decide) ?_
  refine lv_isub C0.1 C0.2.1 dX3_isLaterAmiss_25 ?_
  refine lv_icmp_ne (tgt := 33) C0.1 C0.2.1 dX3_isLaterAmiss_26 (by decide) (fun c_26 => ?_) (fun c_26 => ?_)
  · skip
    refine lv_iconst (v := 0) C0.1 C0.2.1 dX3_isLaterAmiss_33 (by decide) ?_
    refine lv_istore (lv' := [(6, .int 0), (4, .long ((f j).toInt64)), (2, .long ((f (j + 1)).toInt64)), (0, .ref r), (1, .int (nI (j + 1)))]) C0.1 C0.2.1 dX3_isLaterAmiss_34 hl (by decide) rfl (fun ls hl => ?_)
    refine lv_aload_n C0.1 C0.2.1 dX3_isLaterAmiss_36 rfl (lv_at hl 3 rfl) ?_
    refine gf_X3_15 C0 w hR rfl dX3_isLaterAmiss_37 ?_
    refine lv_if_ne (tgt := 63) C0.1 C0.2.1 dX3_isLaterAmiss_40 (by decide) (fun c_40 => ?_) (fun c_40 => ?_)
    · skip
      refine lv_aload_n C0.1 C0.2.1 dX3_isLaterAmiss_63 rfl (lv_at hl 3 rfl) ?_
      refine gf_X3_15 C0 w hR rfl dX3_isLaterAmiss_64 ?_
      refine lv_iconst (v := 1) C0.1 C0.2.1 dX3_isLaterAmiss_67 (by decide) ?_
      refine lv_icmp_ne (tgt := 84) C0.1 C0.2.1 dX3_isLaterAmiss_68 (by decide) (fun c_68 => ?_) (fun c_68 => ?_)
      · skip
        refine lv_aload_n C0.1 C0.2.1 dX3_isLaterAmiss_84 rfl (lv_at hl 3 rfl) ?_
        refine gf_X3_15 C0 w hR rfl dX3_isLaterAmiss_85 ?_
        refine lv_iconst (v := 2) C0.1 C0.2.1 dX3_isLaterAmiss_88 (by decide) ?_
        refine lv_icmp_ne (tgt := 119) C0.1 C0.2.1 dX3_isLaterAmiss_89 (by decide) (fun c_89 => ?_) (fun c_89 => ?_)
        · skip
          refine lv_lload_n C0.1 C0.2.1 dX3_isLaterAmiss_119 rfl (lv_at hl 2 rfl) ?_
          refine lv_iload_n C0.1 C0.2.1 dX3_isLaterAmiss_120 rfl (lv_at hl 4 rfl) ?_
          refine lv_iconst (v := 1) C0.1 C0.2.1 dX3_isLaterAmiss_121 (by decide) ?_
          refine lv_iadd C0.1 C0.2.1 dX3_isLaterAmiss_122 ?_
          refine lv_i2l (v := ((nI (j + 1)) + 1).toInt64) C0.1 C0.2.1 dX3_isLaterAmiss_123 rfl ?_
          refine hv_lc_gt (tgt := 139) C0.1 C0.2.1 dX3_isLaterAmiss_124 dX3_isLaterAmiss_125 (by decide) (fun c_124 => ?_) (fun c_124 => ?_)
          · skip
            refine lv_iconst (v := 1) C0.1 C0.2.1 dX3_isLaterAmiss_139 (by decide) ?_
            refine lv_goto (tgt := 144) C0.1 C0.2.1 dX3_isLaterAmiss_140 (by decide) ?_
            exact hv_zret C0 w hr hlk (by decide) (⟨rfl, Or.inl ⟨rfl, by rw [sp_am, if_neg c_40, if_neg c_68, if_neg c_89]; simp only [decide_eq_true_eq, Nat.add_sub_cancel]; simp_all [Int64.not_lt, Int64.not_le]⟩⟩) dX3_isLaterAmiss_144
          · skip
            refine lv_iload C0.1 C0.2.1 dX3_isLaterAmiss_128 (lv_at hl 0 rfl) ?_
            refine lv_if_eq (tgt := 143) C0.1 C0.2.1 dX3_isLaterAmiss_130 (by decide) (fun _ => ?_) (fun h9 => absurd h9 (by decide))
            refine lv_iconst (v := 0) C0.1 C0.2.1 dX3_isLaterAmiss_143 (by decide) ?_
            exact hv_zret C0 w hr hlk (by decide) (⟨rfl, Or.inr ⟨rfl, by rw [sp_am, if_neg c_40, if_neg c_68, if_neg c_89]; simp only [decide_eq_true_eq, Nat.add_sub_cancel]; simp_all [Int64.not_lt, Int64.not_le]⟩⟩) dX3_isLaterAmiss_144
        · skip
          refine lv_lload_n C0.1 C0.2.1 dX3_isLaterAmiss_92 rfl (lv_at hl 2 rfl) ?_
          refine lv_lload C0.1 C0.2.1 dX3_isLaterAmiss_93 (lv_at hl 1 rfl) ?_
          refine hv_lc_le (tgt := 113) C0.1 C0.2.1 dX3_isLaterAmiss_95 dX3_isLaterAmiss_96 (by decide) (fun c_95 => ?_) (fun c_95 => ?_)
          · skip
            refine lv_iconst (v := 1) C0.1 C0.2.1 dX3_isLaterAmiss_113 (by decide) ?_
            refine lv_goto (tgt := 118) C0.1 C0.2.1 dX3_isLaterAmiss_114 (by decide) ?_
            exact hv_zret C0 w hr hlk (by decide) (⟨rfl, Or.inl ⟨rfl, by rw [sp_am, if_neg c_40, if_neg c_68, if_pos c_89, if_neg (Nat.succ_ne_zero j)]; simp only [decide_eq_true_eq, Nat.add_sub_cancel]; simp_all [Int64.not_lt, Int64.not_le]⟩⟩) dX3_isLaterAmiss_118
          · skip
            refine lv_iload C0.1 C0.2.1 dX3_isLaterAmiss_99 (lv_at hl 0 rfl) ?_
            refine lv_if_eq (tgt := 117) C0.1 C0.2.1 dX3_isLaterAmiss_101 (by decide) (fun _ => ?_) (fun h9 => absurd h9 (by decide))
            refine lv_iconst (v := 0) C0.1 C0.2.1 dX3_isLaterAmiss_117 (by decide) ?_
            exact hv_zret C0 w hr hlk (by decide) (⟨rfl, Or.inr ⟨rfl, by rw [sp_am, if_neg c_40, if_neg c_68, if_pos c_89, if_neg (Nat.succ_ne_zero j)]; simp only [decide_eq_true_eq, Nat.add_sub_cancel]; simp_all [Int64.not_lt, Int64.not_le]⟩⟩) dX3_isLaterAmiss_118
      · skip
        refine lv_lload_n C0.1 C0.2.1 dX3_isLaterAmiss_71 rfl (lv_at hl 2 rfl) ?_
        refine lv_lload C0.1 C0.2.1 dX3_isLaterAmiss_72 (lv_at hl 1 rfl) ?_
        refine hv_lc_ge (tgt := 82) C0.1 C0.2.1 dX3_isLaterAmiss_74 dX3_isLaterAmiss_75 (by decide) (fun c_74 => ?_) (fun c_74 => ?_)
        · skip
          refine lv_iconst (v := 0) C0.1 C0.2.1 dX3_isLaterAmiss_82 (by decide) ?_
          exact hv_zret C0 w hr hlk (by decide) (⟨rfl, Or.inr ⟨rfl, by rw [sp_am, if_neg c_40, if_pos c_68, if_neg (Nat.succ_ne_zero j)]; simp only [decide_eq_true_eq, Nat.add_sub_cancel]; simp_all [Int64.not_lt, Int64.not_le]⟩⟩) dX3_isLaterAmiss_83
        · skip
          refine lv_iconst (v := 1) C0.1 C0.2.1 dX3_isLaterAmiss_78 (by decide) ?_
          refine lv_goto (tgt := 83) C0.1 C0.2.1 dX3_isLaterAmiss_79 (by decide) ?_
          exact hv_zret C0 w hr hlk (by decide) (⟨rfl, Or.inl ⟨rfl, by rw [sp_am, if_neg c_40, if_pos c_68, if_neg (Nat.succ_ne_zero j)]; simp only [decide_eq_true_eq, Nat.add_sub_cancel]; simp_all [Int64.not_lt, Int64.not_le]⟩⟩) dX3_isLaterAmiss_83
    · skip
      refine lv_lload_n C0.1 C0.2.1 dX3_isLaterAmiss_43 rfl (lv_at hl 2 rfl) ?_
      refine lv_lload C0.1 C0.2.1 dX3_isLaterAmiss_44 (lv_at hl 1 rfl) ?_
      refine lv_lload C0.1 C0.2.1 dX3_isLaterAmiss_46 (lv_at hl 1 rfl) ?_
      refine lv_lconst (v := 1) C0.1 C0.2.1 dX3_isLaterAmiss_48 (by decide) ?_
      refine lv_lsub C0.1 C0.2.1 dX3_isLaterAmiss_49 ?_
      refine lv_lmul C0.1 C0.2.1 dX3_isLaterAmiss_50 ?_
      refine lv_lconst (v := 1) C0.1 C0.2.1 dX3_isLaterAmiss_51 (by decide) ?_
      refine lv_ladd C0.1 C0.2.1 dX3_isLaterAmiss_52 ?_
      refine hv_lc_ge (tgt := 61) C0.1 C0.2.1 dX3_isLaterAmiss_53 dX3_isLaterAmiss_54 (by decide) (fun c_53 => ?_) (fun c_53 => ?_)
      · skip
        refine lv_iconst (v := 0) C0.1 C0.2.1 dX3_isLaterAmiss_61 (by decide) ?_
        exact hv_zret C0 w hr hlk (by decide) (⟨rfl, Or.inr ⟨rfl, by rw [sp_am, if_pos c_40, if_neg (Nat.succ_ne_zero j)]; simp only [decide_eq_true_eq, Nat.add_sub_cancel]; simp_all [Int64.not_lt, Int64.not_le]⟩⟩) dX3_isLaterAmiss_62
      · skip
        refine lv_iconst (v := 1) C0.1 C0.2.1 dX3_isLaterAmiss_57 (by decide) ?_
        refine lv_goto (tgt := 62) C0.1 C0.2.1 dX3_isLaterAmiss_58 (by decide) ?_
        exact hv_zret C0 w hr hlk (by decide) (⟨rfl, Or.inl ⟨rfl, by rw [sp_am, if_pos c_40, if_neg (Nat.succ_ne_zero j)]; simp only [decide_eq_true_eq, Nat.add_sub_cancel]; simp_all [Int64.not_lt, Int64.not_le]⟩⟩) dX3_isLaterAmiss_62
  · skip
    refine lv_iconst (v := 1) C0.1 C0.2.1 dX3_isLaterAmiss_29 (by decide) ?_
    refine lv_goto (tgt := 34) C0.1 C0.2.1 dX3_isLaterAmiss_30 (by decide) ?_
    refine lv_istore (lv' := [(6, .int 1), (4, .long ((f j).toInt64)), (2, .long ((f (j + 1)).toInt64)), (0, .ref r), (1, .int (nI (j + 1)))]) C0.1 C0.2.1 dX3_isLaterAmiss_34 hl (by decide) rfl (fun ls hl => ?_)
    refine lv_aload_n C0.1 C0.2.1 dX3_isLaterAmiss_36 rfl (lv_at hl 3 rfl) ?_
    refine gf_X3_15 C0 w hR rfl dX3_isLaterAmiss_37 ?_
    refine lv_if_ne (tgt := 63) C0.1 C0.2.1 dX3_isLaterAmiss_40 (by decide) (fun c_40 => ?_) (fun c_40 => ?_)
    · skip
      refine lv_aload_n C0.1 C0.2.1 dX3_isLaterAmiss_63 rfl (lv_at hl 3 rfl) ?_
      refine gf_X3_15 C0 w hR rfl dX3_isLaterAmiss_64 ?_
      refine lv_iconst (v := 1) C0.1 C0.2.1 dX3_isLaterAmiss_67 (by decide) ?_
      refine lv_icmp_ne (tgt := 84) C0.1 C0.2.1 dX3_isLaterAmiss_68 (by decide) (fun c_68 => ?_) (fun c_68 => ?_)
      · skip
        refine lv_aload_n C0.1 C0.2.1 dX3_isLaterAmiss_84 rfl (lv_at hl 3 rfl) ?_
        refine gf_X3_15 C0 w hR rfl dX3_isLaterAmiss_85 ?_
        refine lv_iconst (v := 2) C0.1 C0.2.1 dX3_isLaterAmiss_88 (by decide) ?_
        refine lv_icmp_ne (tgt := 119) C0.1 C0.2.1 dX3_isLaterAmiss_89 (by decide) (fun c_89 => ?_) (fun c_89 => ?_)
        · skip
          refine lv_lload_n C0.1 C0.2.1 dX3_isLaterAmiss_119 rfl (lv_at hl 2 rfl) ?_
          refine lv_iload_n C0.1 C0.2.1 dX3_isLaterAmiss_120 rfl (lv_at hl 4 rfl) ?_
          refine lv_iconst (v := 1) C0.1 C0.2.1 dX3_isLaterAmiss_121 (by decide) ?_
          refine lv_iadd C0.1 C0.2.1 dX3_isLaterAmiss_122 ?_
          refine lv_i2l (v := ((nI (j + 1)) + 1).toInt64) C0.1 C0.2.1 dX3_isLaterAmiss_123 rfl ?_
          refine hv_lc_gt (tgt := 139) C0.1 C0.2.1 dX3_isLaterAmiss_124 dX3_isLaterAmiss_125 (by decide) (fun c_124 => ?_) (fun c_124 => ?_)
          · skip
            refine lv_iconst (v := 1) C0.1 C0.2.1 dX3_isLaterAmiss_139 (by decide) ?_
            refine lv_goto (tgt := 144) C0.1 C0.2.1 dX3_isLaterAmiss_140 (by decide) ?_
            exact hv_zret C0 w hr hlk (by decide) (⟨rfl, Or.inl ⟨rfl, by rw [sp_am, if_neg c_40, if_neg c_68, if_neg c_89]; simp only [decide_eq_true_eq, Nat.add_sub_cancel]; simp_all [Int64.not_lt, Int64.not_le]⟩⟩) dX3_isLaterAmiss_144
          · skip
            refine lv_iload C0.1 C0.2.1 dX3_isLaterAmiss_128 (lv_at hl 0 rfl) ?_
            refine lv_if_eq (tgt := 143) C0.1 C0.2.1 dX3_isLaterAmiss_130 (by decide) (fun h9 => absurd h9 (by decide)) (fun _ => ?_)
            refine lv_lload_n C0.1 C0.2.1 dX3_isLaterAmiss_133 rfl (lv_at hl 2 rfl) ?_
            refine lv_lconst (v := 0) C0.1 C0.2.1 dX3_isLaterAmiss_134 (by decide) ?_
            refine hv_lc_ne (tgt := 143) C0.1 C0.2.1 dX3_isLaterAmiss_135 dX3_isLaterAmiss_136 (by decide) (fun c_135 => ?_) (fun c_135 => ?_)
            · skip
              refine lv_iconst (v := 0) C0.1 C0.2.1 dX3_isLaterAmiss_143 (by decide) ?_
              exact hv_zret C0 w hr hlk (by decide) (⟨rfl, Or.inr ⟨rfl, by rw [sp_am, if_neg c_40, if_neg c_68, if_neg c_89]; simp only [decide_eq_true_eq, Nat.add_sub_cancel]; simp_all [Int64.not_lt, Int64.not_le]⟩⟩) dX3_isLaterAmiss_144
            · skip
              refine lv_iconst (v := 1) C0.1 C0.2.1 dX3_isLaterAmiss_139 (by decide) ?_
              refine lv_goto (tgt := 144) C0.1 C0.2.1 dX3_isLaterAmiss_140 (by decide) ?_
              exact hv_zret C0 w hr hlk (by decide) (⟨rfl, Or.inl ⟨rfl, by rw [sp_am, if_neg c_40, if_neg c_68, if_neg c_89]; simp only [decide_eq_true_eq, Nat.add_sub_cancel]; simp_all [Int64.not_lt, Int64.not_le]⟩⟩) dX3_isLaterAmiss_144
        · skip
          refine lv_lload_n C0.1 C0.2.1 dX3_isLaterAmiss_92 rfl (lv_at hl 2 rfl) ?_
          refine lv_lload C0.1 C0.2.1 dX3_isLaterAmiss_93 (lv_at hl 1 rfl) ?_
          refine hv_lc_le (tgt := 113) C0.1 C0.2.1 dX3_isLaterAmiss_95 dX3_isLaterAmiss_96 (by decide) (fun c_95 => ?_) (fun c_95 => ?_)
          · skip
            refine lv_iconst (v := 1) C0.1 C0.2.1 dX3_isLaterAmiss_113 (by decide) ?_
            refine lv_goto (tgt := 118) C0.1 C0.2.1 dX3_isLaterAmiss_114 (by decide) ?_
            exact hv_zret C0 w hr hlk (by decide) (⟨rfl, Or.inl ⟨rfl, by rw [sp_am, if_neg c_40, if_neg c_68, if_pos c_89, if_neg (Nat.succ_ne_zero j)]; simp only [decide_eq_true_eq, Nat.add_sub_cancel]; simp_all [Int64.not_lt, Int64.not_le]⟩⟩) dX3_isLaterAmiss_118
          · skip
            refine lv_iload C0.1 C0.2.1 dX3_isLaterAmiss_99 (lv_at hl 0 rfl) ?_
            refine lv_if_eq (tgt := 117) C0.1 C0.2.1 dX3_isLaterAmiss_101 (by decide) (fun h9 => absurd h9 (by decide)) (fun _ => ?_)
            refine lv_lload_n C0.1 C0.2.1 dX3_isLaterAmiss_104 rfl (lv_at hl 2 rfl) ?_
            refine lv_lload C0.1 C0.2.1 dX3_isLaterAmiss_105 (lv_at hl 1 rfl) ?_
            refine lv_lconst (v := 1) C0.1 C0.2.1 dX3_isLaterAmiss_107 (by decide) ?_
            refine lv_ladd C0.1 C0.2.1 dX3_isLaterAmiss_108 ?_
            refine hv_lc_ne (tgt := 117) C0.1 C0.2.1 dX3_isLaterAmiss_109 dX3_isLaterAmiss_110 (by decide) (fun c_109 => ?_) (fun c_109 => ?_)
            · skip
              refine lv_iconst (v := 0) C0.1 C0.2.1 dX3_isLaterAmiss_117 (by decide) ?_
              exact hv_zret C0 w hr hlk (by decide) (⟨rfl, Or.inr ⟨rfl, by rw [sp_am, if_neg c_40, if_neg c_68, if_pos c_89, if_neg (Nat.succ_ne_zero j)]; simp only [decide_eq_true_eq, Nat.add_sub_cancel]; simp_all [Int64.not_lt, Int64.not_le]⟩⟩) dX3_isLaterAmiss_118
            · skip
              refine lv_iconst (v := 1) C0.1 C0.2.1 dX3_isLaterAmiss_113 (by decide) ?_
              refine lv_goto (tgt := 118) C0.1 C0.2.1 dX3_isLaterAmiss_114 (by decide) ?_
              exact hv_zret C0 w hr hlk (by decide) (⟨rfl, Or.inl ⟨rfl, by rw [sp_am, if_neg c_40, if_neg c_68, if_pos c_89, if_neg (Nat.succ_ne_zero j)]; simp only [decide_eq_true_eq, Nat.add_sub_cancel]; simp_all [Int64.not_lt, Int64.not_le]⟩⟩) dX3_isLaterAmiss_118
      · skip
        refine lv_lload_n C0.1 C0.2.1 dX3_isLaterAmiss_71 rfl (lv_at hl 2 rfl) ?_
        refine lv_lload C0.1 C0.2.1 dX3_isLaterAmiss_72 (lv_at hl 1 rfl) ?_
        refine hv_lc_ge (tgt := 82) C0.1 C0.2.1 dX3_isLaterAmiss_74 dX3_isLaterAmiss_75 (by decide) (fun c_74 => ?_) (fun c_74 => ?_)
        · skip
          refine lv_iconst (v := 0) C0.1 C0.2.1 dX3_isLaterAmiss_82 (by decide) ?_
          exact hv_zret C0 w hr hlk (by decide) (⟨rfl, Or.inr ⟨rfl, by rw [sp_am, if_neg c_40, if_pos c_68, if_neg (Nat.succ_ne_zero j)]; simp only [decide_eq_true_eq, Nat.add_sub_cancel]; simp_all [Int64.not_lt, Int64.not_le]⟩⟩) dX3_isLaterAmiss_83
        · skip
          refine lv_iconst (v := 1) C0.1 C0.2.1 dX3_isLaterAmiss_78 (by decide) ?_
          refine lv_goto (tgt := 83) C0.1 C0.2.1 dX3_isLaterAmiss_79 (by decide) ?_
          exact hv_zret C0 w hr hlk (by decide) (⟨rfl, Or.inl ⟨rfl, by rw [sp_am, if_neg c_40, if_pos c_68, if_neg (Nat.succ_ne_zero j)]; simp only [decide_eq_true_eq, Nat.add_sub_cancel]; simp_all [Int64.not_lt, Int64.not_le]⟩⟩) dX3_isLaterAmiss_83
    · skip
      refine lv_lload_n C0.1 C0.2.1 dX3_isLaterAmiss_43 rfl (lv_at hl 2 rfl) ?_
      refine lv_lload C0.1 C0.2.1 dX3_isLaterAmiss_44 (lv_at hl 1 rfl) ?_
      refine lv_lload C0.1 C0.2.1 dX3_isLaterAmiss_46 (lv_at hl 1 rfl) ?_
      refine lv_lconst (v := 1) C0.1 C0.2.1 dX3_isLaterAmiss_48 (by decide) ?_
      refine lv_lsub C0.1 C0.2.1 dX3_isLaterAmiss_49 ?_
      refine lv_lmul C0.1 C0.2.1 dX3_isLaterAmiss_50 ?_
      refine lv_lconst (v := 1) C0.1 C0.2.1 dX3_isLaterAmiss_51 (by decide) ?_
      refine lv_ladd C0.1 C0.2.1 dX3_isLaterAmiss_52 ?_
      refine hv_lc_ge (tgt := 61) C0.1 C0.2.1 dX3_isLaterAmiss_53 dX3_isLaterAmiss_54 (by decide) (fun c_53 => ?_) (fun c_53 => ?_)
      · skip
        refine lv_iconst (v := 0) C0.1 C0.2.1 dX3_isLaterAmiss_61 (by decide) ?_
        exact hv_zret C0 w hr hlk (by decide) (⟨rfl, Or.inr ⟨rfl, by rw [sp_am, if_pos c_40, if_neg (Nat.succ_ne_zero j)]; simp only [decide_eq_true_eq, Nat.add_sub_cancel]; simp_all [Int64.not_lt, Int64.not_le]⟩⟩) dX3_isLaterAmiss_62
      · skip
        refine lv_iconst (v := 1) C0.1 C0.2.1 dX3_isLaterAmiss_57 (by decide) ?_
        refine lv_goto (tgt := 62) C0.1 C0.2.1 dX3_isLaterAmiss_58 (by decide) ?_
        exact hv_zret C0 w hr hlk (by decide) (⟨rfl, Or.inl ⟨rfl, by rw [sp_am, if_pos c_40, if_neg (Nat.succ_ne_zero j)]; simp only [decide_eq_true_eq, Nat.add_sub_cancel]; simp_all [Int64.not_lt, Int64.not_le]⟩⟩) dX3_isLaterAmiss_62

set_option maxHeartbeats 4000000 in
set_option maxRecDepth 100000 in
theorem c_X3_flaw {l : Launch} {X : hv_X} {V : hv_V} {r b n : Nat} {kd : Int32} {f : Nat → Int32} (hR : V r = some (rE kd n b)) (hB : V b = some (nE X f)) (hn : n ≤ 16) : hv_Mi l X 1 yX3_flaw cX3_flaw 2 .int V [.ref r] (fun x V1 => V1 = V ∧ x = sp_flaw kd n f) := by
  refine hv_enter (by decide) (Nat.le_of_ble_eq_true rfl) ?_
  intro p e s m below meth c ls C0 hr hlk hnm w hl
  have hl : lv_has ls 2 [(0, .ref r)] := hl
  have loop : ∀ (m9 i : Nat) (Hq : Heap) (lq : List Loc) (ls : Array Slot), (i + m9 = n) → (sp_fl kd n f m9 i = sp_flaw kd n f) → hv_w X s (V) Hq lq → lv_has ls 2 [(0, .ref r), (1, .int (nI i))] → W p l e (hv_rm 1 0 0) s m ([.ref r] : List Value).toArray below meth c Hq lq 0 0 (MQ below (hv_Qi X (fun x V1 => V1 = V ∧ x = sp_flaw kd n f)) ([.ref r] : List Value).toArray s 0 0 X.2.2.1) (F0 m 11 ls []) := by
    intro m9
    induction m9 with
    | zero =>
      intro i Hq lq ls hi he w hl
      have he : (-5 : Int32) = sp_flaw kd n f := he
      refine lv_iload_n C0.1 C0.2.1 dX3_flaw_11 rfl (lv_at hl 1 rfl) ?_
      refine lv_aload_n C0.1 C0.2.1 dX3_flaw_12 rfl (lv_at hl 0 rfl) ?_
      refine gf_X3_19 C0 w hR rfl dX3_flaw_13 ?_
      refine lv_icmp_ge (tgt := 49) C0.1 C0.2.1 dX3_flaw_16 (by decide) (fun c_16 => ?_) (fun c_16 => absurd (nI_le (by omega) (by omega)) c_16)
      refine lv_bipush (v := -5) C0.1 C0.2.1 dX3_flaw_49 (by decide) ?_
      exact hv_iret C0 w hr hlk (⟨rfl, he⟩) dX3_flaw_51
    | succ m9 ih =>
      intro i Hq lq ls hi he w hl
      rcases Nat.eq_zero_or_pos i with rfl | hi0
      · skip
        refine lv_iload_n C0.1 C0.2.1 dX3_flaw_11 rfl (lv_at hl 1 rfl) ?_
        refine lv_aload_n C0.1 C0.2.1 dX3_flaw_12 rfl (lv_at hl 0 rfl) ?_
        refine gf_X3_19 C0 w hR rfl dX3_flaw_13 ?_
        refine lv_icmp_ge (tgt := 49) C0.1 C0.2.1 dX3_flaw_16 (by decide) (fun c_16 => absurd c_16 (nI_ge (by omega) (by omega))) (fun c_16 => ?_)
        refine lv_iload_n C0.1 C0.2.1 dX3_flaw_19 rfl (lv_at hl 1 rfl) ?_
        refine lv_if_ne (tgt := 33) C0.1 C0.2.1 dX3_flaw_20 (by decide) (fun c_20 => absurd (rfl) c_20) (fun c_20 => ?_)
        refine lv_aload_n C0.1 C0.2.1 dX3_flaw_23 rfl (lv_at hl 0 rfl) ?_
        refine hv_cVi C0 w kl_X3_87 kv_X3_isFirstAmiss rfl hR (c_X3_isFirstAmiss hR hB) (by decide) (by decide) rfl hl.1 rfl (Nat.le_of_ble_eq_true rfl) dX3_flaw_24 ⟨Nat.le_refl _, Nat.le_refl _⟩ (fun x1 V2 Hq lq hp3 w => ?_)
        obtain ⟨e9, hz9⟩ := hp3
        rw [e9] at w; clear e9
        rcases hz9 with ⟨rfl, hb4⟩ | ⟨rfl, hb4⟩
        · skip
          refine lv_if_eq (tgt := 43) C0.1 C0.2.1 dX3_flaw_27 (by decide) (fun h9 => absurd h9 (by decide)) (fun _ => ?_)
          refine lv_goto (tgt := 41) C0.1 C0.2.1 dX3_flaw_30 (by decide) ?_
          refine lv_iload_n C0.1 C0.2.1 dX3_flaw_41 rfl (lv_at hl 1 rfl) ?_
          exact hv_iret C0 w hr hlk (⟨rfl, by rw [← he, sp_fl, if_pos hb4]⟩) dX3_flaw_42
        · skip
          refine lv_if_eq (tgt := 43) C0.1 C0.2.1 dX3_flaw_27 (by decide) (fun _ => ?_) (fun h9 => absurd h9 (by decide))
          refine lv_iinc (v := (nI 0) + 1) (lv' := [(1, .int ((nI 0) + 1)), (0, .ref r)]) C0.1 C0.2.1 dX3_flaw_43 hl (k := 1) rfl rfl (by decide) rfl (fun ls hl => ?_)
          refine lv_goto (tgt := 11) C0.1 C0.2.1 dX3_flaw_46 (by decide) ?_
          exact ih (0 + 1) _ _ ls (by omega) (by rw [← he, sp_fl, if_neg hb4]) w (by have h9 := (lv_sub (l' := [(0, .ref r), (1, .int (nI 0 + 1))]) hl [1, 0] rfl); rw [nI_1] at h9; exact h9)
      · obtain ⟨j, rfl⟩ : ∃ j, i = j + 1 := ⟨i - 1, by omega⟩
        refine lv_iload_n C0.1 C0.2.1 dX3_flaw_11 rfl (lv_at hl 1 rfl) ?_
        refine lv_aload_n C0.1 C0.2.1 dX3_flaw_12 rfl (lv_at hl 0 rfl) ?_
        refine gf_X3_19 C0 w hR rfl dX3_flaw_13 ?_
        refine lv_icmp_ge (tgt := 49) C0.1 C0.2.1 dX3_flaw_16 (by decide) (fun c_16 => absurd c_16 (nI_ge (by omega) (by omega))) (fun c_16 => ?_)
        refine lv_iload_n C0.1 C0.2.1 dX3_flaw_19 rfl (lv_at hl 1 rfl) ?_
        refine lv_if_ne (tgt := 33) C0.1 C0.2.1 dX3_flaw_20 (by decide) (fun c_20 => ?_) (fun c_20 => absurd c_20 (nI_ne0 (by omega) (by omega)))
        refine lv_aload_n C0.1 C0.2.1 dX3_flaw_33 rfl (lv_at hl 0 rfl) ?_
        refine lv_iload_n C0.1 C0.2.1 dX3_flaw_34 rfl (lv_at hl 1 rfl) ?_
        refine hv_cVi C0 w kl_X3_90 kv_X3_isLaterAmiss rfl hR (c_X3_isLaterAmiss (j := j) hR hB (by omega)) (by decide) (by decide) rfl hl.1 rfl (Nat.le_of_ble_eq_true rfl) dX3_flaw_35 ⟨Nat.le_refl _, Nat.le_refl _⟩ (fun x1 V2 Hq lq hp3 w => ?_)
        obtain ⟨e9, hz9⟩ := hp3
        rw [e9] at w; clear e9
        rcases hz9 with ⟨rfl, hb4⟩ | ⟨rfl, hb4⟩
        · skip
          refine lv_if_eq (tgt := 43) C0.1 C0.2.1 dX3_flaw_38 (by decide) (fun h9 => absurd h9 (by decide)) (fun _ => ?_)
          refine lv_iload_n C0.1 C0.2.1 dX3_flaw_41 rfl (lv_at hl 1 rfl) ?_
          exact hv_iret C0 w hr hlk (⟨rfl, by rw [← he, sp_fl, if_pos hb4]⟩) dX3_flaw_42
        · skip
          refine lv_if_eq (tgt := 43) C0.1 C0.2.1 dX3_flaw_38 (by decide) (fun _ => ?_) (fun h9 => absurd h9 (by decide))
          refine lv_iinc (v := (nI (j + 1)) + 1) (lv' := [(1, .int ((nI (j + 1)) + 1)), (0, .ref r)]) C0.1 C0.2.1 dX3_flaw_43 hl (k := 1) rfl rfl (by decide) rfl (fun ls hl => ?_)
          refine lv_goto (tgt := 11) C0.1 C0.2.1 dX3_flaw_46 (by decide) ?_
          exact ih ((j + 1) + 1) _ _ ls (by omega) (by rw [← he, sp_fl, if_neg hb4]) w (by have h9 := (lv_sub (l' := [(0, .ref r), (1, .int (nI (j + 1) + 1))]) hl [1, 0] rfl); rw [nI_1] at h9; exact h9)
  refine lv_aload_n C0.1 C0.2.1 dX3_flaw_0 rfl (lv_at hl 0 rfl) ?_
  refine gf_X3_19 C0 w hR rfl dX3_flaw_1 ?_
  refine lv_if_ne (tgt := 9) C0.1 C0.2.1 dX3_flaw_4 (by decide) (fun c_4 => ?_) (fun c_4 => ?_)
  · skip
    refine lv_iconst (v := 0) C0.1 C0.2.1 dX3_flaw_9 (by decide) ?_
    refine lv_istore_n (lv' := [(1, .int 0), (0, .ref r)]) C0.1 C0.2.1 dX3_flaw_10 rfl hl (by decide) rfl (fun ls hl => ?_)
    exact loop n 0 _ _ ls (by omega) (by rw [sp_flaw, if_neg (fun h9 => c_4 (by rw [h9]; rfl))]) w (lv_sub hl [1, 0] rfl)
  · skip
    refine lv_iconst (v := 0) C0.1 C0.2.1 dX3_flaw_7 (by decide) ?_
    exact hv_iret C0 w hr hlk (⟨rfl, by rw [sp_flaw, if_pos ((nI_eq (b := 0) (by omega) (by omega)).mp c_4)]⟩) dX3_flaw_8

