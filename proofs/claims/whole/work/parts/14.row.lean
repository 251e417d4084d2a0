/-! ROW: kind, size, numbers (16 of them) -/
abbrev rE (kd : Int32) (n b : Nat) : va_E := .inr (3, [.int kd, .int (nI n), .ref b])
abbrev nE (X : hv_X) (f : Nat → Int32) : va_E := .inl (X.2.1 0, 16, .inl f)
def fx_fold (kd : Int32) (f : Nat → Int32) (j : Nat) (F : fx_F) : fx_F := if kd = 0 then fx_addOn F 1 (f j).toInt64 else if kd = 1 then fx_divBy (fx_addOn F 1 1) (f j).toInt64 else if kd = 2 then fx_divBy (fx_rest F) (f j).toInt64 else fx_divBy (fx_addOn F (f j).toInt64 1) (nI j + 2).toInt64
def fx_rk (kd : Int32) (f : Nat → Int32) : Nat → fx_F → fx_F
  | 0, F => F
  | j + 1, F => if F.2.2 = 0 then F else fx_rk kd f j (fx_fold kd f j F)
def fx_reckon (kd : Int32) (f : Nat → Int32) (k : Nat) : fx_F := fx_rk kd f k (fx_become 0 1)
def fx_next (kd : Int32) (n : Nat) (F : fx_F) : Int64 := if kd = 0 ∨ kd = 1 then (if 0 < F.1 then (F.2.1 + F.1 - 1) / F.1 else 0) else if kd = 2 then (if 0 < F.1 then F.2.1 / F.1 else 0) else (if 0 < F.2.1 then F.1 * (nI n + 2).toInt64 / F.2.1 else 0)
def fx_out (kd : Int32) (n : Nat) (a : Int64) (F : fx_F) : fx_F := if kd = 0 then fx_become (F.1 * a - F.2.1) (F.2.1 * a) else if kd = 1 then fx_become (F.1 * a - F.2.1) F.2.1 else if kd = 2 then fx_become (F.2.1 - F.1 * a) F.2.1 else fx_become (F.1 * (nI n + 2).toInt64 - a * F.2.1) F.2.1
def fx_unf (kd : Int32) : Nat → Nat → (Nat → Int32) → fx_F → Nat × (Nat → Int32) × fx_F
  | 0, n, f, F => (n, f, F)
  | m + 1, n, f, F => if fx_proper F then (if 1000000000 < fx_next kd n F then (n, f, F) else if (fx_out kd n (fx_next kd n F) F).2.2 = 0 then (n, f, fx_out kd n (fx_next kd n F) F) else fx_unf kd m (n + 1) (upd f n (fx_next kd n F).toInt32) (fx_out kd n (fx_next kd n F) F)) else (n, f, F)
theorem hn_in {n N : Nat} (h : n < N) (hN : N < 2 ^ 31) : vp_in (nI n) N := vp_in_nI h hN
set_option maxHeartbeats 4000000 in
set_option maxRecDepth 100000 in
theorem c_X3_clear {l : Launch} {X : hv_X} {V : hv_V} {r b n : Nat} {kd : Int32} {f : Nat → Int32} (hR : V r = some (rE kd n b)) (hB : V b = some (nE X f)) {k : Int32} : hv_Mv l X 0 yX3_clear cX3_clear 2 V [.ref r, .int k] (fun V1 => V1 = hv_up V r (rE k 0 b)) := by
  refine hv_enter (by decide) (Nat.le_of_ble_eq_true rfl) ?_
  intro p e s m below meth c ls C0 hr hlk hnm w hl
  have hl : lv_has ls 2 [(0, .ref r), (1, .int k)] := hl
  refine lv_aload_n C0.1 C0.2.1 dX3_clear_0 rfl (lv_at hl 0 rfl) ?_
  refine lv_iload_n C0.1 C0.2.1 dX3_clear_1 rfl (lv_at hl 1 rfl) ?_
  refine pf_X3_15 C0 w hR (by simp) dX3_clear_2 (fun Hq lq w => ?_)
  obtain ⟨V1, eV2⟩ : ∃ V9, V9 = hv_up V r (.inr (3, [.int k, .int (nI n), .ref b])) := ⟨_, rfl⟩
  have w : hv_w X s V1 Hq lq := by rw [eV2]; exact w
  have hV4 : V1 b = some (.inl (X.2.1 0, 16, .inl f)) := by rw [eV2, hv_un (hv_ne hB hR (by intro h9; simp at h9))]; exact hB
  have hV5 : V1 r = some (.inr (3, [.int k, .int (nI n), .ref b])) := by rw [eV2]; exact hv_us
  refine lv_aload_n C0.1 C0.2.1 dX3_clear_5 rfl (lv_at hl 0 rfl) ?_
  refine lv_iconst (v := 0) C0.1 C0.2.1 dX3_clear_6 (by decide) ?_
  refine pf_X3_19 C0 w hV5 (by simp) dX3_clear_7 (fun Hq lq w => ?_)
  obtain ⟨V6, eV7⟩ : ∃ V9, V9 = hv_up V1 r (.inr (3, [.int k, .int 0, .ref b])) := ⟨_, rfl⟩
  have w : hv_w X s V6 Hq lq := by rw [eV7]; exact w
  have hV8 : V6 b = some (.inl (X.2.1 0, 16, .inl f)) := by rw [eV7, hv_un (hv_ne hV4 hV5 (by intro h9; simp at h9))]; exact hV4
  have hV10 : V6 r = some (.inr (3, [.int k, .int 0, .ref b])) := by rw [eV7]; exact hv_us
  exact hv_vret C0 w hr hlk (by rw [eV7, eV2, hv_uu] <;> rfl) dX3_clear_10

set_option maxHeartbeats 4000000 in
set_option maxRecDepth 100000 in
theorem c_X3_append {l : Launch} {X : hv_X} {V : hv_V} {r b n : Nat} {kd : Int32} {f : Nat → Int32} (hR : V r = some (rE kd n b)) (hB : V b = some (nE X f)) (hn : n ≤ 16) {v : Int32} : hv_Mi l X 0 yX3_append cX3_append 2 .boolean V [.ref r, .int v] (fun x V1 => (n < 16 ∧ x = 1 ∧ V1 = hv_up (hv_up V b (nE X (upd f n v))) r (rE kd (n + 1) b)) ∨ (¬ n < 16 ∧ x = 0 ∧ V1 = V)) := by
  refine hv_enter (by decide) (Nat.le_of_ble_eq_true rfl) ?_
  intro p e s m below meth c ls C0 hr hlk hnm w hl
  have hl : lv_has ls 2 [(0, .ref r), (1, .int v)] := hl
  refine lv_aload_n C0.1 C0.2.1 dX3_append_0 rfl (lv_at hl 0 rfl) ?_
  refine gf_X3_19 C0 w hR rfl dX3_append_1 ?_
  refine lv_bipush (v := 16) C0.1 C0.2.1 dX3_append_4 (by decide) ?_
  refine lv_icmp_lt (tgt := 11) C0.1 C0.2.1 dX3_append_6 (by decide) (fun c_6 => ?_) (fun c_6 => ?_)
  · skip
    have hlt : n < 16 := (nI_ltI (by omega) (by omega)).mp (show nI n < nI 16 from c_6)
    refine lv_aload_n C0.1 C0.2.1 dX3_append_11 rfl (lv_at hl 0 rfl) ?_
    refine gf_X3_9 C0 w hR rfl dX3_append_12 ?_
    refine lv_aload_n C0.1 C0.2.1 dX3_append_15 rfl (lv_at hl 0 rfl) ?_
    refine gf_X3_19 C0 w hR rfl dX3_append_16 ?_
    refine lv_iload_n C0.1 C0.2.1 dX3_append_19 rfl (lv_at hl 1 rfl) ?_
    refine hv_iast C0 w hB (hn_in hlt (by decide)) dX3_append_20 (fun Hq lq w => ?_)
    have hc1 : (nI n).toNatClampNeg = n := nI_clamp (by omega)
    rw [hc1] at w
    obtain ⟨V2, eV3⟩ : ∃ V9, V9 = hv_up V b (.inl (X.2.1 0, 16, .inl (upd f n v))) := ⟨_, rfl⟩
    have w : hv_w X s V2 Hq lq := by rw [eV3]; exact w
    have hV4 : V2 r = some (.inr (3, [.int kd, .int (nI n), .ref b])) := by rw [eV3, hv_un (hv_ne hR hB (by intro h9; simp at h9))]; exact hR
    have hV6 : V2 b = some (.inl (X.2.1 0, 16, .inl (upd f n v))) := by rw [eV3]; exact hv_us
    refine lv_aload_n C0.1 C0.2.1 dX3_append_21 rfl (lv_at hl 0 rfl) ?_
    refine lv_dup C0.1 C0.2.1 dX3_append_22 rfl ?_
    refine gf_X3_19 C0 w hV4 rfl dX3_append_23 ?_
    refine lv_iconst (v := 1) C0.1 C0.2.1 dX3_append_26 (by decide) ?_
    refine lv_iadd C0.1 C0.2.1 dX3_append_27 ?_
    rw [nI_1]
    refine pf_X3_19 C0 w hV4 (by simp) dX3_append_28 (fun Hq lq w => ?_)
    obtain ⟨V7, eV8⟩ : ∃ V9, V9 = hv_up V2 r (.inr (3, [.int kd, .int (nI (n + 1)), .ref b])) := ⟨_, rfl⟩
    have w : hv_w X s V7 Hq lq := by rw [eV8]; exact w
    have hV10 : V7 b = some (.inl (X.2.1 0, 16, .inl (upd f n v))) := by rw [eV8, hv_un (hv_ne hV6 hV4 (by intro h9; simp at h9))]; exact hV6
    have hV11 : V7 r = some (.inr (3, [.int kd, .int (nI (n + 1)), .ref b])) := by rw [eV8]; exact hv_us
    refine lv_iconst (v := 1) C0.1 C0.2.1 dX3_append_31 (by decide) ?_
    exact hv_zret C0 w hr hlk (by decide) (Or.inl ⟨hlt, rfl, by rw [eV8, eV3]⟩) dX3_append_32
  · skip
    refine lv_iconst (v := 0) C0.1 C0.2.1 dX3_append_9 (by decide) ?_
    exact hv_zret C0 w hr hlk (by decide) (Or.inr ⟨fun h9 => absurd (show nI n < nI 16 from nI_lt h9 (by omega)) c_6, rfl, rfl⟩) dX3_append_10

set_option maxHeartbeats 4000000 in
set_option maxRecDepth 100000 in
theorem c_X3_becomeAs {l : Launch} {X : hv_X} {V : hv_V} {r b n : Nat} {kd : Int32} {f : Nat → Int32} (hR : V r = some (rE kd n b)) (hB : V b = some (nE X f)) {r2 b2 n2 : Nat} {kd2 : Int32} {f2 : Nat → Int32} (hR2 : V r2 = some (rE kd2 n2 b2)) (hB2 : V b2 = some (nE X f2)) (hnr : r2 ≠ r) (hnb : b2 ≠ b) : hv_Mv l X 1 yX3_becomeAs cX3_becomeAs 2 V [.ref r, .ref r2] (fun V1 => V1 = hv_up (hv_up V r (rE kd2 n2 b)) b (nE X (va_cpy f2 f 0 0 16))) := by
  refine hv_enter (by decide) (Nat.le_of_ble_eq_true rfl) ?_
  intro p e s m below meth c ls C0 hr hlk hnm w hl
  have hl : lv_has ls 2 [(0, .ref r), (1, .ref r2)] := hl
  refine lv_aload_n C0.1 C0.2.1 dX3_becomeAs_0 rfl (lv_at hl 0 rfl) ?_
  refine lv_aload_n C0.1 C0.2.1 dX3_becomeAs_1 rfl (lv_at hl 1 rfl) ?_
  refine gf_X3_15 C0 w hR2 rfl dX3_becomeAs_2 ?_
  refine pf_X3_15 C0 w hR (by simp) dX3_becomeAs_5 (fun Hq lq w => ?_)
  obtain ⟨V1, eV2⟩ : ∃ V9, V9 = hv_up V r (.inr (3, [.int kd2, .int (nI n), .ref b])) := ⟨_, rfl⟩
  have w : hv_w X s V1 Hq lq := by rw [eV2]; exact w
  have hV4 : V1 b = some (.inl (X.2.1 0, 16, .inl f)) := by rw [eV2, hv_un (hv_ne hB hR (by intro h9; simp at h9))]; exact hB
  have hV5 : V1 r2 = some (.inr (3, [.int kd2, .int (nI n2), .ref b2])) := by rw [eV2, hv_un hnr]; exact hR2
  have hV6 : V1 b2 = some (.inl (X.2.1 0, 16, .inl f2)) := by rw [eV2, hv_un (hv_ne hB2 hR (by intro h9; simp at h9))]; exact hB2
  have hV7 : V1 r = some (.inr (3, [.int kd2, .int (nI n), .ref b])) := by rw [eV2]; exact hv_us
  refine lv_aload_n C0.1 C0.2.1 dX3_becomeAs_8 rfl (lv_at hl 0 rfl) ?_
  refine lv_aload_n C0.1 C0.2.1 dX3_becomeAs_9 rfl (lv_at hl 1 rfl) ?_
  refine gf_X3_19 C0 w hV5 rfl dX3_becomeAs_10 ?_
  refine pf_X3_19 C0 w hV7 (by simp) dX3_becomeAs_13 (fun Hq lq w => ?_)
  obtain ⟨V8, eV9⟩ : ∃ V9, V9 = hv_up V1 r (.inr (3, [.int kd2, .int (nI n2), .ref b])) := ⟨_, rfl⟩
  have w : hv_w X s V8 Hq lq := by rw [eV9]; exact w
  have hV10 : V8 b = some (.inl (X.2.1 0, 16, .inl f)) := by rw [eV9, hv_un (hv_ne hV4 hV7 (by intro h9; simp at h9))]; exact hV4
  have hV11 : V8 r2 = some (.inr (3, [.int kd2, .int (nI n2), .ref b2])) := by rw [eV9, hv_un hnr]; exact hV5
  have hV12 : V8 b2 = some (.inl (X.2.1 0, 16, .inl f2)) := by rw [eV9, hv_un (hv_ne hV6 hV7 (by intro h9; simp at h9))]; exact hV6
  have hV14 : V8 r = some (.inr (3, [.int kd2, .int (nI n2), .ref b])) := by rw [eV9]; exact hv_us
  refine lv_aload_n C0.1 C0.2.1 dX3_becomeAs_16 rfl (lv_at hl 1 rfl) ?_
  refine gf_X3_9 C0 w hV11 rfl dX3_becomeAs_17 ?_
  refine lv_iconst (v := 0) C0.1 C0.2.1 dX3_becomeAs_20 (by decide) ?_
  refine lv_aload_n C0.1 C0.2.1 dX3_becomeAs_21 rfl (lv_at hl 0 rfl) ?_
  refine gf_X3_9 C0 w hV14 rfl dX3_becomeAs_22 ?_
  refine lv_iconst (v := 0) C0.1 C0.2.1 dX3_becomeAs_25 (by decide) ?_
  refine lv_bipush (v := 16) C0.1 C0.2.1 dX3_becomeAs_26 (by decide) ?_
  refine hv_copyi C0 w hl.1 kj_X3_22 hV12 hV10 (by decide) (by decide) (by decide) (by decide) (by decide) (by decide) (Nat.le_of_ble_eq_true rfl) dX3_becomeAs_28 (fun Hq lq w => ?_)
  obtain ⟨V15, eV16⟩ : ∃ V9, V9 = hv_up V8 b (.inl (X.2.1 0, 16, .inl (va_cpy f2 f 0 0 16))) := ⟨_, rfl⟩
  have w : hv_w X s V15 Hq lq := by rw [eV16]; exact w
  have hV18 : V15 r2 = some (.inr (3, [.int kd2, .int (nI n2), .ref b2])) := by rw [eV16, hv_un (hv_ne hV11 hV10 (by intro h9; simp at h9))]; exact hV11
  have hV19 : V15 b2 = some (.inl (X.2.1 0, 16, .inl f2)) := by rw [eV16, hv_un hnb]; exact hV12
  have hV20 : V15 r = some (.inr (3, [.int kd2, .int (nI n2), .ref b])) := by rw [eV16, hv_un (hv_ne hV14 hV10 (by intro h9; simp at h9))]; exact hV14
  have hV21 : V15 b = some (.inl (X.2.1 0, 16, .inl (va_cpy f2 f 0 0 16))) := by rw [eV16]; exact hv_us
  exact hv_vret C0 w hr hlk (by rw [eV16, eV9, eV2, hv_uu] <;> rfl) dX3_becomeAs_31

set_option maxHeartbeats 4000000 in
set_option maxRecDepth 100000 in
theorem c_X3_becomeAs_self {l : Launch} {X : hv_X} {V : hv_V} {r b n : Nat} {kd : Int32} {f : Nat → Int32} (hR : V r = some (rE kd n b)) (hB : V b = some (nE X f))  : hv_Mv l X 1 yX3_becomeAs cX3_becomeAs 2 V [.ref r, .ref r] (fun V1 => V1 = V) := by
  refine hv_enter (by decide) (Nat.le_of_ble_eq_true rfl) ?_
  intro p e s m below meth c ls C0 hr hlk hnm w hl
  have hl : lv_has ls 2 [(0, .ref r), (1, .ref r)] := hl
  refine lv_aload_n C0.1 C0.2.1 dX3_becomeAs_0 rfl (lv_at hl 0 rfl) ?_
  refine lv_aload_n C0.1 C0.2.1 dX3_becomeAs_1 rfl (lv_at hl 1 rfl) ?_
  refine gf_X3_15 C0 w hR rfl dX3_becomeAs_2 ?_
  refine pf_X3_15 C0 w hR (by simp) dX3_becomeAs_5 (fun Hq lq w => ?_)
  obtain ⟨V1, eV2⟩ : ∃ V9, V9 = hv_up V r (.inr (3, [.int kd, .int (nI n), .ref b])) := ⟨_, rfl⟩
  have w : hv_w X s V1 Hq lq := by rw [eV2]; exact w
  have hV4 : V1 b = some (.inl (X.2.1 0, 16, .inl f)) := by rw [eV2, hv_un (hv_ne hB hR (by intro h9; simp at h9))]; exact hB
  have hV5 : V1 r = some (.inr (3, [.int kd, .int (nI n), .ref b])) := by rw [eV2]; exact hv_us
  refine lv_aload_n C0.1 C0.2.1 dX3_becomeAs_8 rfl (lv_at hl 0 rfl) ?_
  refine lv_aload_n C0.1 C0.2.1 dX3_becomeAs_9 rfl (lv_at hl 1 rfl) ?_
  refine gf_X3_19 C0 w hV5 rfl dX3_becomeAs_10 ?_
  refine pf_X3_19 C0 w hV5 (by simp) dX3_becomeAs_13 (fun Hq lq w => ?_)
  obtain ⟨V6, eV7⟩ : ∃ V9, V9 = hv_up V1 r (.inr (3, [.int kd, .int (nI n), .ref b])) := ⟨_, rfl⟩
  have w : hv_w X s V6 Hq lq := by rw [eV7]; exact w
  have hV8 : V6 b = some (.inl (X.2.1 0, 16, .inl f)) := by rw [eV7, hv_un (hv_ne hV4 hV5 (by intro h9; simp at h9))]; exact hV4
  have hV10 : V6 r = some (.inr (3, [.int kd, .int (nI n), .ref b])) := by rw [eV7]; exact hv_us
  refine lv_aload_n C0.1 C0.2.1 dX3_becomeAs_16 rfl (lv_at hl 1 rfl) ?_
  refine gf_X3_9 C0 w hV10 rfl dX3_becomeAs_17 ?_
  refine lv_iconst (v := 0) C0.1 C0.2.1 dX3_becomeAs_20 (by decide) ?_
  refine lv_aload_n C0.1 C0.2.1 dX3_becomeAs_21 rfl (lv_at hl 0 rfl) ?_
  refine gf_X3_9 C0 w hV10 rfl dX3_becomeAs_22 ?_
  refine lv_iconst (v := 0) C0.1 C0.2.1 dX3_becomeAs_25 (by decide) ?_
  refine lv_bipush (v := 16) C0.1 C0.2.1 dX3_becomeAs_26 (by decide) ?_
  refine hv_copyi C0 w hl.1 kj_X3_22 hV8 hV8 (by decide) (by decide) (by decide) (by decide) (by decide) (by decide) (Nat.le_of_ble_eq_true rfl) dX3_becomeAs_28 (fun Hq lq w => ?_)
  obtain ⟨V11, eV12⟩ : ∃ V9, V9 = hv_up V6 b (.inl (X.2.1 0, 16, .inl (va_cpy f f 0 0 16))) := ⟨_, rfl⟩
  have w : hv_w X s V11 Hq lq := by rw [eV12]; exact w
  have hV14 : V11 r = some (.inr (3, [.int kd, .int (nI n), .ref b])) := by rw [eV12, hv_un (hv_ne hV10 hV8 (by intro h9; simp at h9))]; exact hV10
  have hV15 : V11 b = some (.inl (X.2.1 0, 16, .inl (va_cpy f f 0 0 16))) := by rw [eV12]; exact hv_us
  exact hv_vret C0 w hr hlk (by rw [eV12, eV7, eV2, hv_uu, hv_id hR]; exact (congrArg (fun g => hv_up V b (nE X g)) (by funext k; simp only [va_cpy]; split <;> simp)).trans (hv_id hB)) dX3_becomeAs_31

theorem hn_dec (x : Int32) : x + (-1) = x - 1 := (Int32.sub_eq_add_neg x 1).symm
theorem hv_p3 {V : hv_V} {a b c : Nat} {e1 e2 e3 g1 g2 g3 : va_E} (hab : a ≠ b) (hac : a ≠ c) (hbc : b ≠ c) : hv_up (hv_up (hv_up (hv_up (hv_up (hv_up V a e1) b e2) c e3) c g3) b g2) a g1 = hv_up (hv_up (hv_up V a g1) b g2) c g3 := by
  funext q
  by_cases h1 : q = a
  · subst h1; rw [hv_us, hv_un hac, hv_un hab, hv_us]
  · rw [hv_un h1]
    by_cases h2 : q = b
    · subst h2; rw [hv_us, hv_un hbc, hv_us]
    · rw [hv_un h2]
      by_cases h3 : q = c
      · subst h3; rw [hv_us, hv_us]
      · rw [hv_un h3, hv_un h3, hv_un h2, hv_un h1, hv_un h3, hv_un h2, hv_un h1]
theorem hv_p2 {V : hv_V} {a b : Nat} {e1 e2 g1 g2 : va_E} (hab : a ≠ b) : hv_up (hv_up (hv_up (hv_up V a e1) b e2) b g2) a g1 = hv_up (hv_up V a g1) b g2 := by
  funext q
  by_cases h1 : q = a
  · subst h1; rw [hv_us, hv_un hab, hv_us]
  · rw [hv_un h1]
    by_cases h2 : q = b
    · subst h2; rw [hv_us, hv_us]
    · rw [hv_un h2, hv_un h2, hv_un h1, hv_un h2, hv_un h1]
set_option maxHeartbeats 4000000 in
set_option maxRecDepth 100000 in
theorem c_X3_fold {l : Launch} {X : hv_X} {V : hv_V} {r b n : Nat} {kd : Int32} {f : Nat → Int32} (hR : V r = some (rE kd n b)) (hB : V b = some (nE X f)) {o : Nat} {F : fx_F} (hO : V o = some (fE F)) {j : Nat} (hj : j < 16) : hv_Mv l X 3 yX3_fold cX3_fold 5 V [.ref r, .int (nI j), .ref o] (fun V1 => V1 = hv_up V o (fE (fx_fold kd f j F))) := by
  refine hv_enter (by decide) (Nat.le_of_ble_eq_true rfl) ?_
  intro p e s m below meth c ls C0 hr hlk hnm w hl
  have hl : lv_has ls 5 [(0, .ref r), (1, .int (nI j)), (2, .ref o)] := hl
  refine lv_aload_n C0.1 C0.2.1 dX3_fold_0 rfl (lv_at hl 0 rfl) ?_
  refine gf_X3_9 C0 w hR rfl dX3_fold_1 ?_
  refine lv_iload_n C0.1 C0.2.1 dX3_fold_4 rfl (lv_at hl 1 rfl) ?_
  refine hv_iald C0 w hB (hn_in hj (by decide)) dX3_fold_5 ?_
  have hc1 : (nI j).toNatClampNeg = j := nI_clamp (by omega)
  rw [hc1]
  refine lv_i2l (v := (f j).toInt64) C0.1 C0.2.1 dX3_fold_6 rfl ?_
  refine lv_lstore_n (lv' := [(3, .long ((f j).toInt64)), (0, .ref r), (1, .int (nI j)), (2, .ref o)]) C0.1 C0.2.1 dX3_fold_7 rfl hl (by decide) rfl (fun ls hl => ?_)
  refine lv_aload_n C0.1 C0.2.1 dX3_fold_8 rfl (lv_at hl 1 rfl) ?_
  refine gf_X3_15 C0 w hR rfl dX3_fold_9 ?_
  refine lv_if_ne (tgt := 24) C0.1 C0.2.1 dX3_fold_12 (by decide) (fun c_12 => ?_) (fun c_12 => ?_)
  · skip
    refine lv_aload_n C0.1 C0.2.1 dX3_fold_24 rfl (lv_at hl 1 rfl) ?_
    refine gf_X3_15 C0 w hR rfl dX3_fold_25 ?_
    refine lv_iconst (v := 1) C0.1 C0.2.1 dX3_fold_28 (by decide) ?_
    refine lv_icmp_ne (tgt := 46) C0.1 C0.2.1 dX3_fold_29 (by decide) (fun c_29 => ?_) (fun c_29 => ?_)
    · skip
      refine lv_aload_n C0.1 C0.2.1 dX3_fold_46 rfl (lv_at hl 1 rfl) ?_
      refine gf_X3_15 C0 w hR rfl dX3_fold_47 ?_
      refine lv_iconst (v := 2) C0.1 C0.2.1 dX3_fold_50 (by decide) ?_
      refine lv_icmp_ne (tgt := 66) C0.1 C0.2.1 dX3_fold_51 (by decide) (fun c_51 => ?_) (fun c_51 => ?_)
      · skip
        refine lv_aload_n C0.1 C0.2.1 dX3_fold_66 rfl (lv_at hl 3 rfl) ?_
        refine lv_lload_n C0.1 C0.2.1 dX3_fold_67 rfl (lv_at hl 0 rfl) ?_
        refine lv_lconst (v := 1) C0.1 C0.2.1 dX3_fold_68 (by decide) ?_
        refine hv_cVv C0 w kl_X3_48 kv_X0_addOn rfl hO (c_X0_addOn (F := (F.1, F.2.1, F.2.2)) hO) (by decide) (by decide) rfl hl.1 rfl (Nat.le_of_ble_eq_true rfl) dX3_fold_69 ⟨Nat.le_refl _, Nat.le_refl _⟩ (fun V3 Hq lq hp4 w => ?_)
        have hV5 : V3 r = some (.inr (3, [.int kd, .int (nI n), .ref b])) := by rw [hp4, hv_un (hv_ne hR hO (by intro h9; simp at h9))]; exact hR
        have hV6 : V3 b = some (.inl (X.2.1 0, 16, .inl f)) := by rw [hp4, hv_un (hv_ne hB hO (by intro h9; simp at h9))]; exact hB
        have hV8 : V3 o = some (fE (fx_addOn (F.1, F.2.1, F.2.2) ((f j).toInt64) 1)) := by rw [hp4]; exact hv_us
        refine lv_aload_n C0.1 C0.2.1 dX3_fold_72 rfl (lv_at hl 3 rfl) ?_
        refine lv_iload_n C0.1 C0.2.1 dX3_fold_73 rfl (lv_at hl 2 rfl) ?_
        refine lv_iconst (v := 2) C0.1 C0.2.1 dX3_fold_74 (by decide) ?_
        refine lv_iadd C0.1 C0.2.1 dX3_fold_75 ?_
        refine lv_i2l (v := ((nI j) + 2).toInt64) C0.1 C0.2.1 dX3_fold_76 rfl ?_
        refine hv_cVv C0 w kl_X3_51 kv_X0_divideBy rfl hV8 (c_X0_divideBy (F := (fx_addOn (F.1, F.2.1, F.2.2) ((f j).toInt64) 1)) hV8) (by decide) (by decide) rfl hl.1 rfl (Nat.le_of_ble_eq_true rfl) dX3_fold_77 ⟨Nat.le_refl _, Nat.le_refl _⟩ (fun V10 Hq lq hp11 w => ?_)
        have hV12 : V10 r = some (.inr (3, [.int kd, .int (nI n), .ref b])) := by rw [hp11, hv_un (hv_ne hV5 hV8 (by intro h9; simp at h9))]; exact hV5
        have hV13 : V10 b = some (.inl (X.2.1 0, 16, .inl f)) := by rw [hp11, hv_un (hv_ne hV6 hV8 (by intro h9; simp at h9))]; exact hV6
        have hV15 : V10 o = some (fE (fx_divBy (fx_addOn (F.1, F.2.1, F.2.2) ((f j).toInt64) 1) (((nI j) + 2).toInt64))) := by rw [hp11]; exact hv_us
        exact hv_vret C0 w hr hlk (by rw [fx_fold, if_neg c_12, if_neg c_29, if_neg c_51, hp11, hp4, hv_uu] <;> rfl) dX3_fold_80
      · skip
        refine lv_aload_n C0.1 C0.2.1 dX3_fold_54 rfl (lv_at hl 3 rfl) ?_
        refine hv_cVv C0 w kl_X3_55 kv_X0_becomeRestOfOne rfl hO (c_X0_becomeRestOfOne (F := (F.1, F.2.1, F.2.2)) hO) (by decide) (by decide) rfl hl.1 rfl (Nat.le_of_ble_eq_true rfl) dX3_fold_55 ⟨Nat.le_refl _, Nat.le_refl _⟩ (fun V17 Hq lq hp18 w => ?_)
        have hV19 : V17 r = some (.inr (3, [.int kd, .int (nI n), .ref b])) := by rw [hp18, hv_un (hv_ne hR hO (by intro h9; simp at h9))]; exact hR
        have hV20 : V17 b = some (.inl (X.2.1 0, 16, .inl f)) := by rw [hp18, hv_un (hv_ne hB hO (by intro h9; simp at h9))]; exact hB
        have hV22 : V17 o = some (fE (fx_rest (F.1, F.2.1, F.2.2))) := by rw [hp18]; exact hv_us
        refine lv_aload_n C0.1 C0.2.1 dX3_fold_58 rfl (lv_at hl 3 rfl) ?_
        refine lv_lload_n C0.1 C0.2.1 dX3_fold_59 rfl (lv_at hl 0 rfl) ?_
        refine hv_cVv C0 w kl_X3_51 kv_X0_divideBy rfl hV22 (c_X0_divideBy (F := (fx_rest (F.1, F.2.1, F.2.2))) hV22) (by decide) (by decide) rfl hl.1 rfl (Nat.le_of_ble_eq_true rfl) dX3_fold_60 ⟨Nat.le_refl _, Nat.le_refl _⟩ (fun V24 Hq lq hp25 w => ?_)
        have hV26 : V24 r = some (.inr (3, [.int kd, .int (nI n), .ref b])) := by rw [hp25, hv_un (hv_ne hV19 hV22 (by intro h9; simp at h9))]; exact hV19
        have hV27 : V24 b = some (.inl (X.2.1 0, 16, .inl f)) := by rw [hp25, hv_un (hv_ne hV20 hV22 (by intro h9; simp at h9))]; exact hV20
        have hV29 : V24 o = some (fE (fx_divBy (fx_rest (F.1, F.2.1, F.2.2)) ((f j).toInt64))) := by rw [hp25]; exact hv_us
        refine lv_goto (tgt := 80) C0.1 C0.2.1 dX3_fold_63 (by decide) ?_
        exact hv_vret C0 w hr hlk (by rw [fx_fold, if_neg c_12, if_neg c_29, if_pos c_51, hp25, hp18, hv_uu] <;> rfl) dX3_fold_80
    · skip
      refine lv_aload_n C0.1 C0.2.1 dX3_fold_32 rfl (lv_at hl 3 rfl) ?_
      refine lv_lconst (v := 1) C0.1 C0.2.1 dX3_fold_33 (by decide) ?_
      refine lv_lconst (v := 1) C0.1 C0.2.1 dX3_fold_34 (by decide) ?_
      refine hv_cVv C0 w kl_X3_48 kv_X0_addOn rfl hO (c_X0_addOn (F := (F.1, F.2.1, F.2.2)) hO) (by decide) (by decide) rfl hl.1 rfl (Nat.le_of_ble_eq_true rfl) dX3_fold_35 ⟨Nat.le_refl _, Nat.le_refl _⟩ (fun V31 Hq lq hp32 w => ?_)
      have hV33 : V31 r = some (.inr (3, [.int kd, .int (nI n), .ref b])) := by rw [hp32, hv_un (hv_ne hR hO (by intro h9; simp at h9))]; exact hR
      have hV34 : V31 b = some (.inl (X.2.1 0, 16, .inl f)) := by rw [hp32, hv_un (hv_ne hB hO (by intro h9; simp at h9))]; exact hB
      have hV36 : V31 o = some (fE (fx_addOn (F.1, F.2.1, F.2.2) 1 1)) := by rw [hp32]; exact hv_us
      refine lv_aload_n C0.1 C0.2.1 dX3_fold_38 rfl (lv_at hl 3 rfl) ?_
      refine lv_lload_n C0.1 C0.2.1 dX3_fold_39 rfl (lv_at hl 0 rfl) ?_
      refine hv_cVv C0 w kl_X3_51 kv_X0_divideBy rfl hV36 (c_X0_divideBy (F := (fx_addOn (F.1, F.2.1, F.2.2) 1 1)) hV36) (by decide) (by decide) rfl hl.1 rfl (Nat.le_of_ble_eq_true rfl) dX3_fold_40 ⟨Nat.le_refl _, Nat.le_refl _⟩ (fun V38 Hq lq hp39 w => ?_)
      have hV40 : V38 r = some (.inr (3, [.int kd, .int (nI n), .ref b])) := by rw [hp39, hv_un (hv_ne hV33 hV36 (by intro h9; simp at h9))]; exact hV33
      have hV41 : V38 b = some (.inl (X.2.1 0, 16, .inl f)) := by rw [hp39, hv_un (hv_ne hV34 hV36 (by intro h9; simp at h9))]; exact hV34
      have hV43 : V38 o = some (fE (fx_divBy (fx_addOn (F.1, F.2.1, F.2.2) 1 1) ((f j).toInt64))) := by rw [hp39]; exact hv_us
      refine lv_goto (tgt := 80) C0.1 C0.2.1 dX3_fold_43 (by decide) ?_
      exact hv_vret C0 w hr hlk (by rw [fx_fold, if_neg c_12, if_pos c_29, hp39, hp32, hv_uu] <;> rfl) dX3_fold_80
  · skip
    refine lv_aload_n C0.1 C0.2.1 dX3_fold_15 rfl (lv_at hl 3 rfl) ?_
    refine lv_lconst (v := 1) C0.1 C0.2.1 dX3_fold_16 (by decide) ?_
    refine lv_lload_n C0.1 C0.2.1 dX3_fold_17 rfl (lv_at hl 0 rfl) ?_
    refine hv_cVv C0 w kl_X3_48 kv_X0_addOn rfl hO (c_X0_addOn (F := (F.1, F.2.1, F.2.2)) hO) (by decide) (by decide) rfl hl.1 rfl (Nat.le_of_ble_eq_true rfl) dX3_fold_18 ⟨Nat.le_refl _, Nat.le_refl _⟩ (fun V45 Hq lq hp46 w => ?_)
    have hV47 : V45 r = some (.inr (3, [.int kd, .int (nI n), .ref b])) := by rw [hp46, hv_un (hv_ne hR hO (by intro h9; simp at h9))]; exact hR
    have hV48 : V45 b = some (.inl (X.2.1 0, 16, .inl f)) := by rw [hp46, hv_un (hv_ne hB hO (by intro h9; simp at h9))]; exact hB
    have hV50 : V45 o = some (fE (fx_addOn (F.1, F.2.1, F.2.2) 1 ((f j).toInt64))) := by rw [hp46]; exact hv_us
    refine lv_goto (tgt := 80) C0.1 C0.2.1 dX3_fold_21 (by decide) ?_
    exact hv_vret C0 w hr hlk (by rw [fx_fold, if_pos c_12, hp46] <;> rfl) dX3_fold_80

set_option maxHeartbeats 4000000 in
set_option maxRecDepth 100000 in
theorem c_X3_nextNumber {l : Launch} {X : hv_X} {V : hv_V} {r b n : Nat} {kd : Int32} {f : Nat → Int32} (hR : V r = some (rE kd n b)) (hB : V b = some (nE X f)) {o : Nat} {F : fx_F} (hO : V o = some (fE F))  : hv_Ml l X 0 yX3_nextNumber cX3_nextNumber 2 V [.ref r, .ref o] (fun x V1 => V1 = V ∧ x = fx_next kd n F) := by
  refine hv_enter (by decide) (Nat.le_of_ble_eq_true rfl) ?_
  intro p e s m below meth c ls C0 hr hlk hnm w hl
  have hl : lv_has ls 2 [(0, .ref r), (1, .ref o)] := hl
  refine lv_aload_n C0.1 C0.2.1 dX3_nextNumber_0 rfl (lv_at hl 0 rfl) ?_
  refine gf_X3_15 C0 w hR rfl dX3_nextNumber_1 ?_
  refine lv_if_eq (tgt := 15) C0.1 C0.2.1 dX3_nextNumber_4 (by decide) (fun c_4 => ?_) (fun c_4 => ?_)
  · skip
    refine lv_aload_n C0.1 C0.2.1 dX3_nextNumber_15 rfl (lv_at hl 1 rfl) ?_
    refine gf_X3_80 C0 w hO rfl dX3_nextNumber_16 ?_
    refine lv_lconst (v := 0) C0.1 C0.2.1 dX3_nextNumber_19 (by decide) ?_
    refine hv_lc_le (tgt := 43) C0.1 C0.2.1 dX3_nextNumber_20 dX3_nextNumber_21 (by decide) (fun c_20 => ?_) (fun c_20 => ?_)
    · skip
      refine lv_lconst (v := 0) C0.1 C0.2.1 dX3_nextNumber_43 (by decide) ?_
      exact hv_lret C0 w hr hlk (⟨rfl, by rw [fx_next, if_pos (Or.inl c_4), if_neg (Int64.not_lt.mpr c_20)]⟩) dX3_nextNumber_44
    · skip
      refine lv_aload_n C0.1 C0.2.1 dX3_nextNumber_24 rfl (lv_at hl 1 rfl) ?_
      refine gf_X3_84 C0 w hO rfl dX3_nextNumber_25 ?_
      refine lv_aload_n C0.1 C0.2.1 dX3_nextNumber_28 rfl (lv_at hl 1 rfl) ?_
      refine gf_X3_80 C0 w hO rfl dX3_nextNumber_29 ?_
      refine lv_ladd C0.1 C0.2.1 dX3_nextNumber_32 ?_
      refine lv_lconst (v := 1) C0.1 C0.2.1 dX3_nextNumber_33 (by decide) ?_
      refine lv_lsub C0.1 C0.2.1 dX3_nextNumber_34 ?_
      refine lv_aload_n C0.1 C0.2.1 dX3_nextNumber_35 rfl (lv_at hl 1 rfl) ?_
      refine gf_X3_80 C0 w hO rfl dX3_nextNumber_36 ?_
      refine lv_ldiv C0.1 C0.2.1 dX3_nextNumber_39 (fun h9 => c_20 (by rw [h9]; decide)) ?_
      refine lv_goto (tgt := 44) C0.1 C0.2.1 dX3_nextNumber_40 (by decide) ?_
      exact hv_lret C0 w hr hlk (⟨rfl, by rw [fx_next, if_pos (Or.inl c_4), if_pos (Int64.not_le.mp c_20)]⟩) dX3_nextNumber_44
  · skip
    refine lv_aload_n C0.1 C0.2.1 dX3_nextNumber_7 rfl (lv_at hl 0 rfl) ?_
    refine gf_X3_15 C0 w hR rfl dX3_nextNumber_8 ?_
    refine lv_iconst (v := 1) C0.1 C0.2.1 dX3_nextNumber_11 (by decide) ?_
    refine lv_icmp_ne (tgt := 45) C0.1 C0.2.1 dX3_nextNumber_12 (by decide) (fun c_12 => ?_) (fun c_12 => ?_)
    · skip
      refine lv_aload_n C0.1 C0.2.1 dX3_nextNumber_45 rfl (lv_at hl 0 rfl) ?_
      refine gf_X3_15 C0 w hR rfl dX3_nextNumber_46 ?_
      refine lv_iconst (v := 2) C0.1 C0.2.1 dX3_nextNumber_49 (by decide) ?_
      refine lv_icmp_ne (tgt := 76) C0.1 C0.2.1 dX3_nextNumber_50 (by decide) (fun c_50 => ?_) (fun c_50 => ?_)
      · skip
        refine lv_aload_n C0.1 C0.2.1 dX3_nextNumber_76 rfl (lv_at hl 1 rfl) ?_
        refine gf_X3_84 C0 w hO rfl dX3_nextNumber_77 ?_
        refine lv_lconst (v := 0) C0.1 C0.2.1 dX3_nextNumber_80 (by decide) ?_
        refine hv_lc_le (tgt := 105) C0.1 C0.2.1 dX3_nextNumber_81 dX3_nextNumber_82 (by decide) (fun c_81 => ?_) (fun c_81 => ?_)
        · skip
          refine lv_lconst (v := 0) C0.1 C0.2.1 dX3_nextNumber_105 (by decide) ?_
          exact hv_lret C0 w hr hlk (⟨rfl, by rw [fx_next, if_neg (fun h9 => h9.elim c_4 c_12), if_neg c_50, if_neg (Int64.not_lt.mpr c_81)]⟩) dX3_nextNumber_106
        · skip
          refine lv_aload_n C0.1 C0.2.1 dX3_nextNumber_85 rfl (lv_at hl 1 rfl) ?_
          refine gf_X3_80 C0 w hO rfl dX3_nextNumber_86 ?_
          refine lv_aload_n C0.1 C0.2.1 dX3_nextNumber_89 rfl (lv_at hl 0 rfl) ?_
          refine gf_X3_19 C0 w hR rfl dX3_nextNumber_90 ?_
          refine lv_iconst (v := 2) C0.1 C0.2.1 dX3_nextNumber_93 (by decide) ?_
          refine lv_iadd C0.1 C0.2.1 dX3_nextNumber_94 ?_
          refine lv_i2l (v := ((nI n) + 2).toInt64) C0.1 C0.2.1 dX3_nextNumber_95 rfl ?_
          refine lv_lmul C0.1 C0.2.1 dX3_nextNumber_96 ?_
          refine lv_aload_n C0.1 C0.2.1 dX3_nextNumber_97 rfl (lv_at hl 1 rfl) ?_
          refine gf_X3_84 C0 w hO rfl dX3_nextNumber_98 ?_
          refine lv_ldiv C0.1 C0.2.1 dX3_nextNumber_101 (fun h9 => c_81 (by rw [h9]; decide)) ?_
          refine lv_goto (tgt := 106) C0.1 C0.2.1 dX3_nextNumber_102 (by decide) ?_
          exact hv_lret C0 w hr hlk (⟨rfl, by rw [fx_next, if_neg (fun h9 => h9.elim c_4 c_12), if_neg c_50, if_pos (Int64.not_le.mp c_81)]⟩) dX3_nextNumber_106
      · skip
        refine lv_aload_n C0.1 C0.2.1 dX3_nextNumber_53 rfl (lv_at hl 1 rfl) ?_
        refine gf_X3_80 C0 w hO rfl dX3_nextNumber_54 ?_
        refine lv_lconst (v := 0) C0.1 C0.2.1 dX3_nextNumber_57 (by decide) ?_
        refine hv_lc_le (tgt := 74) C0.1 C0.2.1 dX3_nextNumber_58 dX3_nextNumber_59 (by decide) (fun c_58 => ?_) (fun c_58 => ?_)
        · skip
          refine lv_lconst (v := 0) C0.1 C0.2.1 dX3_nextNumber_74 (by decide) ?_
          exact hv_lret C0 w hr hlk (⟨rfl, by rw [fx_next, if_neg (fun h9 => h9.elim c_4 c_12), if_pos c_50, if_neg (Int64.not_lt.mpr c_58)]⟩) dX3_nextNumber_75
        · skip
          refine lv_aload_n C0.1 C0.2.1 dX3_nextNumber_62 rfl (lv_at hl 1 rfl) ?_
          refine gf_X3_84 C0 w hO rfl dX3_nextNumber_63 ?_
          refine lv_aload_n C0.1 C0.2.1 dX3_nextNumber_66 rfl (lv_at hl 1 rfl) ?_
          refine gf_X3_80 C0 w hO rfl dX3_nextNumber_67 ?_
          refine lv_ldiv C0.1 C0.2.1 dX3_nextNumber_70 (fun h9 => c_58 (by rw [h9]; decide)) ?_
          refine lv_goto (tgt := 75) C0.1 C0.2.1 dX3_nextNumber_71 (by decide) ?_
          exact hv_lret C0 w hr hlk (⟨rfl, by rw [fx_next, if_neg (fun h9 => h9.elim c_4 c_12), if_pos c_50, if_pos (Int64.not_le.mp c_58)]⟩) dX3_nextNumber_75
    · skip
      refine lv_aload_n C0.1 C0.2.1 dX3_nextNumber_15 rfl (lv_at hl 1 rfl) ?_
      refine gf_X3_80 C0 w hO rfl dX3_nextNumber_16 ?_
      refine lv_lconst (v := 0) C0.1 C0.2.1 dX3_nextNumber_19 (by decide) ?_
      refine hv_lc_le (tgt := 43) C0.1 C0.2.1 dX3_nextNumber_20 dX3_nextNumber_21 (by decide) (fun c_20 => ?_) (fun c_20 => ?_)
      · skip
        refine lv_lconst (v := 0) C0.1 C0.2.1 dX3_nextNumber_43 (by decide) ?_
        exact hv_lret C0 w hr hlk (⟨rfl, by rw [fx_next, if_pos (Or.inr c_12), if_neg (Int64.not_lt.mpr c_20)]⟩) dX3_nextNumber_44
      · skip
        refine lv_aload_n C0.1 C0.2.1 dX3_nextNumber_24 rfl (lv_at hl 1 rfl) ?_
        refine gf_X3_84 C0 w hO rfl dX3_nextNumber_25 ?_
        refine lv_aload_n C0.1 C0.2.1 dX3_nextNumber_28 rfl (lv_at hl 1 rfl) ?_
        refine gf_X3_80 C0 w hO rfl dX3_nextNumber_29 ?_
        refine lv_ladd C0.1 C0.2.1 dX3_nextNumber_32 ?_
        refine lv_lconst (v := 1) C0.1 C0.2.1 dX3_nextNumber_33 (by decide) ?_
        refine lv_lsub C0.1 C0.2.1 dX3_nextNumber_34 ?_
        refine lv_aload_n C0.1 C0.2.1 dX3_nextNumber_35 rfl (lv_at hl 1 rfl) ?_
        refine gf_X3_80 C0 w hO rfl dX3_nextNumber_36 ?_
        refine lv_ldiv C0.1 C0.2.1 dX3_nextNumber_39 (fun h9 => c_20 (by rw [h9]; decide)) ?_
        refine lv_goto (tgt := 44) C0.1 C0.2.1 dX3_nextNumber_40 (by decide) ?_
        exact hv_lret C0 w hr hlk (⟨rfl, by rw [fx_next, if_pos (Or.inr c_12), if_pos (Int64.not_le.mp c_20)]⟩) dX3_nextNumber_44

set_option maxHeartbeats 4000000 in
set_option maxRecDepth 100000 in
theorem c_X3_takeOut {l : Launch} {X : hv_X} {V : hv_V} {r b n : Nat} {kd : Int32} {f : Nat → Int32} (hR : V r = some (rE kd n b)) (hB : V b = some (nE X f)) {o : Nat} {F : fx_F} (hO : V o = some (fE F)) {a : Int64} : hv_Mv l X 2 yX3_takeOut cX3_takeOut 4 V [.ref r, .long a, .ref o] (fun V1 => V1 = hv_up V o (fE (fx_out kd n a F))) := by
  refine hv_enter (by decide) (Nat.le_of_ble_eq_true rfl) ?_
  intro p e s m below meth c ls C0 hr hlk hnm w hl
  have hl : lv_has ls 4 [(0, .ref r), (1, .long a), (3, .ref o)] := hl
  refine lv_aload_n C0.1 C0.2.1 dX3_takeOut_0 rfl (lv_at hl 0 rfl) ?_
  refine gf_X3_15 C0 w hR rfl dX3_takeOut_1 ?_
  refine lv_if_ne (tgt := 31) C0.1 C0.2.1 dX3_takeOut_4 (by decide) (fun c_4 => ?_) (fun c_4 => ?_)
  · skip
    refine lv_aload_n C0.1 C0.2.1 dX3_takeOut_31 rfl (lv_at hl 0 rfl) ?_
    refine gf_X3_15 C0 w hR rfl dX3_takeOut_32 ?_
    refine lv_iconst (v := 1) C0.1 C0.2.1 dX3_takeOut_35 (by decide) ?_
    refine lv_icmp_ne (tgt := 61) C0.1 C0.2.1 dX3_takeOut_36 (by decide) (fun c_36 => ?_) (fun c_36 => ?_)
    · skip
      refine lv_aload_n C0.1 C0.2.1 dX3_takeOut_61 rfl (lv_at hl 0 rfl) ?_
      refine gf_X3_15 C0 w hR rfl dX3_takeOut_62 ?_
      refine lv_iconst (v := 2) C0.1 C0.2.1 dX3_takeOut_65 (by decide) ?_
      refine lv_icmp_ne (tgt := 91) C0.1 C0.2.1 dX3_takeOut_66 (by decide) (fun c_66 => ?_) (fun c_66 => ?_)
      · skip
        refine lv_aload_n C0.1 C0.2.1 dX3_takeOut_91 rfl (lv_at hl 2 rfl) ?_
        refine lv_aload_n C0.1 C0.2.1 dX3_takeOut_92 rfl (lv_at hl 2 rfl) ?_
        refine gf_X3_80 C0 w hO rfl dX3_takeOut_93 ?_
        refine lv_aload_n C0.1 C0.2.1 dX3_takeOut_96 rfl (lv_at hl 0 rfl) ?_
        refine gf_X3_19 C0 w hR rfl dX3_takeOut_97 ?_
        refine lv_iconst (v := 2) C0.1 C0.2.1 dX3_takeOut_100 (by decide) ?_
        refine lv_iadd C0.1 C0.2.1 dX3_takeOut_101 ?_
        refine lv_i2l (v := ((nI n) + 2).toInt64) C0.1 C0.2.1 dX3_takeOut_102 rfl ?_
        refine lv_lmul C0.1 C0.2.1 dX3_takeOut_103 ?_
        refine lv_lload_n C0.1 C0.2.1 dX3_takeOut_104 rfl (lv_at hl 1 rfl) ?_
        refine lv_aload_n C0.1 C0.2.1 dX3_takeOut_105 rfl (lv_at hl 2 rfl) ?_
        refine gf_X3_84 C0 w hO rfl dX3_takeOut_106 ?_
        refine lv_lmul C0.1 C0.2.1 dX3_takeOut_109 ?_
        refine lv_lsub C0.1 C0.2.1 dX3_takeOut_110 ?_
        refine lv_aload_n C0.1 C0.2.1 dX3_takeOut_111 rfl (lv_at hl 2 rfl) ?_
        refine gf_X3_84 C0 w hO rfl dX3_takeOut_112 ?_
        refine hv_cVv C0 w kl_X3_28 kv_X0_become rfl hO (c_X0_become (F := (F.1, F.2.1, F.2.2)) hO) (by decide) (by decide) rfl hl.1 rfl (Nat.le_of_ble_eq_true rfl) dX3_takeOut_115 ⟨Nat.le_refl _, Nat.le_refl _⟩ (fun V2 Hq lq hp3 w => ?_)
        have hV4 : V2 r = some (.inr (3, [.int kd, .int (nI n), .ref b])) := by rw [hp3, hv_un (hv_ne hR hO (by intro h9; simp at h9))]; exact hR
        have hV5 : V2 b = some (.inl (X.2.1 0, 16, .inl f)) := by rw [hp3, hv_un (hv_ne hB hO (by intro h9; simp at h9))]; exact hB
        have hV7 : V2 o = some (fE (fx_become ((F.1 * (((nI n) + 2).toInt64)) - (a * F.2.1)) F.2.1)) := by rw [hp3]; exact hv_us
        exact hv_vret C0 w hr hlk (by rw [fx_out, if_neg c_4, if_neg c_36, if_neg c_66, hp3] <;> rfl) dX3_takeOut_118
      · skip
        refine lv_aload_n C0.1 C0.2.1 dX3_takeOut_69 rfl (lv_at hl 2 rfl) ?_
        refine lv_aload_n C0.1 C0.2.1 dX3_takeOut_70 rfl (lv_at hl 2 rfl) ?_
        refine gf_X3_84 C0 w hO rfl dX3_takeOut_71 ?_
        refine lv_aload_n C0.1 C0.2.1 dX3_takeOut_74 rfl (lv_at hl 2 rfl) ?_
        refine gf_X3_80 C0 w hO rfl dX3_takeOut_75 ?_
        refine lv_lload_n C0.1 C0.2.1 dX3_takeOut_78 rfl (lv_at hl 1 rfl) ?_
        refine lv_lmul C0.1 C0.2.1 dX3_takeOut_79 ?_
        refine lv_lsub C0.1 C0.2.1 dX3_takeOut_80 ?_
        refine lv_aload_n C0.1 C0.2.1 dX3_takeOut_81 rfl (lv_at hl 2 rfl) ?_
        refine gf_X3_84 C0 w hO rfl dX3_takeOut_82 ?_
        refine hv_cVv C0 w kl_X3_28 kv_X0_become rfl hO (c_X0_become (F := (F.1, F.2.1, F.2.2)) hO) (by decide) (by decide) rfl hl.1 rfl (Nat.le_of_ble_eq_true rfl) dX3_takeOut_85 ⟨Nat.le_refl _, Nat.le_refl _⟩ (fun V9 Hq lq hp10 w => ?_)
        have hV11 : V9 r = some (.inr (3, [.int kd, .int (nI n), .ref b])) := by rw [hp10, hv_un (hv_ne hR hO (by intro h9; simp at h9))]; exact hR
        have hV12 : V9 b = some (.inl (X.2.1 0, 16, .inl f)) := by rw [hp10, hv_un (hv_ne hB hO (by intro h9; simp at h9))]; exact hB
        have hV14 : V9 o = some (fE (fx_become (F.2.1 - (F.1 * a)) F.2.1)) := by rw [hp10]; exact hv_us
        refine lv_goto (tgt := 118) C0.1 C0.2.1 dX3_takeOut_88 (by decide) ?_
        exact hv_vret C0 w hr hlk (by rw [fx_out, if_neg c_4, if_neg c_36, if_pos c_66, hp10] <;> rfl) dX3_takeOut_118
    · skip
      refine lv_aload_n C0.1 C0.2.1 dX3_takeOut_39 rfl (lv_at hl 2 rfl) ?_
      refine lv_aload_n C0.1 C0.2.1 dX3_takeOut_40 rfl (lv_at hl 2 rfl) ?_
      refine gf_X3_80 C0 w hO rfl dX3_takeOut_41 ?_
      refine lv_lload_n C0.1 C0.2.1 dX3_takeOut_44 rfl (lv_at hl 1 rfl) ?_
      refine lv_lmul C0.1 C0.2.1 dX3_takeOut_45 ?_
      refine lv_aload_n C0.1 C0.2.1 dX3_takeOut_46 rfl (lv_at hl 2 rfl) ?_
      refine gf_X3_84 C0 w hO rfl dX3_takeOut_47 ?_
      refine lv_lsub C0.1 C0.2.1 dX3_takeOut_50 ?_
      refine lv_aload_n C0.1 C0.2.1 dX3_takeOut_51 rfl (lv_at hl 2 rfl) ?_
      refine gf_X3_84 C0 w hO rfl dX3_takeOut_52 ?_
      refine hv_cVv C0 w kl_X3_28 kv_X0_become rfl hO (c_X0_become (F := (F.1, F.2.1, F.2.2)) hO) (by decide) (by decide) rfl hl.1 rfl (Nat.le_of_ble_eq_true rfl) dX3_takeOut_55 ⟨Nat.le_refl _, Nat.le_refl _⟩ (fun V16 Hq lq hp17 w => ?_)
      have hV18 : V16 r = some (.inr (3, [.int kd, .int (nI n), .ref b])) := by rw [hp17, hv_un (hv_ne hR hO (by intro h9; simp at h9))]; exact hR
      have hV19 : V16 b = some (.inl (X.2.1 0, 16, .inl f)) := by rw [hp17, hv_un (hv_ne hB hO (by intro h9; simp at h9))]; exact hB
      have hV21 : V16 o = some (fE (fx_become ((F.1 * a) - F.2.1) F.2.1)) := by rw [hp17]; exact hv_us
      refine lv_goto (tgt := 118) C0.1 C0.2.1 dX3_takeOut_58 (by decide) ?_
      exact hv_vret C0 w hr hlk (by rw [fx_out, if_neg c_4, if_pos c_36, hp17] <;> rfl) dX3_takeOut_118
  · skip
    refine lv_aload_n C0.1 C0.2.1 dX3_takeOut_7 rfl (lv_at hl 2 rfl) ?_
    refine lv_aload_n C0.1 C0.2.1 dX3_takeOut_8 rfl (lv_at hl 2 rfl) ?_
    refine gf_X3_80 C0 w hO rfl dX3_takeOut_9 ?_
    refine lv_lload_n C0.1 C0.2.1 dX3_takeOut_12 rfl (lv_at hl 1 rfl) ?_
    refine lv_lmul C0.1 C0.2.1 dX3_takeOut_13 ?_
    refine lv_aload_n C0.1 C0.2.1 dX3_takeOut_14 rfl (lv_at hl 2 rfl) ?_
    refine gf_X3_84 C0 w hO rfl dX3_takeOut_15 ?_
    refine lv_lsub C0.1 C0.2.1 dX3_takeOut_18 ?_
    refine lv_aload_n C0.1 C0.2.1 dX3_takeOut_19 rfl (lv_at hl 2 rfl) ?_
    refine gf_X3_84 C0 w hO rfl dX3_takeOut_20 ?_
    refine lv_lload_n C0.1 C0.2.1 dX3_takeOut_23 rfl (lv_at hl 1 rfl) ?_
    refine lv_lmul C0.1 C0.2.1 dX3_takeOut_24 ?_
    refine hv_cVv C0 w kl_X3_28 kv_X0_become rfl hO (c_X0_become (F := (F.1, F.2.1, F.2.2)) hO) (by decide) (by decide) rfl hl.1 rfl (Nat.le_of_ble_eq_true rfl) dX3_takeOut_25 ⟨Nat.le_refl _, Nat.le_refl _⟩ (fun V23 Hq lq hp24 w => ?_)
    have hV25 : V23 r = some (.inr (3, [.int kd, .int (nI n), .ref b])) := by rw [hp24, hv_un (hv_ne hR hO (by intro h9; simp at h9))]; exact hR
    have hV26 : V23 b = some (.inl (X.2.1 0, 16, .inl f)) := by rw [hp24, hv_un (hv_ne hB hO (by intro h9; simp at h9))]; exact hB
    have hV28 : V23 o = some (fE (fx_become ((F.1 * a) - F.2.1) (F.2.1 * a))) := by rw [hp24]; exact hv_us
    refine lv_goto (tgt := 118) C0.1 C0.2.1 dX3_takeOut_28 (by decide) ?_
    exact hv_vret C0 w hr hlk (by rw [fx_out, if_pos c_4, hp24] <;> rfl) dX3_takeOut_118

set_option maxHeartbeats 4000000 in
set_option maxRecDepth 100000 in
theorem c_X3_reckon {l : Launch} {X : hv_X} {V : hv_V} {r b n : Nat} {kd : Int32} {f : Nat → Int32} (hR : V r = some (rE kd n b)) (hB : V b = some (nE X f)) {o : Nat} {G0 : fx_F} (hO : V o = some (fE G0)) (hn : n ≤ 16) {k : Nat} (hk : k ≤ n) : hv_Mv l X 4 yX3_reckon cX3_reckon 4 V [.ref r, .int (nI k), .ref o] (fun V1 => V1 = hv_up V o (fE (fx_reckon kd f k))) := by
  refine hv_enter (by decide) (Nat.le_of_ble_eq_true rfl) ?_
  intro p e s m below meth c ls C0 hr hlk hnm w hl
  have hl : lv_has ls 4 [(0, .ref r), (1, .int (nI k)), (2, .ref o)] := hl
  have loop : ∀ (j : Nat) (F : fx_F) (Hq : Heap) (lq : List Loc) (ls : Array Slot), (j ≤ k) → (fx_rk kd f j F = fx_reckon kd f k) → hv_w X s (hv_up V o (fE F)) Hq lq → lv_has ls 4 [(0, .ref r), (2, .ref o), (3, .int (nI j - 1))] → W p l e (hv_rm 4 0 0) s m ([.ref r, .int (nI k), .ref o] : List Value).toArray below meth c Hq lq 0 0 (MQ below (hv_Qv X (fun V1 => V1 = hv_up V o (fE (fx_reckon kd f k)))) ([.ref r, .int (nI k), .ref o] : List Value).toArray s 0 0 X.2.2.1) (F0 m 17 ls []) := by
    intro j
    induction j with
    | zero =>
      intro F Hq lq ls hj he w hl
      have he : F = fx_reckon kd f k := he
      obtain ⟨V8, e8⟩ : ∃ V8, V8 = hv_up V o (fE F) := ⟨_, rfl⟩
      rw [← e8] at w
      have hR8 : V8 r = some (rE kd n b) := by rw [e8, hv_un (hv_ne hR hO (by intro h9; simp at h9))]; exact hR
      have hB8 : V8 b = some (nE X f) := by rw [e8, hv_un (hv_ne hB hO (by intro h9; simp at h9))]; exact hB
      have hO8 : V8 o = some (fE F) := by rw [e8]; exact hv_us
      refine lv_iload_n C0.1 C0.2.1 dX3_reckon_17 rfl (lv_at hl 2 rfl) ?_
      refine lv_if_lt (tgt := 40) C0.1 C0.2.1 dX3_reckon_18 (by decide) (fun c_18 => ?_) (fun c_18 => absurd (by decide) c_18)
      exact hv_vret C0 w hr hlk (by rw [e8, ← he]) dX3_reckon_40
    | succ j ih =>
      intro F Hq lq ls hj he w hl
      rw [nI_pred] at hl
      obtain ⟨V8, e8⟩ : ∃ V8, V8 = hv_up V o (fE F) := ⟨_, rfl⟩
      rw [← e8] at w
      have hR8 : V8 r = some (rE kd n b) := by rw [e8, hv_un (hv_ne hR hO (by intro h9; simp at h9))]; exact hR
      have hB8 : V8 b = some (nE X f) := by rw [e8, hv_un (hv_ne hB hO (by intro h9; simp at h9))]; exact hB
      have hO8 : V8 o = some (fE F) := by rw [e8]; exact hv_us
      refine lv_iload_n C0.1 C0.2.1 dX3_reckon_17 rfl (lv_at hl 2 rfl) ?_
      refine lv_if_lt (tgt := 40) C0.1 C0.2.1 dX3_reckon_18 (by decide) (fun c_18 => absurd c_18 (nI_pos (by omega))) (fun c_18 => ?_)
      refine lv_aload_n C0.1 C0.2.1 dX3_reckon_21 rfl (lv_at hl 1 rfl) ?_
      refine gf_X3_40 C0 w hO8 rfl dX3_reckon_22 ?_
      refine lv_if_eq (tgt := 40) C0.1 C0.2.1 dX3_reckon_25 (by decide) (fun c_25 => ?_) (fun c_25 => ?_)
      · skip
        exact hv_vret C0 w hr hlk (by rw [e8, ← he, fx_rk, if_pos c_25]) dX3_reckon_40
      · skip
        refine lv_aload_n C0.1 C0.2.1 dX3_reckon_28 rfl (lv_at hl 0 rfl) ?_
        refine lv_iload_n C0.1 C0.2.1 dX3_reckon_29 rfl (lv_at hl 2 rfl) ?_
        refine lv_aload_n C0.1 C0.2.1 dX3_reckon_30 rfl (lv_at hl 1 rfl) ?_
        have hj : j < 16 := by omega
        refine hv_cVv C0 w kl_X3_44 kv_X3_fold rfl hR8 (c_X3_fold hR8 hB8 (F := F) hO8 hj) (by decide) (by decide) rfl hl.1 rfl (Nat.le_of_ble_eq_true rfl) dX3_reckon_31 ⟨Nat.le_refl _, Nat.le_refl _⟩ (fun V2 Hq lq hp3 w => ?_)
        have hV4 : V2 r = some (.inr (3, [.int kd, .int (nI n), .ref b])) := by rw [hp3, hv_un (hv_ne hR8 hO8 (by intro h9; simp at h9))]; exact hR8
        have hV5 : V2 b = some (.inl (X.2.1 0, 16, .inl f)) := by rw [hp3, hv_un (hv_ne hB8 hO8 (by intro h9; simp at h9))]; exact hB8
        have hV7 : V2 o = some (fE (fx_fold kd f j F)) := by rw [hp3]; exact hv_us
        refine lv_iinc (v := (nI j) + (-1)) (lv' := [(3, .int ((nI j) + (-1))), (0, .ref r), (2, .ref o)]) C0.1 C0.2.1 dX3_reckon_34 hl (k := 2) rfl rfl (by decide) rfl (fun ls hl => ?_)
        refine lv_goto (tgt := 17) C0.1 C0.2.1 dX3_reckon_37 (by decide) ?_
        exact ih _ _ _ ls (by omega) (by rw [← he, fx_rk, if_neg c_25]) (by rw [hp3, e8, hv_uu] at w; exact w) (by have h9 := (lv_sub (l' := [(0, .ref r), (2, .ref o), (3, .int (nI j + (-1)))]) hl [1, 2, 0] rfl); rw [hn_dec] at h9; exact h9)
  refine lv_aload_n C0.1 C0.2.1 dX3_reckon_0 rfl (lv_at hl 2 rfl) ?_
  refine lv_lconst (v := 0) C0.1 C0.2.1 dX3_reckon_1 (by decide) ?_
  refine lv_lconst (v := 1) C0.1 C0.2.1 dX3_reckon_2 (by decide) ?_
  refine hv_cVv C0 w kl_X3_28 kv_X0_become rfl hO (c_X0_become (F := (G0.1, G0.2.1, G0.2.2)) hO) (by decide) (by decide) rfl hl.1 rfl (Nat.le_of_ble_eq_true rfl) dX3_reckon_3 ⟨Nat.le_refl _, Nat.le_refl _⟩ (fun V2 Hq lq hp3 w => ?_)
  have hV4 : V2 r = some (.inr (3, [.int kd, .int (nI n), .ref b])) := by rw [hp3, hv_un (hv_ne hR hO (by intro h9; simp at h9))]; exact hR
  have hV5 : V2 b = some (.inl (X.2.1 0, 16, .inl f)) := by rw [hp3, hv_un (hv_ne hB hO (by intro h9; simp at h9))]; exact hB
  have hV7 : V2 o = some (fE (fx_become 0 1)) := by rw [hp3]; exact hv_us
  refine lv_iload_n C0.1 C0.2.1 dX3_reckon_6 rfl (lv_at hl 1 rfl) ?_
  refine lv_aload_n C0.1 C0.2.1 dX3_reckon_7 rfl (lv_at hl 0 rfl) ?_
  refine gf_X3_19 C0 w hV4 rfl dX3_reckon_8 ?_
  refine va_mmin C0.1 C0.2.1 (C0.2.2.1.trans hl.1.symm) C0.2.2.2.1 (C0.2.2.2.2.1 _ kj_X3_34) (C0.2.2.2.2.1 _ kj_min_s) (C0.2.2.2.2.1 _ kj_Math) (C0.2.2.2.2.1 _ kj_min_c) (by decide) (Nat.le_of_ble_eq_true rfl) (Nat.le_refl _) (Nat.le_refl _) dX3_reckon_11 ?_
  rw [if_neg (nI_nlt hk (by omega))]
  refine lv_iconst (v := 1) C0.1 C0.2.1 dX3_reckon_14 (by decide) ?_
  refine lv_isub C0.1 C0.2.1 dX3_reckon_15 ?_
  refine lv_istore_n (lv' := [(3, .int ((nI k) - 1)), (0, .ref r), (1, .int (nI k)), (2, .ref o)]) C0.1 C0.2.1 dX3_reckon_16 rfl hl (by decide) rfl (fun ls hl => ?_)
  exact loop k _ _ _ ls (Nat.le_refl _) rfl (by rw [hp3] at w; exact w) (lv_sub hl [1, 3, 0] rfl)

set_option maxHeartbeats 4000000 in
set_option maxRecDepth 100000 in
theorem c_X3_unfold {l : Launch} {X : hv_X} {V : hv_V} {r b n0 : Nat} {kd : Int32} {f0 : Nat → Int32} (hR : V r = some (rE kd n0 b)) (hB : V b = some (nE X f0)) {o : Nat} {G0 : fx_F} (hO : V o = some (fE G0)) {k : Int32} : hv_Mv l X 3 yX3_unfold cX3_unfold 6 V [.ref r, .int k, .ref o] (fun V1 => V1 = hv_up (hv_up (hv_up V r (rE k (fx_unf k 16 0 f0 G0).1 b)) b (nE X (fx_unf k 16 0 f0 G0).2.1)) o (fE (fx_unf k 16 0 f0 G0).2.2)) := by
  refine hv_enter (by decide) (Nat.le_of_ble_eq_true rfl) ?_
  intro p e s m below meth c ls C0 hr hlk hnm w hl
  have hl : lv_has ls 6 [(0, .ref r), (1, .int k), (2, .ref o)] := hl
  have hrb : r ≠ b := hv_ne hR hB (by intro h9; simp at h9)
  have hro : r ≠ o := hv_ne hR hO (by intro h9; simp at h9)
  have hbo : b ≠ o := hv_ne hB hO (by intro h9; simp at h9)
  have loop : ∀ (m9 n : Nat) (f : Nat → Int32) (F : fx_F) (Hq : Heap) (lq : List Loc) (ls : Array Slot), (n + m9 = 16) → (fx_unf k m9 n f F = fx_unf k 16 0 f0 G0) → hv_w X s (hv_up (hv_up (hv_up V r (rE k n b)) b (nE X f)) o (fE F)) Hq lq → lv_has ls 6 [(0, .ref r), (2, .ref o), (3, .int (nI n))] → W p l e (hv_rm 3 0 0) s m ([.ref r, .int k, .ref o] : List Value).toArray below meth c Hq lq 0 0 (MQ below (hv_Qv X (fun V1 => V1 = hv_up (hv_up (hv_up V r (rE k (fx_unf k 16 0 f0 G0).1 b)) b (nE X (fx_unf k 16 0 f0 G0).2.1)) o (fE (fx_unf k 16 0 f0 G0).2.2))) ([.ref r, .int k, .ref o] : List Value).toArray s 0 0 X.2.2.1) (F0 m 7 ls []) := by
    intro m9
    induction m9 with
    | zero =>
      intro n f F Hq lq ls hn he w hl
      have he : (n, f, F) = fx_unf k 16 0 f0 G0 := he
      obtain ⟨V8, e8⟩ : ∃ V8, V8 = hv_up (hv_up (hv_up V r (rE k n b)) b (nE X f)) o (fE F) := ⟨_, rfl⟩
      rw [← e8] at w
      have hR8 : V8 r = some (rE k n b) := by rw [e8, hv_un hro, hv_un hrb]; exact hv_us
      have hB8 : V8 b = some (nE X f) := by rw [e8, hv_un hbo]; exact hv_us
      have hO8 : V8 o = some (fE F) := by rw [e8]; exact hv_us
      refine lv_iload_n C0.1 C0.2.1 dX3_unfold_7 rfl (lv_at hl 2 rfl) ?_
      refine lv_bipush (v := 16) C0.1 C0.2.1 dX3_unfold_8 (by decide) ?_
      refine lv_icmp_ge (tgt := 66) C0.1 C0.2.1 dX3_unfold_10 (by decide) (fun c_10 => ?_) (fun c_10 => absurd (show nI 16 ≤ nI n from nI_le (by omega) (by omega)) c_10)
      exact hv_vret C0 w hr hlk (by rw [e8, ← he]) dX3_unfold_66
    | succ m9 ih =>
      intro n f F Hq lq ls hn he w hl
      obtain ⟨V8, e8⟩ : ∃ V8, V8 = hv_up (hv_up (hv_up V r (rE k n b)) b (nE X f)) o (fE F) := ⟨_, rfl⟩
      rw [← e8] at w
      have hR8 : V8 r = some (rE k n b) := by rw [e8, hv_un hro, hv_un hrb]; exact hv_us
      have hB8 : V8 b = some (nE X f) := by rw [e8, hv_un hbo]; exact hv_us
      have hO8 : V8 o = some (fE F) := by rw [e8]; exact hv_us
      refine lv_iload_n C0.1 C0.2.1 dX3_unfold_7 rfl (lv_at hl 2 rfl) ?_
      refine lv_bipush (v := 16) C0.1 C0.2.1 dX3_unfold_8 (by decide) ?_
      refine lv_icmp_ge (tgt := 66) C0.1 C0.2.1 dX3_unfold_10 (by decide) (fun c_10 => absurd c_10 (show ¬ nI 16 ≤ nI n from nI_ge (by omega) (by omega))) (fun c_10 => ?_)
      refine lv_aload_n C0.1 C0.2.1 dX3_unfold_13 rfl (lv_at hl 1 rfl) ?_
      refine hv_cVi C0 w kl_X3_62 kv_X0_isProper rfl hO8 (c_X0_isProper (F := F) hO8) (by decide) (by decide) rfl hl.1 rfl (Nat.le_of_ble_eq_true rfl) dX3_unfold_14 ⟨Nat.le_refl _, Nat.le_refl _⟩ (fun x1 V2 Hq lq hp3 w => ?_)
      obtain ⟨e9, hz9⟩ := hp3
      rw [e9] at w; clear e9
      rcases hz9 with ⟨rfl, hb4⟩ | ⟨rfl, hb4⟩
      · skip
        refine lv_if_eq (tgt := 66) C0.1 C0.2.1 dX3_unfold_17 (by decide) (fun h9 => absurd h9 (by decide)) (fun _ => ?_)
        refine lv_aload_n C0.1 C0.2.1 dX3_unfold_20 rfl (lv_at hl 0 rfl) ?_
        refine lv_aload_n C0.1 C0.2.1 dX3_unfold_21 rfl (lv_at hl 1 rfl) ?_
        refine hv_cVl C0 w kl_X3_66 kv_X3_nextNumber rfl hR8 (c_X3_nextNumber hR8 hB8 (F := F) hO8) (by decide) (by decide) rfl hl.1 rfl (Nat.le_of_ble_eq_true rfl) dX3_unfold_22 ⟨Nat.le_refl _, Nat.le_refl _⟩ (fun x5 V6 Hq lq hp7 w => ?_)
        obtain ⟨e9, e8⟩ := hp7
        rw [e9] at w; rw [e8]; clear e9 e8
        refine lv_lstore (lv' := [(4, .long (fx_next k n F)), (0, .ref r), (2, .ref o), (3, .int (nI n))]) C0.1 C0.2.1 dX3_unfold_25 hl (by decide) rfl (fun ls hl => ?_)
        refine lv_lload C0.1 C0.2.1 dX3_unfold_27 (lv_at hl 0 rfl) ?_
        refine lv_ldc2 C0.1 C0.2.1 C0.2.2.2.1 (C0.2.2.2.2.1 _ kk_X3_70) dX3_unfold_29 ?_
        refine hv_lc_le (tgt := 37) C0.1 C0.2.1 dX3_unfold_32 dX3_unfold_33 (by decide) (fun c_32 => ?_) (fun c_32 => ?_)
        · skip
          refine lv_aload_n C0.1 C0.2.1 dX3_unfold_37 rfl (lv_at hl 1 rfl) ?_
          refine lv_lload C0.1 C0.2.1 dX3_unfold_38 (lv_at hl 0 rfl) ?_
          refine lv_aload_n C0.1 C0.2.1 dX3_unfold_40 rfl (lv_at hl 2 rfl) ?_
          refine hv_cVv C0 w kl_X3_72 kv_X3_takeOut rfl hR8 (c_X3_takeOut hR8 hB8 (F := F) hO8) (by decide) (by decide) rfl hl.1 rfl (Nat.le_of_ble_eq_true rfl) dX3_unfold_41 ⟨Nat.le_refl _, Nat.le_refl _⟩ (fun V9 Hq lq hp10 w => ?_)
          have hV11 : V9 r = some (rE k n b) := by rw [hp10, hv_un (hv_ne hR8 hO8 (by intro h9; simp at h9))]; exact hR8
          have hV12 : V9 b = some (nE X f) := by rw [hp10, hv_un (hv_ne hB8 hO8 (by intro h9; simp at h9))]; exact hB8
          have hV14 : V9 o = some (fE (fx_out k n (fx_next k n F) F)) := by rw [hp10]; exact hv_us
          refine lv_aload_n C0.1 C0.2.1 dX3_unfold_44 rfl (lv_at hl 2 rfl) ?_
          refine gf_X3_40 C0 w hV14 rfl dX3_unfold_45 ?_
          refine lv_if_ne (tgt := 52) C0.1 C0.2.1 dX3_unfold_48 (by decide) (fun c_48 => ?_) (fun c_48 => ?_)
          · skip
            refine lv_aload_n C0.1 C0.2.1 dX3_unfold_52 rfl (lv_at hl 1 rfl) ?_
            refine lv_lload C0.1 C0.2.1 dX3_unfold_53 (lv_at hl 0 rfl) ?_
            refine lv_l2i (v := (fx_next k n F).toInt32) C0.1 C0.2.1 dX3_unfold_55 rfl ?_
            refine hv_cVi C0 w kl_X3_76 kv_X3_append rfl hV11 (c_X3_append hV11 hV12 (by omega)) (by decide) (by decide) rfl hl.1 rfl (Nat.le_of_ble_eq_true rfl) dX3_unfold_56 ⟨Nat.le_refl _, Nat.le_refl _⟩ (fun x15 V16 Hq lq hp17 w => ?_)
            obtain ⟨hlt, ex9, hp17b⟩ | ⟨h9, -, -⟩ := hp17
            rotate_left
            · exact absurd (by omega) h9
            rw [ex9]; clear ex9
            refine lv_pop C0.1 C0.2.1 dX3_unfold_59 rfl ?_
            refine lv_iinc (v := (nI n) + 1) (lv' := [(3, .int ((nI n) + 1)), (4, .long (fx_next k n F)), (0, .ref r), (2, .ref o)]) C0.1 C0.2.1 dX3_unfold_60 hl (k := 3) rfl rfl (by decide) rfl (fun ls hl => ?_)
            refine lv_goto (tgt := 7) C0.1 C0.2.1 dX3_unfold_63 (by decide) ?_
            exact ih (n + 1) _ _ _ _ ls (by omega) (by rw [← he, fx_unf, if_pos hb4, if_neg (Int64.not_lt.mpr c_32), if_neg c_48]) (by rw [hp17b, hp10, e8, hv_p3 hrb hro hbo] at w; exact w) (by have h9 := (lv_sub (l' := [(0, .ref r), (2, .ref o), (3, .int (nI n + 1))]) hl [2, 3, 0] rfl); rw [nI_1] at h9; exact h9)
          · skip
            exact hv_vret C0 w hr hlk (by rw [hp10, e8, hv_uu, ← he, fx_unf, if_pos hb4, if_neg (Int64.not_lt.mpr c_32), if_pos c_48]) dX3_unfold_51
        · skip
          exact hv_vret C0 w hr hlk (by rw [e8, ← he, fx_unf, if_pos hb4, if_pos (Int64.not_le.mp c_32)]) dX3_unfold_36
      · skip
        refine lv_if_eq (tgt := 66) C0.1 C0.2.1 dX3_unfold_17 (by decide) (fun _ => ?_) (fun h9 => absurd h9 (by decide))
        exact hv_vret C0 w hr hlk (by rw [e8, ← he, fx_unf, if_neg hb4]) dX3_unfold_66
  refine lv_aload_n C0.1 C0.2.1 dX3_unfold_0 rfl (lv_at hl 0 rfl) ?_
  refine lv_iload_n C0.1 C0.2.1 dX3_unfold_1 rfl (lv_at hl 1 rfl) ?_
  refine hv_cVv C0 w kl_X3_58 kv_X3_clear rfl hR (c_X3_clear hR hB) (by decide) (by decide) rfl hl.1 rfl (Nat.le_of_ble_eq_true rfl) dX3_unfold_2 ⟨Nat.le_refl _, Nat.le_refl _⟩ (fun V2 Hq lq hp3 w => ?_)
  have hV5 : V2 b = some (nE X f0) := by rw [hp3, hv_un (hv_ne hB hR (by intro h9; simp at h9))]; exact hB
  have hV6 : V2 o = some (fE G0) := by rw [hp3, hv_un (hv_ne hO hR (by intro h9; simp at h9))]; exact hO
  have hV7 : V2 r = some (rE k 0 b) := by rw [hp3]; exact hv_us
  refine lv_iconst (v := 0) C0.1 C0.2.1 dX3_unfold_5 (by decide) ?_
  refine lv_istore_n (lv' := [(3, .int 0), (0, .ref r), (1, .int k), (2, .ref o)]) C0.1 C0.2.1 dX3_unfold_6 rfl hl (by decide) rfl (fun ls hl => ?_)
  rw [hp3] at w
  have e7 : hv_up (hv_up (hv_up V r (rE k 0 b)) b (nE X f0)) o (fE G0) = hv_up V r (rE k 0 b) := by rw [hv_id (V := hv_up V r (rE k 0 b)) (by rw [hv_un (Ne.symm hrb)]; exact hB), hv_id (by rw [hv_un (Ne.symm hro)]; exact hO)]
  exact loop 16 0 f0 G0 _ _ ls rfl rfl (by rw [e7]; exact w) (lv_sub hl [1, 3, 0] rfl)

