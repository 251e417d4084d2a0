theorem mul_pp {x y : Int} (hx : 0 ≤ x ∧ x ≤ 1000000000) (hy : 0 ≤ y ∧ y ≤ 1000000000) : 0 ≤ x * y ∧ x * y ≤ 1000000000000000000 := by
  have h1 := Int.mul_nonneg hx.1 hy.1
  have h2 : x * y ≤ 1000000000 * y := Int.mul_le_mul_of_nonneg_right hx.2 hy.1
  omega
theorem mul_bd {x y : Int} (hx : -1000000000 ≤ x ∧ x ≤ 1000000000) (hy : 0 ≤ y ∧ y ≤ 1000000000) : -1000000000000000000 ≤ x * y ∧ x * y ≤ 1000000000000000000 := by
  by_cases h : 0 ≤ x
  · have := mul_pp ⟨h, hx.2⟩ hy; omega
  · have := mul_pp (x := -x) ⟨by omega, by omega⟩ hy
    have e := Int.neg_mul x y
    omega
theorem mul_bd2 {x y : Int} (hx : -1000000000 ≤ x ∧ x ≤ 1000000000) (hy : -1000000000 ≤ y ∧ y ≤ 1000000000) : -1000000000000000000 ≤ x * y ∧ x * y ≤ 1000000000000000000 := by
  by_cases h : 0 ≤ y
  · exact mul_bd hx ⟨h, hy.2⟩
  · have := mul_bd (y := -y) hx ⟨by omega, by omega⟩
    have e := Int.mul_neg x y
    omega
abbrev i64_in (a : Int64) : Prop := -1000000000 ≤ a.toInt ∧ a.toInt ≤ 1000000000
abbrev i64_ip (a : Int64) : Prop := 0 ≤ a.toInt ∧ a.toInt ≤ 1000000000
theorem i64_mb {a b : Int64} (ha : i64_in a) (hb : i64_in b) : (a * b).toInt = a.toInt * b.toInt ∧ -1000000000000000000 ≤ (a * b).toInt ∧ (a * b).toInt ≤ 1000000000000000000 := by
  have h := mul_bd2 ha hb
  have e : (a * b).toInt = a.toInt * b.toInt := i64_mul (by omega) (by omega)
  exact ⟨e, by omega, by omega⟩
theorem i64_mpos {a b : Int64} (ha : i64_ip a) (hb : i64_ip b) : (a * b).toInt = a.toInt * b.toInt ∧ 0 ≤ (a * b).toInt ∧ (a * b).toInt ≤ 1000000000000000000 := by
  have h := mul_pp ha hb
  have e : (a * b).toInt = a.toInt * b.toInt := i64_mul (by omega) (by omega)
  exact ⟨e, by omega, by omega⟩
theorem i64_ip.in {a : Int64} (h : i64_ip a) : i64_in a := ⟨by have := h.1; omega, h.2⟩
theorem fm.plus {F : fx_F} {ab be a b : Int64} (h : fm F ab be) (hn : ¬ be = 0) (ha : i64_in a) (hb : i64_ip b) : fm (fx_addOn F a b) (fl_a (ab * b + a * be) (be * b)) (fl_b (ab * b + a * be) (be * b)) ∧ -9223372036854775808 < (ab * b + a * be).toInt ∧ 0 ≤ (be * b).toInt := by
  obtain ⟨h1, h2, h3, h4, h5⟩ := h.yes hn
  have e : fx_addOn F a b = fx_become (ab * b + a * be) (be * b) := by
    unfold fx_addOn; rw [if_neg (by rw [h1]; decide), h2, h3]
  have q1 : i64_in ab := by rw [h2]; exact h4
  have q2 : i64_ip be := by rw [h3]; exact ⟨by have := h5.1; omega, h5.2⟩
  have p1 := i64_mb q1 hb.in
  have p2 := i64_mb ha q2.in
  have p3 := i64_mpos q2 hb
  have p4 := i64_add (a := ab * b) (b := a * be) (by omega) (by omega)
  rw [e]
  have b1 : -9223372036854775808 < (ab * b + a * be).toInt := by omega
  exact ⟨fx_become_ok b1 p3.2.1, b1, p3.2.1⟩
def fx_tm (F : fx_F) (a b : Int64) : fx_F := if F.2.2 = 0 then F else fx_become (F.1 * a) (F.2.1 * b)
theorem fx_tm1 (F : fx_F) (b : Int64) : fx_tm F 1 b = fx_divBy F b := by unfold fx_tm fx_divBy; rw [Int64.mul_one]
theorem fm.times {F : fx_F} {ab be a b : Int64} (h : fm F ab be) (hn : ¬ be = 0) (ha : i64_in a) (hb : i64_ip b) : fm (fx_tm F a b) (fl_a (ab * a) (be * b)) (fl_b (ab * a) (be * b)) ∧ -9223372036854775808 < (ab * a).toInt ∧ 0 ≤ (be * b).toInt := by
  obtain ⟨h1, h2, h3, h4, h5⟩ := h.yes hn
  have e : fx_tm F a b = fx_become (ab * a) (be * b) := by
    unfold fx_tm; rw [if_neg (by rw [h1]; decide), h2, h3]
  have q1 : i64_in ab := by rw [h2]; exact h4
  have q2 : i64_ip be := by rw [h3]; exact ⟨by have := h5.1; omega, h5.2⟩
  have p1 := i64_mb q1 ha
  have p3 := i64_mpos q2 hb
  rw [e]
  have b1 : -9223372036854775808 < (ab * a).toInt := by omega
  exact ⟨fx_become_ok b1 p3.2.1, b1, p3.2.1⟩
def fx_neg (F : fx_F) : fx_F := (-F.1, F.2)
theorem fm.turns {F : fx_F} {ab be : Int64} (h : fm F ab be) : fm (fx_neg F) (-ab) be := by
  rcases h with ⟨h1, h2⟩ | ⟨h1, h2, h3, h4, h5⟩
  · exact Or.inl ⟨h1, h2⟩
  · right
    have e := i64_neg (a := F.1) (by have := h4.1; omega)
    refine ⟨h1, by rw [h2]; rfl, h3, ?_, h5⟩
    show -1000000000 ≤ (-F.1).toInt ∧ (-F.1).toInt ≤ 1000000000
    have := h4.1; have := h4.2
    omega
theorem fm.of {F G : fx_F} {ab be : Int64} (h : fm F ab be) (h1 : F.2.2 = 0 → G.2.2 = 0) (h2 : F.2.2 = 1 → F = G) : fm G ab be := by
  rcases h with ⟨a, b⟩ | ⟨a, b⟩
  · exact Or.inl ⟨h1 a, b⟩
  · rw [← h2 a]; exact Or.inr ⟨a, b⟩
theorem fx_no0 {F : fx_F} {a b : Int64} (h : F.2.2 = 0) : (fx_addOn F a b).2.2 = 0 := by unfold fx_addOn; rw [if_pos h]; exact h
theorem fx_no1 {F : fx_F} {a b : Int64} (h : F.2.2 = 0) : (fx_tm F a b).2.2 = 0 := by unfold fx_tm; rw [if_pos h]; exact h
theorem fx_rest_as (F : fx_F) : (F.2.2 = 0 → (fx_rest F).2.2 = 0 ∧ (fx_addOn (fx_neg F) 1 1).2.2 = 0) ∧ (¬ F.2.2 = 0 → fx_addOn (fx_neg F) 1 1 = fx_rest F) := by
  constructor
  · intro h
    exact ⟨by unfold fx_rest; rw [if_pos h]; exact h, fx_no0 (F := fx_neg F) h⟩
  · intro h
    unfold fx_addOn fx_rest
    rw [if_neg (show ¬ (fx_neg F).2.2 = 0 from h), if_neg h]
    show fx_become (-F.1 * 1 + 1 * F.2.1) (F.2.1 * 1) = _
    rw [Int64.mul_one, Int64.mul_one, Int64.one_mul, show -F.1 + F.2.1 = F.2.1 - F.1 from by rw [Int64.sub_eq_add_neg, Int64.add_comm]]
theorem fm.rest {F : fx_F} {ab be : Int64} (h : fm (fx_addOn (fx_neg F) 1 1) ab be) : fm (fx_rest F) ab be := by
  by_cases q : F.2.2 = 0
  · exact Or.inl ⟨((fx_rest_as F).1 q).1, h.no.mpr ((fx_rest_as F).1 q).2⟩
  · exact h.as ((fx_rest_as F).2 q)
theorem fx_add00 (F : fx_F) (a : Int64) : (fx_addOn F a 0).2.2 = 0 := by
  by_cases q : F.2.2 = 0
  · exact fx_no0 q
  · unfold fx_addOn fx_become
    rw [if_neg q, Int64.mul_zero (a := F.2.1), show ∀ x : Int64, fx_div x 0 = 0 from fun x => if_neg (by decide), if_pos (by decide)]
    rfl
set_option maxHeartbeats 4000000 in
set_option maxRecDepth 100000 in
theorem c_X7_common0 {l : Launch} {X : hv_X} {V : hv_V} {n : Nat} {a : Int64} : hv_Ml l X n yX7_common cX7_common 4 V [.long a, .long 0] (fun x V1 => V1 = V ∧ x = a) := by
  refine hv_enter (by decide) (Nat.le_of_ble_eq_true rfl) ?_
  intro p e s m below meth c ls C0 hr hlk hnm w hl
  have hl : lv_has ls 4 [(0, .long a), (2, .long 0)] := hl
  refine lv_lload_n C0.1 C0.2.1 dX7_common_0 rfl (lv_at hl 1 rfl) ?_
  refine lv_lconst (v := 0) C0.1 C0.2.1 dX7_common_1 (by decide) ?_
  refine hv_lc_ne (tgt := 10) C0.1 C0.2.1 dX7_common_2 dX7_common_3 (by decide) (fun h9 => absurd h9 (by decide)) (fun _ => ?_)
  refine lv_lload_n C0.1 C0.2.1 dX7_common_6 rfl (lv_at hl 0 rfl) ?_
  refine lv_goto (tgt := 17) C0.1 C0.2.1 dX7_common_7 (by decide) ?_
  exact hv_lret C0 w hr hlk (⟨rfl, rfl⟩) dX7_common_17

set_option maxHeartbeats 4000000 in
set_option maxRecDepth 100000 in
theorem c_X7_commonS {l : Launch} {X : hv_X} {V : hv_V} {n : Nat} {a b : Int64} (hq : ¬ b = 0) (ih : hv_Ml l X n yX7_common cX7_common 4 V [.long b, .long (a - a / b * b)] (fun x V1 => V1 = V ∧ x = fx_gd n b (a - a / b * b))) : hv_Ml l X (n + 1) yX7_common cX7_common 4 V [.long a, .long b] (fun x V1 => V1 = V ∧ x = fx_gd n b (a - a / b * b)) := by
  refine hv_enter (by decide) (Nat.le_of_ble_eq_true rfl) ?_
  intro p e s m below meth c ls C0 hr hlk hnm w hl
  have hl : lv_has ls 4 [(0, .long a), (2, .long b)] := hl
  refine lv_lload_n C0.1 C0.2.1 dX7_common_0 rfl (lv_at hl 1 rfl) ?_
  refine lv_lconst (v := 0) C0.1 C0.2.1 dX7_common_1 (by decide) ?_
  refine hv_lc_ne (tgt := 10) C0.1 C0.2.1 dX7_common_2 dX7_common_3 (by decide) (fun c_2 => ?_) (fun c_2 => absurd c_2 (hq))
  refine lv_lload_n C0.1 C0.2.1 dX7_common_10 rfl (lv_at hl 1 rfl) ?_
  refine lv_lload_n C0.1 C0.2.1 dX7_common_11 rfl (lv_at hl 0 rfl) ?_
  refine lv_lload_n C0.1 C0.2.1 dX7_common_12 rfl (lv_at hl 1 rfl) ?_
  refine lv_lrem C0.1 C0.2.1 dX7_common_13 (hq) ?_
  refine hv_cSl (As := [.long b, .long (a - a / b * b)]) C0 w kl_X7_93 ks_X7_common (ih) (Nat.le_refl _) (by decide) rfl hl.1 rfl (Nat.le_of_ble_eq_true rfl) dX7_common_14 ⟨Nat.le_refl _, Nat.le_refl _⟩ (fun x1 V2 Hq lq hp3 w => ?_)
  obtain ⟨e9, e8⟩ := hp3
  rw [e9] at w; rw [e8]; clear e9 e8
  exact hv_lret C0 w hr hlk (⟨rfl, rfl⟩) dX7_common_17

theorem c_X7_common {l : Launch} {X : hv_X} {V : hv_V} : ∀ (n : Nat) (a b : Int64), fx_en n a b → hv_Ml l X n yX7_common cX7_common 4 V [.long a, .long b] (fun x V1 => V1 = V ∧ x = fx_gd n a b)
  | 0, a, b, h => by
    have h : b = 0 := h
    subst h
    exact c_X7_common0
  | n + 1, a, b, h => by
    by_cases q : b = 0
    · subst q
      rw [show fx_gd (n + 1) a 0 = a from if_pos rfl]
      exact c_X7_common0
    · rw [show fx_gd (n + 1) a b = fx_gd n b (a - a / b * b) from if_neg q]
      exact c_X7_commonS q (c_X7_common n _ _ (h.resolve_left q))
set_option maxHeartbeats 4000000 in
set_option maxRecDepth 100000 in
theorem c_X7_lay {l : Launch} {X : hv_X} {V : hv_V} {mo : Nat} {ab be : Int64} {tx se ev bk : Nat} {pl cl sg ik : Int32} (hO : V mo = some (mE mo ab be tx pl cl sg se ev bk ik)) {a b : Int64} (ha : -9223372036854775808 < a.toInt) (hb : 0 ≤ b.toInt) : hv_Mv l X 127 yX7_lay cX7_lay 7 V [.ref mo, .long a, .long b] (fun V1 => V1 = hv_up V mo (mE mo (fl_a a b) (fl_b a b) tx pl cl sg se ev bk ik)) := by
  refine hv_enter (by decide) (Nat.le_of_ble_eq_true rfl) ?_
  intro p e s m below meth c ls C0 hr hlk hnm w hl
  have hl : lv_has ls 7 [(0, .ref mo), (1, .long a), (3, .long b)] := hl
  refine lv_lload_n C0.1 C0.2.1 dX7_lay_0 rfl (lv_at hl 2 rfl) ?_
  refine lv_lconst (v := 0) C0.1 C0.2.1 dX7_lay_1 (by decide) ?_
  refine hv_lc_ne (tgt := 10) C0.1 C0.2.1 dX7_lay_2 dX7_lay_3 (by decide) (fun c_2 => ?_) (fun c_2 => ?_)
  · skip
    refine lv_lload_n C0.1 C0.2.1 dX7_lay_10 rfl (lv_at hl 1 rfl) ?_
    refine va_mabs_long C0.1 C0.2.1 (C0.2.2.1.trans hl.1.symm) C0.2.2.2.1 (C0.2.2.2.2.1 _ kj_X7_97) (C0.2.2.2.2.1 _ kj_abs_s) (C0.2.2.2.2.1 _ kj_Math) (C0.2.2.2.2.1 _ kj_abs_c) (by decide) (Nat.le_of_ble_eq_true rfl) (Nat.le_refl _) (Nat.le_refl _) dX7_lay_11 ?_
    rw [show (if 0 < a then a else -a) = fx_abs a from rfl]
    refine lv_lload_n C0.1 C0.2.1 dX7_lay_14 rfl (lv_at hl 2 rfl) ?_
    refine hv_cSl (As := [.long (fx_abs a), .long b]) C0 w kl_X7_93 ks_X7_common (c_X7_common 126 _ _ (fx_en126 (fx_abs_i ha).1 hb)) (by decide) (by decide) rfl hl.1 rfl (Nat.le_of_ble_eq_true rfl) dX7_lay_15 ⟨Nat.le_refl _, Nat.le_refl _⟩ (fun x1 V2 Hq lq hp3 w => ?_)
    obtain ⟨e9, e8⟩ := hp3
    rw [e9] at w; rw [e8]; clear e9 e8
    have qb9 := i64_ne c_2
    have nd9 := fx_nd ha (show 0 < b.toInt by omega)
    have ed0 : fl_d a b = fx_gd 126 (fx_abs a) b := if_neg c_2
    obtain ⟨d9, ed9⟩ : ∃ d9, d9 = fx_gd 126 (fx_abs a) b := ⟨_, rfl⟩
    rw [← ed9] at nd9 ed0 ⊢
    have dne : ¬ d9 = 0 := fun e => by have h9 := nd9.1; rw [e, i64_0] at h9; omega
    have ea9 : fl_a a b = a / d9 := by unfold fl_a; rw [ed0, if_neg dne]
    have ec9 : fl_c a b = b / d9 := by unfold fl_c; rw [ed0, if_neg dne]
    refine lv_lstore (lv' := [(5, .long d9), (0, .ref mo), (1, .long a), (3, .long b)]) C0.1 C0.2.1 dX7_lay_18 hl (by decide) rfl (fun ls hl => ?_)
    refine lv_aload_n C0.1 C0.2.1 dX7_lay_20 rfl (lv_at hl 1 rfl) ?_
    refine lv_lload C0.1 C0.2.1 dX7_lay_21 (lv_at hl 0 rfl) ?_
    refine lv_lconst (v := 0) C0.1 C0.2.1 dX7_lay_23 (by decide) ?_
    refine hv_lc_ne (tgt := 32) C0.1 C0.2.1 dX7_lay_24 dX7_lay_25 (by decide) (fun c_24 => ?_) (fun c_24 => absurd c_24 (dne))
    refine lv_lload_n C0.1 C0.2.1 dX7_lay_32 rfl (lv_at hl 2 rfl) ?_
    refine lv_lload C0.1 C0.2.1 dX7_lay_33 (lv_at hl 0 rfl) ?_
    refine lv_ldiv C0.1 C0.2.1 dX7_lay_35 (dne) ?_
    refine pf_X7_103 C0 w hO (by simp) dX7_lay_36 (fun Hq lq w => ?_)
    obtain ⟨V4, eV5⟩ : ∃ W9, W9 = hv_up V mo (.inr (7, [.ref (mo + 1), .ref (mo + 2), .ref (mo + 3), .long (a / d9), .long be, .ref (mo + 10), .int (nI tx), .int pl, .int cl, .ref (mo + 11), .ref (mo + 12), .ref (mo + 13), .int sg, .ref (mo + 14), .ref (mo + 15), .ref (mo + 16), .ref (mo + 17), .int (nI se), .ref (mo + 18), .ref (mo + 19), .int (nI ev), .ref (mo + 20), .ref (mo + 21), .ref (mo + 22), .int (nI bk), .int ik, .ref (mo + 23), .ref (mo + 24), .ref (mo + 25), .ref (mo + 26), .ref (mo + 33), .ref (mo + 41), .ref (mo + 42), .ref (mo + 43)])) := ⟨_, rfl⟩
    have w : hv_w X s V4 Hq lq := by rw [eV5]; exact w
    have hV7 : V4 mo = some (.inr (7, [.ref (mo + 1), .ref (mo + 2), .ref (mo + 3), .long (a / d9), .long be, .ref (mo + 10), .int (nI tx), .int pl, .int cl, .ref (mo + 11), .ref (mo + 12), .ref (mo + 13), .int sg, .ref (mo + 14), .ref (mo + 15), .ref (mo + 16), .ref (mo + 17), .int (nI se), .ref (mo + 18), .ref (mo + 19), .int (nI ev), .ref (mo + 20), .ref (mo + 21), .ref (mo + 22), .int (nI bk), .int ik, .ref (mo + 23), .ref (mo + 24), .ref (mo + 25), .ref (mo + 26), .ref (mo + 33), .ref (mo + 41), .ref (mo + 42), .ref (mo + 43)])) := by rw [eV5]; exact hv_us
    refine lv_aload_n C0.1 C0.2.1 dX7_lay_39 rfl (lv_at hl 1 rfl) ?_
    refine lv_lload C0.1 C0.2.1 dX7_lay_40 (lv_at hl 0 rfl) ?_
    refine lv_lconst (v := 0) C0.1 C0.2.1 dX7_lay_42 (by decide) ?_
    refine hv_lc_ne (tgt := 51) C0.1 C0.2.1 dX7_lay_43 dX7_lay_44 (by decide) (fun c_43 => ?_) (fun c_43 => absurd c_43 (dne))
    refine lv_lload_n C0.1 C0.2.1 dX7_lay_51 rfl (lv_at hl 3 rfl) ?_
    refine lv_lload C0.1 C0.2.1 dX7_lay_52 (lv_at hl 0 rfl) ?_
    refine lv_ldiv C0.1 C0.2.1 dX7_lay_54 (dne) ?_
    refine pf_X7_107 C0 w hV7 (by simp) dX7_lay_55 (fun Hq lq w => ?_)
    obtain ⟨V8, eV9⟩ : ∃ W9, W9 = hv_up V4 mo (.inr (7, [.ref (mo + 1), .ref (mo + 2), .ref (mo + 3), .long (a / d9), .long (b / d9), .ref (mo + 10), .int (nI tx), .int pl, .int cl, .ref (mo + 11), .ref (mo + 12), .ref (mo + 13), .int sg, .ref (mo + 14), .ref (mo + 15), .ref (mo + 16), .ref (mo + 17), .int (nI se), .ref (mo + 18), .ref (mo + 19), .int (nI ev), .ref (mo + 20), .ref (mo + 21), .ref (mo + 22), .int (nI bk), .int ik, .ref (mo + 23), .ref (mo + 24), .ref (mo + 25), .ref (mo + 26), .ref (mo + 33), .ref (mo + 41), .ref (mo + 42), .ref (mo + 43)])) := ⟨_, rfl⟩
    have w : hv_w X s V8 Hq lq := by rw [eV9]; exact w
    have hV11 : V8 mo = some (.inr (7, [.ref (mo + 1), .ref (mo + 2), .ref (mo + 3), .long (a / d9), .long (b / d9), .ref (mo + 10), .int (nI tx), .int pl, .int cl, .ref (mo + 11), .ref (mo + 12), .ref (mo + 13), .int sg, .ref (mo + 14), .ref (mo + 15), .ref (mo + 16), .ref (mo + 17), .int (nI se), .ref (mo + 18), .ref (mo + 19), .int (nI ev), .ref (mo + 20), .ref (mo + 21), .ref (mo + 22), .int (nI bk), .int ik, .ref (mo + 23), .ref (mo + 24), .ref (mo + 25), .ref (mo + 26), .ref (mo + 33), .ref (mo + 41), .ref (mo + 42), .ref (mo + 43)])) := by rw [eV9]; exact hv_us
    refine lv_aload_n C0.1 C0.2.1 dX7_lay_58 rfl (lv_at hl 1 rfl) ?_
    refine gf_X7_103 C0 w hV11 rfl dX7_lay_59 ?_
    refine va_mabs_long C0.1 C0.2.1 (C0.2.2.1.trans hl.1.symm) C0.2.2.2.1 (C0.2.2.2.2.1 _ kj_X7_97) (C0.2.2.2.2.1 _ kj_abs_s) (C0.2.2.2.2.1 _ kj_Math) (C0.2.2.2.2.1 _ kj_abs_c) (by decide) (Nat.le_of_ble_eq_true rfl) (Nat.le_refl _) (Nat.le_refl _) dX7_lay_62 ?_
    refine lv_ldc2 C0.1 C0.2.1 C0.2.2.2.1 (C0.2.2.2.2.1 _ kk_X7_110) dX7_lay_65 ?_
    refine hv_lc_gt (tgt := 83) C0.1 C0.2.1 dX7_lay_68 dX7_lay_69 (by decide) (fun c_68 => ?_) (fun c_68 => ?_)
    · skip
      refine lv_aload_n C0.1 C0.2.1 dX7_lay_83 rfl (lv_at hl 1 rfl) ?_
      refine lv_lconst (v := 0) C0.1 C0.2.1 dX7_lay_84 (by decide) ?_
      refine pf_X7_107 C0 w hV11 (by simp) dX7_lay_85 (fun Hq lq w => ?_)
      obtain ⟨V12, eV13⟩ : ∃ W9, W9 = hv_up V8 mo (.inr (7, [.ref (mo + 1), .ref (mo + 2), .ref (mo + 3), .long (a / d9), .long 0, .ref (mo + 10), .int (nI tx), .int pl, .int cl, .ref (mo + 11), .ref (mo + 12), .ref (mo + 13), .int sg, .ref (mo + 14), .ref (mo + 15), .ref (mo + 16), .ref (mo + 17), .int (nI se), .ref (mo + 18), .ref (mo + 19), .int (nI ev), .ref (mo + 20), .ref (mo + 21), .ref (mo + 22), .int (nI bk), .int ik, .ref (mo + 23), .ref (mo + 24), .ref (mo + 25), .ref (mo + 26), .ref (mo + 33), .ref (mo + 41), .ref (mo + 42), .ref (mo + 43)])) := ⟨_, rfl⟩
      have w : hv_w X s V12 Hq lq := by rw [eV13]; exact w
      have hV15 : V12 mo = some (.inr (7, [.ref (mo + 1), .ref (mo + 2), .ref (mo + 3), .long (a / d9), .long 0, .ref (mo + 10), .int (nI tx), .int pl, .int cl, .ref (mo + 11), .ref (mo + 12), .ref (mo + 13), .int sg, .ref (mo + 14), .ref (mo + 15), .ref (mo + 16), .ref (mo + 17), .int (nI se), .ref (mo + 18), .ref (mo + 19), .int (nI ev), .ref (mo + 20), .ref (mo + 21), .ref (mo + 22), .int (nI bk), .int ik, .ref (mo + 23), .ref (mo + 24), .ref (mo + 25), .ref (mo + 26), .ref (mo + 33), .ref (mo + 41), .ref (mo + 42), .ref (mo + 43)])) := by rw [eV13]; exact hv_us
      exact hv_vret C0 w hr hlk (by rw [eV13, eV9, eV5, hv_uu, hv_uu, ea9, show fl_b a b = 0 from by unfold fl_b; rw [ea9, ec9]; exact if_pos (Or.inl c_68)]) dX7_lay_88
    · skip
      refine lv_aload_n C0.1 C0.2.1 dX7_lay_72 rfl (lv_at hl 1 rfl) ?_
      refine gf_X7_107 C0 w hV11 rfl dX7_lay_73 ?_
      refine lv_ldc2 C0.1 C0.2.1 C0.2.2.2.1 (C0.2.2.2.2.1 _ kk_X7_110) dX7_lay_76 ?_
      refine hv_lc_le (tgt := 88) C0.1 C0.2.1 dX7_lay_79 dX7_lay_80 (by decide) (fun c_79 => ?_) (fun c_79 => ?_)
      · skip
        exact hv_vret C0 w hr hlk (by rw [eV9, eV5, hv_uu, ea9, show fl_b a b = b / d9 from by unfold fl_b; rw [ea9, ec9]; exact if_neg (fun h9 => h9.elim c_68 (fun h8 => absurd c_79 (Int64.not_le.mpr h8)))]) dX7_lay_88
      · skip
        refine lv_aload_n C0.1 C0.2.1 dX7_lay_83 rfl (lv_at hl 1 rfl) ?_
        refine lv_lconst (v := 0) C0.1 C0.2.1 dX7_lay_84 (by decide) ?_
        refine pf_X7_107 C0 w hV11 (by simp) dX7_lay_85 (fun Hq lq w => ?_)
        obtain ⟨V16, eV17⟩ : ∃ W9, W9 = hv_up V8 mo (.inr (7, [.ref (mo + 1), .ref (mo + 2), .ref (mo + 3), .long (a / d9), .long 0, .ref (mo + 10), .int (nI tx), .int pl, .int cl, .ref (mo + 11), .ref (mo + 12), .ref (mo + 13), .int sg, .ref (mo + 14), .ref (mo + 15), .ref (mo + 16), .ref (mo + 17), .int (nI se), .ref (mo + 18), .ref (mo + 19), .int (nI ev), .ref (mo + 20), .ref (mo + 21), .ref (mo + 22), .int (nI bk), .int ik, .ref (mo + 23), .ref (mo + 24), .ref (mo + 25), .ref (mo + 26), .ref (mo + 33), .ref (mo + 41), .ref (mo + 42), .ref (mo + 43)])) := ⟨_, rfl⟩
        have w : hv_w X s V16 Hq lq := by rw [eV17]; exact w
        have hV19 : V16 mo = some (.inr (7, [.ref (mo + 1), .ref (mo + 2), .ref (mo + 3), .long (a / d9), .long 0, .ref (mo + 10), .int (nI tx), .int pl, .int cl, .ref (mo + 11), .ref (mo + 12), .ref (mo + 13), .int sg, .ref (mo + 14), .ref (mo + 15), .ref (mo + 16), .ref (mo + 17), .int (nI se), .ref (mo + 18), .ref (mo + 19), .int (nI ev), .ref (mo + 20), .ref (mo + 21), .ref (mo + 22), .int (nI bk), .int ik, .ref (mo + 23), .ref (mo + 24), .ref (mo + 25), .ref (mo + 26), .ref (mo + 33), .ref (mo + 41), .ref (mo + 42), .ref (mo + 43)])) := by rw [eV17]; exact hv_us
        exact hv_vret C0 w hr hlk (by rw [eV17, eV9, eV5, hv_uu, hv_uu, ea9, show fl_b a b = 0 from by unfold fl_b; rw [ea9, ec9]; exact if_pos (Or.inr (Int64.not_le.mp c_79))]) dX7_lay_88
  · skip
    refine lv_lconst (v := 0) C0.1 C0.2.1 dX7_lay_6 (by decide) ?_
    refine lv_goto (tgt := 18) C0.1 C0.2.1 dX7_lay_7 (by decide) ?_
    have ed0 : fl_d a b = 0 := if_pos c_2
    have ea9 : fl_a a b = 0 := by unfold fl_a; rw [ed0, if_pos rfl]
    have ec9 : fl_c a b = 0 := by unfold fl_c; rw [ed0, if_pos rfl]
    refine lv_lstore (lv' := [(5, .long 0), (0, .ref mo), (1, .long a), (3, .long b)]) C0.1 C0.2.1 dX7_lay_18 hl (by decide) rfl (fun ls hl => ?_)
    refine lv_aload_n C0.1 C0.2.1 dX7_lay_20 rfl (lv_at hl 1 rfl) ?_
    refine lv_lload C0.1 C0.2.1 dX7_lay_21 (lv_at hl 0 rfl) ?_
    refine lv_lconst (v := 0) C0.1 C0.2.1 dX7_lay_23 (by decide) ?_
    refine hv_lc_ne (tgt := 32) C0.1 C0.2.1 dX7_lay_24 dX7_lay_25 (by decide) (fun h9 => absurd h9 (by decide)) (fun _ => ?_)
    refine lv_lconst (v := 0) C0.1 C0.2.1 dX7_lay_28 (by decide) ?_
    refine lv_goto (tgt := 36) C0.1 C0.2.1 dX7_lay_29 (by decide) ?_
    refine pf_X7_103 C0 w hO (by simp) dX7_lay_36 (fun Hq lq w => ?_)
    obtain ⟨V20, eV21⟩ : ∃ W9, W9 = hv_up V mo (.inr (7, [.ref (mo + 1), .ref (mo + 2), .ref (mo + 3), .long 0, .long be, .ref (mo + 10), .int (nI tx), .int pl, .int cl, .ref (mo + 11), .ref (mo + 12), .ref (mo + 13), .int sg, .ref (mo + 14), .ref (mo + 15), .ref (mo + 16), .ref (mo + 17), .int (nI se), .ref (mo + 18), .ref (mo + 19), .int (nI ev), .ref (mo + 20), .ref (mo + 21), .ref (mo + 22), .int (nI bk), .int ik, .ref (mo + 23), .ref (mo + 24), .ref (mo + 25), .ref (mo + 26), .ref (mo + 33), .ref (mo + 41), .ref (mo + 42), .ref (mo + 43)])) := ⟨_, rfl⟩
    have w : hv_w X s V20 Hq lq := by rw [eV21]; exact w
    have hV23 : V20 mo = some (.inr (7, [.ref (mo + 1), .ref (mo + 2), .ref (mo + 3), .long 0, .long be, .ref (mo + 10), .int (nI tx), .int pl, .int cl, .ref (mo + 11), .ref (mo + 12), .ref (mo + 13), .int sg, .ref (mo + 14), .ref (mo + 15), .ref (mo + 16), .ref (mo + 17), .int (nI se), .ref (mo + 18), .ref (mo + 19), .int (nI ev), .ref (mo + 20), .ref (mo + 21), .ref (mo + 22), .int (nI bk), .int ik, .ref (mo + 23), .ref (mo + 24), .ref (mo + 25), .ref (mo + 26), .ref (mo + 33), .ref (mo + 41), .ref (mo + 42), .ref (mo + 43)])) := by rw [eV21]; exact hv_us
    refine lv_aload_n C0.1 C0.2.1 dX7_lay_39 rfl (lv_at hl 1 rfl) ?_
    refine lv_lload C0.1 C0.2.1 dX7_lay_40 (lv_at hl 0 rfl) ?_
    refine lv_lconst (v := 0) C0.1 C0.2.1 dX7_lay_42 (by decide) ?_
    refine hv_lc_ne (tgt := 51) C0.1 C0.2.1 dX7_lay_43 dX7_lay_44 (by decide) (fun h9 => absurd h9 (by decide)) (fun _ => ?_)
    refine lv_lconst (v := 0) C0.1 C0.2.1 dX7_lay_47 (by decide) ?_
    refine lv_goto (tgt := 55) C0.1 C0.2.1 dX7_lay_48 (by decide) ?_
    refine pf_X7_107 C0 w hV23 (by simp) dX7_lay_55 (fun Hq lq w => ?_)
    obtain ⟨V24, eV25⟩ : ∃ W9, W9 = hv_up V20 mo (.inr (7, [.ref (mo + 1), .ref (mo + 2), .ref (mo + 3), .long 0, .long 0, .ref (mo + 10), .int (nI tx), .int pl, .int cl, .ref (mo + 11), .ref (mo + 12), .ref (mo + 13), .int sg, .ref (mo + 14), .ref (mo + 15), .ref (mo + 16), .ref (mo + 17), .int (nI se), .ref (mo + 18), .ref (mo + 19), .int (nI ev), .ref (mo + 20), .ref (mo + 21), .ref (mo + 22), .int (nI bk), .int ik, .ref (mo + 23), .ref (mo + 24), .ref (mo + 25), .ref (mo + 26), .ref (mo + 33), .ref (mo + 41), .ref (mo + 42), .ref (mo + 43)])) := ⟨_, rfl⟩
    have w : hv_w X s V24 Hq lq := by rw [eV25]; exact w
    have hV27 : V24 mo = some (.inr (7, [.ref (mo + 1), .ref (mo + 2), .ref (mo + 3), .long 0, .long 0, .ref (mo + 10), .int (nI tx), .int pl, .int cl, .ref (mo + 11), .ref (mo + 12), .ref (mo + 13), .int sg, .ref (mo + 14), .ref (mo + 15), .ref (mo + 16), .ref (mo + 17), .int (nI se), .ref (mo + 18), .ref (mo + 19), .int (nI ev), .ref (mo + 20), .ref (mo + 21), .ref (mo + 22), .int (nI bk), .int ik, .ref (mo + 23), .ref (mo + 24), .ref (mo + 25), .ref (mo + 26), .ref (mo + 33), .ref (mo + 41), .ref (mo + 42), .ref (mo + 43)])) := by rw [eV25]; exact hv_us
    refine lv_aload_n C0.1 C0.2.1 dX7_lay_58 rfl (lv_at hl 1 rfl) ?_
    refine gf_X7_103 C0 w hV27 rfl dX7_lay_59 ?_
    refine va_mabs_long C0.1 C0.2.1 (C0.2.2.1.trans hl.1.symm) C0.2.2.2.1 (C0.2.2.2.2.1 _ kj_X7_97) (C0.2.2.2.2.1 _ kj_abs_s) (C0.2.2.2.2.1 _ kj_Math) (C0.2.2.2.2.1 _ kj_abs_c) (by decide) (Nat.le_of_ble_eq_true rfl) (Nat.le_refl _) (Nat.le_refl _) dX7_lay_62 ?_
    refine lv_ldc2 C0.1 C0.2.1 C0.2.2.2.1 (C0.2.2.2.2.1 _ kk_X7_110) dX7_lay_65 ?_
    refine hv_lc_gt (tgt := 83) C0.1 C0.2.1 dX7_lay_68 dX7_lay_69 (by decide) (fun c_68 => absurd c_68 (by decide)) (fun c_68 => ?_)
    refine lv_aload_n C0.1 C0.2.1 dX7_lay_72 rfl (lv_at hl 1 rfl) ?_
    refine gf_X7_107 C0 w hV27 rfl dX7_lay_73 ?_
    refine lv_ldc2 C0.1 C0.2.1 C0.2.2.2.1 (C0.2.2.2.2.1 _ kk_X7_110) dX7_lay_76 ?_
    refine hv_lc_le (tgt := 88) C0.1 C0.2.1 dX7_lay_79 dX7_lay_80 (by decide) (fun _ => ?_) (fun h9 => absurd h9 (by decide))
    exact hv_vret C0 w hr hlk (by rw [eV25, eV21, hv_uu, ea9, show fl_b a b = 0 from by unfold fl_b; rw [ea9, ec9, if_neg (by decide)]]) dX7_lay_88

set_option maxHeartbeats 4000000 in
set_option maxRecDepth 100000 in
theorem c_X7_isThere {l : Launch} {X : hv_X} {V : hv_V} {mo : Nat} {ab be : Int64} {tx se ev bk : Nat} {pl cl sg ik : Int32} (hO : V mo = some (mE mo ab be tx pl cl sg se ev bk ik))  : hv_Mi l X 0 yX7_isThere cX7_isThere 1 .boolean V [.ref mo] (fun y V1 => V1 = V ∧ hv_B (¬ be = 0) y) := by
  refine hv_enter (by decide) (Nat.le_of_ble_eq_true rfl) ?_
  intro p e s m below meth c ls C0 hr hlk hnm w hl
  have hl : lv_has ls 1 [(0, .ref mo)] := hl
  refine lv_aload_n C0.1 C0.2.1 dX7_isThere_0 rfl (lv_at hl 0 rfl) ?_
  refine gf_X7_107 C0 w hO rfl dX7_isThere_1 ?_
  refine lv_lconst (v := 0) C0.1 C0.2.1 dX7_isThere_4 (by decide) ?_
  refine hv_lc_eq (tgt := 13) C0.1 C0.2.1 dX7_isThere_5 dX7_isThere_6 (by decide) (fun c_5 => ?_) (fun c_5 => ?_)
  · skip
    refine lv_iconst (v := 0) C0.1 C0.2.1 dX7_isThere_13 (by decide) ?_
    exact hv_zret C0 w hr hlk (by decide) (⟨rfl, Or.inr ⟨rfl, fun h9 => h9 c_5⟩⟩) dX7_isThere_14
  · skip
    refine lv_iconst (v := 1) C0.1 C0.2.1 dX7_isThere_9 (by decide) ?_
    refine lv_goto (tgt := 14) C0.1 C0.2.1 dX7_isThere_10 (by decide) ?_
    exact hv_zret C0 w hr hlk (by decide) (⟨rfl, Or.inl ⟨rfl, c_5⟩⟩) dX7_isThere_14

set_option maxHeartbeats 4000000 in
set_option maxRecDepth 100000 in
theorem c_X7_plus {l : Launch} {X : hv_X} {V : hv_V} {mo : Nat} {ab be : Int64} {tx se ev bk : Nat} {pl cl sg ik : Int32} (hO : V mo = some (mE mo ab be tx pl cl sg se ev bk ik)) {F : fx_F} (hF : fm F ab be) {a b : Int64} (ha : i64_in a) (hb : i64_ip b) : hv_Mv l X 128 yX7_plus cX7_plus 5 V [.ref mo, .long a, .long b] (fun V1 => ∃ ab1 be1 : Int64, V1 = hv_up V mo (mE mo ab1 be1 tx pl cl sg se ev bk ik) ∧ fm (fx_addOn F a b) ab1 be1) := by
  refine hv_enter (by decide) (Nat.le_of_ble_eq_true rfl) ?_
  intro p e s m below meth c ls C0 hr hlk hnm w hl
  have hl : lv_has ls 5 [(0, .ref mo), (1, .long a), (3, .long b)] := hl
  refine lv_aload_n C0.1 C0.2.1 dX7_plus_0 rfl (lv_at hl 0 rfl) ?_
  refine hv_cVi C0 w kl_X7_112 kv_X7_isThere rfl hO (c_X7_isThere hO) (by decide) (by decide) rfl hl.1 rfl (Nat.le_of_ble_eq_true rfl) dX7_plus_1 ⟨Nat.le_refl _, Nat.le_refl _⟩ (fun x1 V2 Hq lq hp3 w => ?_)
  obtain ⟨e9, hz9⟩ := hp3
  rw [e9] at w; clear e9
  rcases hz9 with ⟨rfl, hb4⟩ | ⟨rfl, hb4⟩
  · skip
    refine lv_if_eq (tgt := 30) C0.1 C0.2.1 dX7_plus_4 (by decide) (fun h9 => absurd h9 (by decide)) (fun _ => ?_)
    refine lv_aload_n C0.1 C0.2.1 dX7_plus_7 rfl (lv_at hl 0 rfl) ?_
    refine lv_aload_n C0.1 C0.2.1 dX7_plus_8 rfl (lv_at hl 0 rfl) ?_
    refine gf_X7_103 C0 w hO rfl dX7_plus_9 ?_
    refine lv_lload_n C0.1 C0.2.1 dX7_plus_12 rfl (lv_at hl 2 rfl) ?_
    refine lv_lmul C0.1 C0.2.1 dX7_plus_13 ?_
    refine lv_lload_n C0.1 C0.2.1 dX7_plus_14 rfl (lv_at hl 1 rfl) ?_
    refine lv_aload_n C0.1 C0.2.1 dX7_plus_15 rfl (lv_at hl 0 rfl) ?_
    refine gf_X7_107 C0 w hO rfl dX7_plus_16 ?_
    refine lv_lmul C0.1 C0.2.1 dX7_plus_19 ?_
    refine lv_ladd C0.1 C0.2.1 dX7_plus_20 ?_
    refine lv_aload_n C0.1 C0.2.1 dX7_plus_21 rfl (lv_at hl 0 rfl) ?_
    refine gf_X7_107 C0 w hO rfl dX7_plus_22 ?_
    refine lv_lload_n C0.1 C0.2.1 dX7_plus_25 rfl (lv_at hl 2 rfl) ?_
    refine lv_lmul C0.1 C0.2.1 dX7_plus_26 ?_
    have k9 := hF.plus hb4 ha hb
    refine hv_cVv C0 w kl_X7_116 kv_X7_lay rfl hO (c_X7_lay hO k9.2.1 k9.2.2) (by decide) (by decide) rfl hl.1 rfl (Nat.le_of_ble_eq_true rfl) dX7_plus_27 ⟨Nat.le_refl _, Nat.le_refl _⟩ (fun V6 Hq lq hp7 w => ?_)
    exact hv_vret C0 w hr hlk (⟨_, _, hp7, k9.1⟩) dX7_plus_30
  · skip
    refine lv_if_eq (tgt := 30) C0.1 C0.2.1 dX7_plus_4 (by decide) (fun _ => ?_) (fun h9 => absurd h9 (by decide))
    exact hv_vret C0 w hr hlk (⟨ab, be, (hv_id hO).symm, Or.inl ⟨fx_no0 (hF.no.mp (Classical.byContradiction hb4)), Classical.byContradiction hb4⟩⟩) dX7_plus_30

set_option maxHeartbeats 4000000 in
set_option maxRecDepth 100000 in
theorem c_X7_times {l : Launch} {X : hv_X} {V : hv_V} {mo : Nat} {ab be : Int64} {tx se ev bk : Nat} {pl cl sg ik : Int32} (hO : V mo = some (mE mo ab be tx pl cl sg se ev bk ik)) {F : fx_F} (hF : fm F ab be) {a b : Int64} (ha : i64_in a) (hb : i64_ip b) : hv_Mv l X 128 yX7_times cX7_times 5 V [.ref mo, .long a, .long b] (fun V1 => ∃ ab1 be1 : Int64, V1 = hv_up V mo (mE mo ab1 be1 tx pl cl sg se ev bk ik) ∧ fm (fx_tm F a b) ab1 be1) := by
  refine hv_enter (by decide) (Nat.le_of_ble_eq_true rfl) ?_
  intro p e s m below meth c ls C0 hr hlk hnm w hl
  have hl : lv_has ls 5 [(0, .ref mo), (1, .long a), (3, .long b)] := hl
  refine lv_aload_n C0.1 C0.2.1 dX7_times_0 rfl (lv_at hl 0 rfl) ?_
  refine hv_cVi C0 w kl_X7_112 kv_X7_isThere rfl hO (c_X7_isThere hO) (by decide) (by decide) rfl hl.1 rfl (Nat.le_of_ble_eq_true rfl) dX7_times_1 ⟨Nat.le_refl _, Nat.le_refl _⟩ (fun x1 V2 Hq lq hp3 w => ?_)
  obtain ⟨e9, hz9⟩ := hp3
  rw [e9] at w; clear e9
  rcases hz9 with ⟨rfl, hb4⟩ | ⟨rfl, hb4⟩
  · skip
    refine lv_if_eq (tgt := 23) C0.1 C0.2.1 dX7_times_4 (by decide) (fun h9 => absurd h9 (by decide)) (fun _ => ?_)
    refine lv_aload_n C0.1 C0.2.1 dX7_times_7 rfl (lv_at hl 0 rfl) ?_
    refine lv_aload_n C0.1 C0.2.1 dX7_times_8 rfl (lv_at hl 0 rfl) ?_
    refine gf_X7_103 C0 w hO rfl dX7_times_9 ?_
    refine lv_lload_n C0.1 C0.2.1 dX7_times_12 rfl (lv_at hl 1 rfl) ?_
    refine lv_lmul C0.1 C0.2.1 dX7_times_13 ?_
    refine lv_aload_n C0.1 C0.2.1 dX7_times_14 rfl (lv_at hl 0 rfl) ?_
    refine gf_X7_107 C0 w hO rfl dX7_times_15 ?_
    refine lv_lload_n C0.1 C0.2.1 dX7_times_18 rfl (lv_at hl 2 rfl) ?_
    refine lv_lmul C0.1 C0.2.1 dX7_times_19 ?_
    have k9 := hF.times hb4 ha hb
    refine hv_cVv C0 w kl_X7_116 kv_X7_lay rfl hO (c_X7_lay hO k9.2.1 k9.2.2) (by decide) (by decide) rfl hl.1 rfl (Nat.le_of_ble_eq_true rfl) dX7_times_20 ⟨Nat.le_refl _, Nat.le_refl _⟩ (fun V6 Hq lq hp7 w => ?_)
    exact hv_vret C0 w hr hlk (⟨_, _, hp7, k9.1⟩) dX7_times_23
  · skip
    refine lv_if_eq (tgt := 23) C0.1 C0.2.1 dX7_times_4 (by decide) (fun _ => ?_) (fun h9 => absurd h9 (by decide))
    exact hv_vret C0 w hr hlk (⟨ab, be, (hv_id hO).symm, Or.inl ⟨fx_no1 (hF.no.mp (Classical.byContradiction hb4)), Classical.byContradiction hb4⟩⟩) dX7_times_23

set_option maxHeartbeats 4000000 in
set_option maxRecDepth 100000 in
theorem c_X7_turns {l : Launch} {X : hv_X} {V : hv_V} {mo : Nat} {ab be : Int64} {tx se ev bk : Nat} {pl cl sg ik : Int32} (hO : V mo = some (mE mo ab be tx pl cl sg se ev bk ik))  : hv_Mv l X 0 yX7_turns cX7_turns 1 V [.ref mo] (fun V1 => V1 = hv_up V mo (mE mo (-ab) be tx pl cl sg se ev bk ik)) := by
  refine hv_enter (by decide) (Nat.le_of_ble_eq_true rfl) ?_
  intro p e s m below meth c ls C0 hr hlk hnm w hl
  have hl : lv_has ls 1 [(0, .ref mo)] := hl
  refine lv_aload_n C0.1 C0.2.1 dX7_turns_0 rfl (lv_at hl 0 rfl) ?_
  refine lv_aload_n C0.1 C0.2.1 dX7_turns_1 rfl (lv_at hl 0 rfl) ?_
  refine gf_X7_103 C0 w hO rfl dX7_turns_2 ?_
  refine lv_lneg C0.1 C0.2.1 dX7_turns_5 ?_
  refine pf_X7_103 C0 w hO (by simp) dX7_turns_6 (fun Hq lq w => ?_)
  obtain ⟨V1, eV2⟩ : ∃ W9, W9 = hv_up V mo (.inr (7, [.ref (mo + 1), .ref (mo + 2), .ref (mo + 3), .long (-ab), .long be, .ref (mo + 10), .int (nI tx), .int pl, .int cl, .ref (mo + 11), .ref (mo + 12), .ref (mo + 13), .int sg, .ref (mo + 14), .ref (mo + 15), .ref (mo + 16), .ref (mo + 17), .int (nI se), .ref (mo + 18), .ref (mo + 19), .int (nI ev), .ref (mo + 20), .ref (mo + 21), .ref (mo + 22), .int (nI bk), .int ik, .ref (mo + 23), .ref (mo + 24), .ref (mo + 25), .ref (mo + 26), .ref (mo + 33), .ref (mo + 41), .ref (mo + 42), .ref (mo + 43)])) := ⟨_, rfl⟩
  have w : hv_w X s V1 Hq lq := by rw [eV2]; exact w
  have hV4 : V1 mo = some (.inr (7, [.ref (mo + 1), .ref (mo + 2), .ref (mo + 3), .long (-ab), .long be, .ref (mo + 10), .int (nI tx), .int pl, .int cl, .ref (mo + 11), .ref (mo + 12), .ref (mo + 13), .int sg, .ref (mo + 14), .ref (mo + 15), .ref (mo + 16), .ref (mo + 17), .int (nI se), .ref (mo + 18), .ref (mo + 19), .int (nI ev), .ref (mo + 20), .ref (mo + 21), .ref (mo + 22), .int (nI bk), .int ik, .ref (mo + 23), .ref (mo + 24), .ref (mo + 25), .ref (mo + 26), .ref (mo + 33), .ref (mo + 41), .ref (mo + 42), .ref (mo + 43)])) := by rw [eV2]; exact hv_us
  exact hv_vret C0 w hr hlk (eV2) dX7_turns_9

