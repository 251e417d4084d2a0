def fx_cmp (a b : Int64) : Int32 := if a < b then -1 else if a = b then 0 else 1
set_option maxHeartbeats 4000000 in
set_option maxRecDepth 100000 in
theorem c_J13_compare_74951 {l : Launch} {X : hv_X} {V : hv_V} {a b : Int64} : hv_Mi l X 0 yJ13_compare_74951 cJ13_compare_74951 4 .int V [.long a, .long b] (fun x V1 => V1 = V ∧ x = fx_cmp a b) := by
  refine hv_enter (by decide) (Nat.le_of_ble_eq_true rfl) ?_
  intro p e s m below meth c ls C0 hr hlk hnm w hl
  have hl : lv_has ls 4 [(0, .long a), (2, .long b)] := hl
  refine lv_lload_n C0.1 C0.2.1 dJ13_compare_74951_0 rfl (lv_at hl 0 rfl) ?_
  refine lv_lload_n C0.1 C0.2.1 dJ13_compare_74951_1 rfl (lv_at hl 1 rfl) ?_
  refine hv_lc_ge (tgt := 10) C0.1 C0.2.1 dJ13_compare_74951_2 dJ13_compare_74951_3 (by decide) (fun c_2 => ?_) (fun c_2 => ?_)
  · skip
    refine lv_lload_n C0.1 C0.2.1 dJ13_compare_74951_10 rfl (lv_at hl 0 rfl) ?_
    refine lv_lload_n C0.1 C0.2.1 dJ13_compare_74951_11 rfl (lv_at hl 1 rfl) ?_
    refine hv_lc_ne (tgt := 20) C0.1 C0.2.1 dJ13_compare_74951_12 dJ13_compare_74951_13 (by decide) (fun c_12 => ?_) (fun c_12 => ?_)
    · skip
      refine lv_iconst (v := 1) C0.1 C0.2.1 dJ13_compare_74951_20 (by decide) ?_
      exact hv_iret C0 w hr hlk (⟨rfl, by rw [fx_cmp, if_neg (Int64.not_lt.mpr c_2), if_neg c_12]⟩) dJ13_compare_74951_21
    · skip
      refine lv_iconst (v := 0) C0.1 C0.2.1 dJ13_compare_74951_16 (by decide) ?_
      refine lv_goto (tgt := 21) C0.1 C0.2.1 dJ13_compare_74951_17 (by decide) ?_
      exact hv_iret C0 w hr hlk (⟨rfl, by rw [fx_cmp, if_neg (Int64.not_lt.mpr c_2), if_pos c_12]⟩) dJ13_compare_74951_21
  · skip
    refine lv_iconst (v := -1) C0.1 C0.2.1 dJ13_compare_74951_6 (by decide) ?_
    refine lv_goto (tgt := 21) C0.1 C0.2.1 dJ13_compare_74951_7 (by decide) ?_
    exact hv_iret C0 w hr hlk (⟨rfl, by rw [fx_cmp, if_pos (Int64.not_le.mp c_2)]⟩) dJ13_compare_74951_21

set_option maxHeartbeats 4000000 in
set_option maxRecDepth 100000 in
theorem c_X7_against {l : Launch} {X : hv_X} {V : hv_V} {mo : Nat} {ab be : Int64} {tx se ev bk : Nat} {pl cl sg ik : Int32} (hO : V mo = some (mE mo ab be tx pl cl sg se ev bk ik)) {a b : Int64} : hv_Mi l X 1 yX7_against cX7_against 5 .int V [.ref mo, .long a, .long b] (fun x V1 => V1 = V ∧ x = fx_cmp (ab * b) (a * be)) := by
  refine hv_enter (by decide) (Nat.le_of_ble_eq_true rfl) ?_
  intro p e s m below meth c ls C0 hr hlk hnm w hl
  have hl : lv_has ls 5 [(0, .ref mo), (1, .long a), (3, .long b)] := hl
  refine lv_aload_n C0.1 C0.2.1 dX7_against_0 rfl (lv_at hl 0 rfl) ?_
  refine gf_X7_103 C0 w hO rfl dX7_against_1 ?_
  refine lv_lload_n C0.1 C0.2.1 dX7_against_4 rfl (lv_at hl 2 rfl) ?_
  refine lv_lmul C0.1 C0.2.1 dX7_against_5 ?_
  refine lv_lload_n C0.1 C0.2.1 dX7_against_6 rfl (lv_at hl 1 rfl) ?_
  refine lv_aload_n C0.1 C0.2.1 dX7_against_7 rfl (lv_at hl 0 rfl) ?_
  refine gf_X7_107 C0 w hO rfl dX7_against_8 ?_
  refine lv_lmul C0.1 C0.2.1 dX7_against_11 ?_
  refine hv_cSi (As := [.long (ab * b), .long (a * be)]) C0 w kl_X7_264 ks_J13_compare_74951 (c_J13_compare_74951) (by decide) (by decide) rfl hl.1 rfl (Nat.le_of_ble_eq_true rfl) dX7_against_12 ⟨Nat.le_refl _, Nat.le_refl _⟩ (fun x1 V2 Hq lq hp3 w => ?_)
  obtain ⟨e9, e8⟩ := hp3
  rw [e9] at w; rw [e8]; clear e9 e8
  exact hv_iret C0 w hr hlk (⟨rfl, rfl⟩) dX7_against_15

theorem fx_fold_no {kd : Int32} {f : Nat → Int32} {j : Nat} {G : fx_F} (h : G.2.2 = 0) : fx_fold kd f j G = G := by
  unfold fx_fold fx_addOn fx_divBy fx_rest
  simp [h]
theorem fx_rk_no {kd : Int32} {f : Nat → Int32} {k : Nat} {G : fx_F} (h : G.2.2 = 0) : fx_rk kd f k G = G := by
  cases k with
  | zero => rfl
  | succ k => exact if_pos h
theorem fx_rk_s (kd : Int32) (f : Nat → Int32) (k : Nat) (G : fx_F) : fx_rk kd f (k + 1) G = fx_rk kd f k (fx_fold kd f k G) := by
  by_cases h : G.2.2 = 0
  · rw [fx_rk_no h, fx_fold_no h, fx_rk_no h]
  · exact if_neg h
theorem i64_1in : i64_in 1 := by decide
theorem i64_1ip : i64_ip 1 := by decide
theorem i64_of {x : Int32} (h : 0 ≤ x ∧ x ≤ 1000000000) : i64_ip x.toInt64 := by
  have h1 := Int32.le_iff_toInt_le.mp h.1
  have h2 := Int32.le_iff_toInt_le.mp h.2
  rw [show (0 : Int32).toInt = 0 from by decide] at h1
  rw [show (1000000000 : Int32).toInt = 1000000000 from by decide] at h2
  show 0 ≤ x.toInt64.toInt ∧ x.toInt64.toInt ≤ 1000000000
  rw [Int32.toInt_toInt64]
  exact ⟨h1, h2⟩
theorem i64_nI {n : Nat} (h : n ≤ 1000000000) : i64_ip (nI n).toInt64 := i64_of ⟨nI_pos' (by omega), nI_le (a := n) (b := 1000000000) h (by decide)⟩
theorem i64_n2 {n : Nat} (h : n ≤ 100) : i64_ip (nI n + 2).toInt64 := by rw [show nI n + 2 = nI (n + 2) from nI_add n 2]; exact i64_nI (by omega)
set_option maxHeartbeats 4000000 in
set_option maxRecDepth 100000 in
theorem c_X7_layWorth {l : Launch} {X : hv_X} {V : hv_V} {mo : Nat} {ab be : Int64} {tx se ev bk : Nat} {pl cl sg ik : Int32} (hO : V mo = some (mE mo ab be tx pl cl sg se ev bk ik)) {ki : Nat → Int32} {rf : Nat → Option Nat} {j n : Nat} {f : Nat → Int32} (r1 : V (mo + 1) = some (iE X 6 ki)) (r3 : V (mo + 3) = some (qE X 6 6 rf)) (rj : rf j = some (mo + 4 + j)) (hj : j < 6) (hN : V (mo + 4 + j) = some (nE X f)) (hn : n ≤ 16) (hf : ∀ i, 0 ≤ f i ∧ f i ≤ 1000000000) : hv_Mv l X 129 yX7_layWorth cX7_layWorth 5 V [.ref mo, .int (nI j), .int (nI n)] (fun V1 => ∃ ab1 be1 : Int64, V1 = hv_up V mo (mE mo ab1 be1 tx pl cl sg se ev bk ik) ∧ fm (fx_reckon (ki j) f n) ab1 be1) := by
  refine hv_enter (by decide) (Nat.le_of_ble_eq_true rfl) ?_
  intro p e s m below meth c ls C0 hr hlk hnm w hl
  have hl : lv_has ls 5 [(0, .ref mo), (1, .int (nI j)), (2, .int (nI n))] := hl
  have kj : (nI j).toNatClampNeg = j := nI_clamp (by omega)
  have loop : ∀ (k : Nat) (G : fx_F) (ab2 be2 : Int64) (Hq : Heap) (lq : List Loc) (ls : Array Slot), (k ≤ 16) → (fm G ab2 be2) → (fx_rk (ki j) f k G = fx_reckon (ki j) f n) → hv_w X s (hv_up V mo (mE mo ab2 be2 tx pl cl sg se ev bk ik)) Hq lq → lv_has ls 5 [(0, .ref mo), (1, .int (nI j)), (3, .int (nI k - 1))] → W p l e (hv_rm 129 0 0) s m ([.ref mo, .int (nI j), .int (nI n)] : List Value).toArray below meth c Hq lq 0 0 (MQ below (hv_Qv X (fun V1 => ∃ ab1 be1 : Int64, V1 = hv_up V mo (mE mo ab1 be1 tx pl cl sg se ev bk ik) ∧ fm (fx_reckon (ki j) f n) ab1 be1)) ([.ref mo, .int (nI j), .int (nI n)] : List Value).toArray s 0 0 X.2.2.1) (F0 m 10 ls []) := by
    intro k
    induction k with
    | zero =>
      intro G ab2 be2 Hq lq ls hi hG he w hl
      have he : G = fx_reckon (ki j) f n := he
      obtain ⟨V8, e8⟩ : ∃ W9, W9 = hv_up V mo (mE mo ab2 be2 tx pl cl sg se ev bk ik) := ⟨_, rfl⟩
      rw [← e8] at w
      have q0 : V8 mo = some (.inr (7, [.ref (mo + 1), .ref (mo + 2), .ref (mo + 3), .long ab2, .long be2, .ref (mo + 10), .int (nI tx), .int pl, .int cl, .ref (mo + 11), .ref (mo + 12), .ref (mo + 13), .int sg, .ref (mo + 14), .ref (mo + 15), .ref (mo + 16), .ref (mo + 17), .int (nI se), .ref (mo + 18), .ref (mo + 19), .int (nI ev), .ref (mo + 20), .ref (mo + 21), .ref (mo + 22), .int (nI bk), .int ik, .ref (mo + 23), .ref (mo + 24), .ref (mo + 25), .ref (mo + 26), .ref (mo + 33), .ref (mo + 41), .ref (mo + 42), .ref (mo + 43)])) := by rw [e8]; exact hv_us
      have q1 : V8 (mo + 1) = some (iE X 6 ki) := by rw [e8, hv_un (by omega)]; exact r1
      have q3 : V8 (mo + 3) = some (qE X 6 6 rf) := by rw [e8, hv_un (by omega)]; exact r3
      have q4 : V8 (mo + 4 + j) = some (nE X f) := by rw [e8, hv_un (by omega)]; exact hN
      refine lv_iload_n C0.1 C0.2.1 dX7_layWorth_10 rfl (lv_at hl 2 rfl) ?_
      refine lv_if_lt (tgt := 138) C0.1 C0.2.1 dX7_layWorth_11 (by decide) (fun c_11 => ?_) (fun c_11 => absurd (by decide) c_11)
      exact hv_vret C0 w hr hlk (⟨_, _, e8, he ▸ hG⟩) dX7_layWorth_138
    | succ k ih =>
      intro G ab2 be2 Hq lq ls hi hG he w hl
      obtain ⟨V8, e8⟩ : ∃ W9, W9 = hv_up V mo (mE mo ab2 be2 tx pl cl sg se ev bk ik) := ⟨_, rfl⟩
      rw [← e8] at w
      have q0 : V8 mo = some (.inr (7, [.ref (mo + 1), .ref (mo + 2), .ref (mo + 3), .long ab2, .long be2, .ref (mo + 10), .int (nI tx), .int pl, .int cl, .ref (mo + 11), .ref (mo + 12), .ref (mo + 13), .int sg, .ref (mo + 14), .ref (mo + 15), .ref (mo + 16), .ref (mo + 17), .int (nI se), .ref (mo + 18), .ref (mo + 19), .int (nI ev), .ref (mo + 20), .ref (mo + 21), .ref (mo + 22), .int (nI bk), .int ik, .ref (mo + 23), .ref (mo + 24), .ref (mo + 25), .ref (mo + 26), .ref (mo + 33), .ref (mo + 41), .ref (mo + 42), .ref (mo + 43)])) := by rw [e8]; exact hv_us
      have q1 : V8 (mo + 1) = some (iE X 6 ki) := by rw [e8, hv_un (by omega)]; exact r1
      have q3 : V8 (mo + 3) = some (qE X 6 6 rf) := by rw [e8, hv_un (by omega)]; exact r3
      have q4 : V8 (mo + 4 + j) = some (nE X f) := by rw [e8, hv_un (by omega)]; exact hN
      have hl : lv_has ls 5 [(0, .ref mo), (1, .int (nI j)), (3, .int (nI k))] := by rw [show ((nI k)) = ((nI (k + 1) - 1)) from (nI_pred k).symm]; exact hl
      refine lv_iload_n C0.1 C0.2.1 dX7_layWorth_10 rfl (lv_at hl 2 rfl) ?_
      refine lv_if_lt (tgt := 138) C0.1 C0.2.1 dX7_layWorth_11 (by decide) (fun c_11 => absurd c_11 (nI_pos (by omega))) (fun c_11 => ?_)
      refine lv_aload_n C0.1 C0.2.1 dX7_layWorth_14 rfl (lv_at hl 0 rfl) ?_
      refine gf_X7_20 C0 w q0 rfl dX7_layWorth_15 ?_
      refine lv_iload_n C0.1 C0.2.1 dX7_layWorth_18 rfl (lv_at hl 1 rfl) ?_
      refine hv_aalA 6 rfl C0 w rfl q3 (hn_in hj (by decide)) (by rw [kj]; exact rj) dX7_layWorth_19 ?_
      refine lv_iload_n C0.1 C0.2.1 dX7_layWorth_20 rfl (lv_at hl 2 rfl) ?_
      refine hv_iald C0 w q4 (hn_in (by omega) (by decide)) dX7_layWorth_21 ?_
      have hc1 : (nI k).toNatClampNeg = k := nI_clamp (by omega)
      rw [hc1]
      refine lv_istore (lv' := [(4, .int (f k)), (0, .ref mo), (1, .int (nI j)), (3, .int (nI k))]) C0.1 C0.2.1 dX7_layWorth_22 hl (by decide) rfl (fun ls hl => ?_)
      refine lv_aload_n C0.1 C0.2.1 dX7_layWorth_24 rfl (lv_at hl 1 rfl) ?_
      refine gf_X7_11 C0 w q0 rfl dX7_layWorth_25 ?_
      refine lv_iload_n C0.1 C0.2.1 dX7_layWorth_28 rfl (lv_at hl 2 rfl) ?_
      refine hv_iald C0 w q1 (hn_in hj (by decide)) dX7_layWorth_29 ?_
      have hc2 : (nI j).toNatClampNeg = j := nI_clamp (by omega)
      rw [hc2]
      by_cases c_30_0 : (ki j) = 0
      · refine lv_tableIn (off := 26) (tgt := 56) C0.1 C0.2.1 dX7_layWorth_30 (by rw [c_30_0]; decide) (by rw [c_30_0]; decide) (by rw [c_30_0]; rfl) (by decide) ?_
        refine lv_iload C0.1 C0.2.1 dX7_layWorth_56 (lv_at hl 0 rfl) ?_
        refine lv_if_ne (tgt := 66) C0.1 C0.2.1 dX7_layWorth_58 (by decide) (fun c_58 => ?_) (fun c_58 => ?_)
        · skip
          refine lv_aload_n C0.1 C0.2.1 dX7_layWorth_66 rfl (lv_at hl 1 rfl) ?_
          refine lv_lconst (v := 1) C0.1 C0.2.1 dX7_layWorth_67 (by decide) ?_
          refine lv_iload C0.1 C0.2.1 dX7_layWorth_68 (lv_at hl 0 rfl) ?_
          refine lv_i2l (v := (f k).toInt64) C0.1 C0.2.1 dX7_layWorth_70 rfl ?_
          refine hv_cVv C0 w kl_X7_120 kv_X7_plus rfl q0 (c_X7_plus q0 hG i64_1in (i64_of (hf k))) (by decide) (by decide) rfl hl.1 rfl (Nat.le_of_ble_eq_true rfl) dX7_layWorth_71 ⟨Nat.le_refl _, Nat.le_refl _⟩ (fun V4 Hq lq hp5 w => ?_)
          obtain ⟨ab6, be7, eV8, fm9⟩ := hp5
          have hV11 : V4 (mo + 1) = some (.inl (X.2.1 0, 6, .inl ki)) := by rw [eV8, hv_un (by omega)]; exact q1
          have hV12 : V4 (mo + 3) = some (.inl (X.2.1 6, 6, .inr (.inr (.inr (.inr rf))))) := by rw [eV8, hv_un (by omega)]; exact q3
          have hV13 : V4 (mo + 4 + j) = some (.inl (X.2.1 0, 16, .inl f)) := by rw [eV8, hv_un (by omega)]; exact q4
          have hV14 : V4 mo = some (.inr (7, [.ref (mo + 1), .ref (mo + 2), .ref (mo + 3), .long ab6, .long be7, .ref (mo + 10), .int (nI tx), .int pl, .int cl, .ref (mo + 11), .ref (mo + 12), .ref (mo + 13), .int sg, .ref (mo + 14), .ref (mo + 15), .ref (mo + 16), .ref (mo + 17), .int (nI se), .ref (mo + 18), .ref (mo + 19), .int (nI ev), .ref (mo + 20), .ref (mo + 21), .ref (mo + 22), .int (nI bk), .int ik, .ref (mo + 23), .ref (mo + 24), .ref (mo + 25), .ref (mo + 26), .ref (mo + 33), .ref (mo + 41), .ref (mo + 42), .ref (mo + 43)])) := by rw [eV8]; exact hv_us
          refine lv_goto (tgt := 132) C0.1 C0.2.1 dX7_layWorth_74 (by decide) ?_
          refine lv_iinc (v := (nI k) + (-1)) (lv' := [(3, .int ((nI k) + (-1))), (4, .int (f k)), (0, .ref mo), (1, .int (nI j))]) C0.1 C0.2.1 dX7_layWorth_132 hl (k := 3) rfl rfl (by decide) rfl (fun ls hl => ?_)
          refine lv_goto (tgt := 10) C0.1 C0.2.1 dX7_layWorth_135 (by decide) ?_
          exact ih (fx_fold (ki j) f k G) _ _ _ _ ls (by omega) (fm9.as (by rw [fx_fold, if_pos c_30_0])) (by rw [← fx_rk_s]; exact he) (by rw [eV8, e8, hv_uu] at w; exact w) (by have h9 := (lv_sub (l' := [(0, .ref mo), (1, .int (nI j)), (3, .int (nI k + (-1)))]) hl [2, 3, 0] rfl); rw [hn_dec] at h9; exact h9)
        · skip
          refine lv_aload_n C0.1 C0.2.1 dX7_layWorth_61 rfl (lv_at hl 1 rfl) ?_
          refine lv_lconst (v := 0) C0.1 C0.2.1 dX7_layWorth_62 (by decide) ?_
          refine pf_X7_107 C0 w q0 (by simp) dX7_layWorth_63 (fun Hq lq w => ?_)
          obtain ⟨V15, eV16⟩ : ∃ W9, W9 = hv_up V8 mo (.inr (7, [.ref (mo + 1), .ref (mo + 2), .ref (mo + 3), .long ab2, .long 0, .ref (mo + 10), .int (nI tx), .int pl, .int cl, .ref (mo + 11), .ref (mo + 12), .ref (mo + 13), .int sg, .ref (mo + 14), .ref (mo + 15), .ref (mo + 16), .ref (mo + 17), .int (nI se), .ref (mo + 18), .ref (mo + 19), .int (nI ev), .ref (mo + 20), .ref (mo + 21), .ref (mo + 22), .int (nI bk), .int ik, .ref (mo + 23), .ref (mo + 24), .ref (mo + 25), .ref (mo + 26), .ref (mo + 33), .ref (mo + 41), .ref (mo + 42), .ref (mo + 43)])) := ⟨_, rfl⟩
          have w : hv_w X s V15 Hq lq := by rw [eV16]; exact w
          have hV18 : V15 (mo + 1) = some (.inl (X.2.1 0, 6, .inl ki)) := by rw [eV16, hv_un (by omega)]; exact q1
          have hV19 : V15 (mo + 3) = some (.inl (X.2.1 6, 6, .inr (.inr (.inr (.inr rf))))) := by rw [eV16, hv_un (by omega)]; exact q3
          have hV20 : V15 (mo + 4 + j) = some (.inl (X.2.1 0, 16, .inl f)) := by rw [eV16, hv_un (by omega)]; exact q4
          have hV21 : V15 mo = some (.inr (7, [.ref (mo + 1), .ref (mo + 2), .ref (mo + 3), .long ab2, .long 0, .ref (mo + 10), .int (nI tx), .int pl, .int cl, .ref (mo + 11), .ref (mo + 12), .ref (mo + 13), .int sg, .ref (mo + 14), .ref (mo + 15), .ref (mo + 16), .ref (mo + 17), .int (nI se), .ref (mo + 18), .ref (mo + 19), .int (nI ev), .ref (mo + 20), .ref (mo + 21), .ref (mo + 22), .int (nI bk), .int ik, .ref (mo + 23), .ref (mo + 24), .ref (mo + 25), .ref (mo + 26), .ref (mo + 33), .ref (mo + 41), .ref (mo + 42), .ref (mo + 43)])) := by rw [eV16]; exact hv_us
          refine lv_aload_n C0.1 C0.2.1 dX7_layWorth_66 rfl (lv_at hl 1 rfl) ?_
          refine lv_lconst (v := 1) C0.1 C0.2.1 dX7_layWorth_67 (by decide) ?_
          refine lv_iload C0.1 C0.2.1 dX7_layWorth_68 (lv_at hl 0 rfl) ?_
          refine lv_i2l (v := (f k).toInt64) C0.1 C0.2.1 dX7_layWorth_70 rfl ?_
          refine hv_cVv C0 w kl_X7_120 kv_X7_plus rfl hV21 (c_X7_plus hV21 (fm_0 (F := fx_no) rfl) i64_1in (i64_of (hf k))) (by decide) (by decide) rfl hl.1 rfl (Nat.le_of_ble_eq_true rfl) dX7_layWorth_71 ⟨Nat.le_refl _, Nat.le_refl _⟩ (fun V23 Hq lq hp24 w => ?_)
          obtain ⟨ab25, be26, eV27, fm28⟩ := hp24
          have hV29 : V23 (mo + 1) = some (.inl (X.2.1 0, 6, .inl ki)) := by rw [eV27, hv_un (by omega)]; exact hV18
          have hV30 : V23 (mo + 3) = some (.inl (X.2.1 6, 6, .inr (.inr (.inr (.inr rf))))) := by rw [eV27, hv_un (by omega)]; exact hV19
          have hV31 : V23 (mo + 4 + j) = some (.inl (X.2.1 0, 16, .inl f)) := by rw [eV27, hv_un (by omega)]; exact hV20
          have hV33 : V23 mo = some (.inr (7, [.ref (mo + 1), .ref (mo + 2), .ref (mo + 3), .long ab25, .long be26, .ref (mo + 10), .int (nI tx), .int pl, .int cl, .ref (mo + 11), .ref (mo + 12), .ref (mo + 13), .int sg, .ref (mo + 14), .ref (mo + 15), .ref (mo + 16), .ref (mo + 17), .int (nI se), .ref (mo + 18), .ref (mo + 19), .int (nI ev), .ref (mo + 20), .ref (mo + 21), .ref (mo + 22), .int (nI bk), .int ik, .ref (mo + 23), .ref (mo + 24), .ref (mo + 25), .ref (mo + 26), .ref (mo + 33), .ref (mo + 41), .ref (mo + 42), .ref (mo + 43)])) := by rw [eV27]; exact hv_us
          refine lv_goto (tgt := 132) C0.1 C0.2.1 dX7_layWorth_74 (by decide) ?_
          refine lv_iinc (v := (nI k) + (-1)) (lv' := [(3, .int ((nI k) + (-1))), (4, .int (f k)), (0, .ref mo), (1, .int (nI j))]) C0.1 C0.2.1 dX7_layWorth_132 hl (k := 3) rfl rfl (by decide) rfl (fun ls hl => ?_)
          refine lv_goto (tgt := 10) C0.1 C0.2.1 dX7_layWorth_135 (by decide) ?_
          exact ih (fx_fold (ki j) f k G) _ _ _ _ ls (by omega) ((Or.inl ⟨by rw [fx_fold, if_pos c_30_0, c_58]; exact fx_add00 _ _, fm28.no.mpr (fx_no0 rfl)⟩ : fm _ _ _)) (by rw [← fx_rk_s]; exact he) (by rw [eV27, eV16, e8, hv_uu, hv_uu] at w; exact w) (by have h9 := (lv_sub (l' := [(0, .ref mo), (1, .int (nI j)), (3, .int (nI k + (-1)))]) hl [2, 3, 0] rfl); rw [hn_dec] at h9; exact h9)
      by_cases c_30_1 : (ki j) = 1
      · refine lv_tableIn (off := 47) (tgt := 77) C0.1 C0.2.1 dX7_layWorth_30 (by rw [c_30_1]; decide) (by rw [c_30_1]; decide) (by rw [c_30_1]; rfl) (by decide) ?_
        refine lv_aload_n C0.1 C0.2.1 dX7_layWorth_77 rfl (lv_at hl 1 rfl) ?_
        refine lv_lconst (v := 1) C0.1 C0.2.1 dX7_layWorth_78 (by decide) ?_
        refine lv_lconst (v := 1) C0.1 C0.2.1 dX7_layWorth_79 (by decide) ?_
        refine hv_cVv C0 w kl_X7_120 kv_X7_plus rfl q0 (c_X7_plus q0 hG i64_1in i64_1ip) (by decide) (by decide) rfl hl.1 rfl (Nat.le_of_ble_eq_true rfl) dX7_layWorth_80 ⟨Nat.le_refl _, Nat.le_refl _⟩ (fun V35 Hq lq hp36 w => ?_)
        obtain ⟨ab37, be38, eV39, fm40⟩ := hp36
        have hV42 : V35 (mo + 1) = some (.inl (X.2.1 0, 6, .inl ki)) := by rw [eV39, hv_un (by omega)]; exact q1
        have hV43 : V35 (mo + 3) = some (.inl (X.2.1 6, 6, .inr (.inr (.inr (.inr rf))))) := by rw [eV39, hv_un (by omega)]; exact q3
        have hV44 : V35 (mo + 4 + j) = some (.inl (X.2.1 0, 16, .inl f)) := by rw [eV39, hv_un (by omega)]; exact q4
        have hV45 : V35 mo = some (.inr (7, [.ref (mo + 1), .ref (mo + 2), .ref (mo + 3), .long ab37, .long be38, .ref (mo + 10), .int (nI tx), .int pl, .int cl, .ref (mo + 11), .ref (mo + 12), .ref (mo + 13), .int sg, .ref (mo + 14), .ref (mo + 15), .ref (mo + 16), .ref (mo + 17), .int (nI se), .ref (mo + 18), .ref (mo + 19), .int (nI ev), .ref (mo + 20), .ref (mo + 21), .ref (mo + 22), .int (nI bk), .int ik, .ref (mo + 23), .ref (mo + 24), .ref (mo + 25), .ref (mo + 26), .ref (mo + 33), .ref (mo + 41), .ref (mo + 42), .ref (mo + 43)])) := by rw [eV39]; exact hv_us
        refine lv_aload_n C0.1 C0.2.1 dX7_layWorth_83 rfl (lv_at hl 1 rfl) ?_
        refine lv_lconst (v := 1) C0.1 C0.2.1 dX7_layWorth_84 (by decide) ?_
        refine lv_iload C0.1 C0.2.1 dX7_layWorth_85 (lv_at hl 0 rfl) ?_
        refine lv_i2l (v := (f k).toInt64) C0.1 C0.2.1 dX7_layWorth_87 rfl ?_
        refine hv_cVv C0 w kl_X7_123 kv_X7_times rfl hV45 (c_X7_times hV45 fm40 i64_1in (i64_of (hf k))) (by decide) (by decide) rfl hl.1 rfl (Nat.le_of_ble_eq_true rfl) dX7_layWorth_88 ⟨Nat.le_refl _, Nat.le_refl _⟩ (fun V47 Hq lq hp48 w => ?_)
        obtain ⟨ab49, be50, eV51, fm52⟩ := hp48
        have hV53 : V47 (mo + 1) = some (.inl (X.2.1 0, 6, .inl ki)) := by rw [eV51, hv_un (by omega)]; exact hV42
        have hV54 : V47 (mo + 3) = some (.inl (X.2.1 6, 6, .inr (.inr (.inr (.inr rf))))) := by rw [eV51, hv_un (by omega)]; exact hV43
        have hV55 : V47 (mo + 4 + j) = some (.inl (X.2.1 0, 16, .inl f)) := by rw [eV51, hv_un (by omega)]; exact hV44
        have hV57 : V47 mo = some (.inr (7, [.ref (mo + 1), .ref (mo + 2), .ref (mo + 3), .long ab49, .long be50, .ref (mo + 10), .int (nI tx), .int pl, .int cl, .ref (mo + 11), .ref (mo + 12), .ref (mo + 13), .int sg, .ref (mo + 14), .ref (mo + 15), .ref (mo + 16), .ref (mo + 17), .int (nI se), .ref (mo + 18), .ref (mo + 19), .int (nI ev), .ref (mo + 20), .ref (mo + 21), .ref (mo + 22), .int (nI bk), .int ik, .ref (mo + 23), .ref (mo + 24), .ref (mo + 25), .ref (mo + 26), .ref (mo + 33), .ref (mo + 41), .ref (mo + 42), .ref (mo + 43)])) := by rw [eV51]; exact hv_us
        refine lv_goto (tgt := 132) C0.1 C0.2.1 dX7_layWorth_91 (by decide) ?_
        refine lv_iinc (v := (nI k) + (-1)) (lv' := [(3, .int ((nI k) + (-1))), (4, .int (f k)), (0, .ref mo), (1, .int (nI j))]) C0.1 C0.2.1 dX7_layWorth_132 hl (k := 3) rfl rfl (by decide) rfl (fun ls hl => ?_)
        refine lv_goto (tgt := 10) C0.1 C0.2.1 dX7_layWorth_135 (by decide) ?_
        exact ih (fx_fold (ki j) f k G) _ _ _ _ ls (by omega) (fm52.as (by rw [fx_tm1, fx_fold, if_neg (by rw [c_30_1]; decide), if_pos c_30_1])) (by rw [← fx_rk_s]; exact he) (by rw [eV51, eV39, e8, hv_uu, hv_uu] at w; exact w) (by have h9 := (lv_sub (l' := [(0, .ref mo), (1, .int (nI j)), (3, .int (nI k + (-1)))]) hl [2, 3, 0] rfl); rw [hn_dec] at h9; exact h9)
      by_cases c_30_2 : (ki j) = 2
      · refine lv_tableIn (off := 64) (tgt := 94) C0.1 C0.2.1 dX7_layWorth_30 (by rw [c_30_2]; decide) (by rw [c_30_2]; decide) (by rw [c_30_2]; rfl) (by decide) ?_
        refine lv_aload_n C0.1 C0.2.1 dX7_layWorth_94 rfl (lv_at hl 1 rfl) ?_
        refine hv_cVv C0 w kl_X7_126 kv_X7_turns rfl q0 (c_X7_turns q0) (by decide) (by decide) rfl hl.1 rfl (Nat.le_of_ble_eq_true rfl) dX7_layWorth_95 ⟨Nat.le_refl _, Nat.le_refl _⟩ (fun V59 Hq lq hp60 w => ?_)
        have hV62 : V59 (mo + 1) = some (.inl (X.2.1 0, 6, .inl ki)) := by rw [hp60, hv_un (by omega)]; exact q1
        have hV63 : V59 (mo + 3) = some (.inl (X.2.1 6, 6, .inr (.inr (.inr (.inr rf))))) := by rw [hp60, hv_un (by omega)]; exact q3
        have hV64 : V59 (mo + 4 + j) = some (.inl (X.2.1 0, 16, .inl f)) := by rw [hp60, hv_un (by omega)]; exact q4
        have hV65 : V59 mo = some (.inr (7, [.ref (mo + 1), .ref (mo + 2), .ref (mo + 3), .long (-ab2), .long be2, .ref (mo + 10), .int (nI tx), .int pl, .int cl, .ref (mo + 11), .ref (mo + 12), .ref (mo + 13), .int sg, .ref (mo + 14), .ref (mo + 15), .ref (mo + 16), .ref (mo + 17), .int (nI se), .ref (mo + 18), .ref (mo + 19), .int (nI ev), .ref (mo + 20), .ref (mo + 21), .ref (mo + 22), .int (nI bk), .int ik, .ref (mo + 23), .ref (mo + 24), .ref (mo + 25), .ref (mo + 26), .ref (mo + 33), .ref (mo + 41), .ref (mo + 42), .ref (mo + 43)])) := by rw [hp60]; exact hv_us
        have fm66 := (hG).turns
        refine lv_aload_n C0.1 C0.2.1 dX7_layWorth_98 rfl (lv_at hl 1 rfl) ?_
        refine lv_lconst (v := 1) C0.1 C0.2.1 dX7_layWorth_99 (by decide) ?_
        refine lv_lconst (v := 1) C0.1 C0.2.1 dX7_layWorth_100 (by decide) ?_
        refine hv_cVv C0 w kl_X7_120 kv_X7_plus rfl hV65 (c_X7_plus hV65 fm66 i64_1in i64_1ip) (by decide) (by decide) rfl hl.1 rfl (Nat.le_of_ble_eq_true rfl) dX7_layWorth_101 ⟨Nat.le_refl _, Nat.le_refl _⟩ (fun V68 Hq lq hp69 w => ?_)
        obtain ⟨ab70, be71, eV72, fm73⟩ := hp69
        have hV74 : V68 (mo + 1) = some (.inl (X.2.1 0, 6, .inl ki)) := by rw [eV72, hv_un (by omega)]; exact hV62
        have hV75 : V68 (mo + 3) = some (.inl (X.2.1 6, 6, .inr (.inr (.inr (.inr rf))))) := by rw [eV72, hv_un (by omega)]; exact hV63
        have hV76 : V68 (mo + 4 + j) = some (.inl (X.2.1 0, 16, .inl f)) := by rw [eV72, hv_un (by omega)]; exact hV64
        have hV78 : V68 mo = some (.inr (7, [.ref (mo + 1), .ref (mo + 2), .ref (mo + 3), .long ab70, .long be71, .ref (mo + 10), .int (nI tx), .int pl, .int cl, .ref (mo + 11), .ref (mo + 12), .ref (mo + 13), .int sg, .ref (mo + 14), .ref (mo + 15), .ref (mo + 16), .ref (mo + 17), .int (nI se), .ref (mo + 18), .ref (mo + 19), .int (nI ev), .ref (mo + 20), .ref (mo + 21), .ref (mo + 22), .int (nI bk), .int ik, .ref (mo + 23), .ref (mo + 24), .ref (mo + 25), .ref (mo + 26), .ref (mo + 33), .ref (mo + 41), .ref (mo + 42), .ref (mo + 43)])) := by rw [eV72]; exact hv_us
        have fm79 := (fm73).rest
        refine lv_aload_n C0.1 C0.2.1 dX7_layWorth_104 rfl (lv_at hl 1 rfl) ?_
        refine lv_lconst (v := 1) C0.1 C0.2.1 dX7_layWorth_105 (by decide) ?_
        refine lv_iload C0.1 C0.2.1 dX7_layWorth_106 (lv_at hl 0 rfl) ?_
        refine lv_i2l (v := (f k).toInt64) C0.1 C0.2.1 dX7_layWorth_108 rfl ?_
        refine hv_cVv C0 w kl_X7_123 kv_X7_times rfl hV78 (c_X7_times hV78 fm79 i64_1in (i64_of (hf k))) (by decide) (by decide) rfl hl.1 rfl (Nat.le_of_ble_eq_true rfl) dX7_layWorth_109 ⟨Nat.le_refl _, Nat.le_refl _⟩ (fun V81 Hq lq hp82 w => ?_)
        obtain ⟨ab83, be84, eV85, fm86⟩ := hp82
        have hV87 : V81 (mo + 1) = some (.inl (X.2.1 0, 6, .inl ki)) := by rw [eV85, hv_un (by omega)]; exact hV74
        have hV88 : V81 (mo + 3) = some (.inl (X.2.1 6, 6, .inr (.inr (.inr (.inr rf))))) := by rw [eV85, hv_un (by omega)]; exact hV75
        have hV89 : V81 (mo + 4 + j) = some (.inl (X.2.1 0, 16, .inl f)) := by rw [eV85, hv_un (by omega)]; exact hV76
        have hV91 : V81 mo = some (.inr (7, [.ref (mo + 1), .ref (mo + 2), .ref (mo + 3), .long ab83, .long be84, .ref (mo + 10), .int (nI tx), .int pl, .int cl, .ref (mo + 11), .ref (mo + 12), .ref (mo + 13), .int sg, .ref (mo + 14), .ref (mo + 15), .ref (mo + 16), .ref (mo + 17), .int (nI se), .ref (mo + 18), .ref (mo + 19), .int (nI ev), .ref (mo + 20), .ref (mo + 21), .ref (mo + 22), .int (nI bk), .int ik, .ref (mo + 23), .ref (mo + 24), .ref (mo + 25), .ref (mo + 26), .ref (mo + 33), .ref (mo + 41), .ref (mo + 42), .ref (mo + 43)])) := by rw [eV85]; exact hv_us
        refine lv_goto (tgt := 132) C0.1 C0.2.1 dX7_layWorth_112 (by decide) ?_
        refine lv_iinc (v := (nI k) + (-1)) (lv' := [(3, .int ((nI k) + (-1))), (4, .int (f k)), (0, .ref mo), (1, .int (nI j))]) C0.1 C0.2.1 dX7_layWorth_132 hl (k := 3) rfl rfl (by decide) rfl (fun ls hl => ?_)
        refine lv_goto (tgt := 10) C0.1 C0.2.1 dX7_layWorth_135 (by decide) ?_
        exact ih (fx_fold (ki j) f k G) _ _ _ _ ls (by omega) (fm86.as (by rw [fx_tm1, fx_fold, if_neg (by rw [c_30_2]; decide), if_neg (by rw [c_30_2]; decide), if_pos c_30_2])) (by rw [← fx_rk_s]; exact he) (by rw [eV85, eV72, hp60, e8, hv_uu, hv_uu, hv_uu] at w; exact w) (by have h9 := (lv_sub (l' := [(0, .ref mo), (1, .int (nI j)), (3, .int (nI k + (-1)))]) hl [2, 3, 0] rfl); rw [hn_dec] at h9; exact h9)
      have tc_30_0 : (ki j).toInt ≠ 0 := fun h9 => c_30_0 (Int32.toInt_inj.mp (h9.trans (by decide)))
      have tc_30_1 : (ki j).toInt ≠ 1 := fun h9 => c_30_1 (Int32.toInt_inj.mp (h9.trans (by decide)))
      have tc_30_2 : (ki j).toInt ≠ 2 := fun h9 => c_30_2 (Int32.toInt_inj.mp (h9.trans (by decide)))
      refine lv_tableOut (tgt := 115) C0.1 C0.2.1 dX7_layWorth_30 (by omega) (by decide) ?_
      refine lv_aload_n C0.1 C0.2.1 dX7_layWorth_115 rfl (lv_at hl 1 rfl) ?_
      refine lv_iload C0.1 C0.2.1 dX7_layWorth_116 (lv_at hl 0 rfl) ?_
      refine lv_i2l (v := (f k).toInt64) C0.1 C0.2.1 dX7_layWorth_118 rfl ?_
      refine lv_lconst (v := 1) C0.1 C0.2.1 dX7_layWorth_119 (by decide) ?_
      refine hv_cVv C0 w kl_X7_120 kv_X7_plus rfl q0 (c_X7_plus q0 hG (i64_of (hf k)).in i64_1ip) (by decide) (by decide) rfl hl.1 rfl (Nat.le_of_ble_eq_true rfl) dX7_layWorth_120 ⟨Nat.le_refl _, Nat.le_refl _⟩ (fun V93 Hq lq hp94 w => ?_)
      obtain ⟨ab95, be96, eV97, fm98⟩ := hp94
      have hV100 : V93 (mo + 1) = some (.inl (X.2.1 0, 6, .inl ki)) := by rw [eV97, hv_un (by omega)]; exact q1
      have hV101 : V93 (mo + 3) = some (.inl (X.2.1 6, 6, .inr (.inr (.inr (.inr rf))))) := by rw [eV97, hv_un (by omega)]; exact q3
      have hV102 : V93 (mo + 4 + j) = some (.inl (X.2.1 0, 16, .inl f)) := by rw [eV97, hv_un (by omega)]; exact q4
      have hV103 : V93 mo = some (.inr (7, [.ref (mo + 1), .ref (mo + 2), .ref (mo + 3), .long ab95, .long be96, .ref (mo + 10), .int (nI tx), .int pl, .int cl, .ref (mo + 11), .ref (mo + 12), .ref (mo + 13), .int sg, .ref (mo + 14), .ref (mo + 15), .ref (mo + 16), .ref (mo + 17), .int (nI se), .ref (mo + 18), .ref (mo + 19), .int (nI ev), .ref (mo + 20), .ref (mo + 21), .ref (mo + 22), .int (nI bk), .int ik, .ref (mo + 23), .ref (mo + 24), .ref (mo + 25), .ref (mo + 26), .ref (mo + 33), .ref (mo + 41), .ref (mo + 42), .ref (mo + 43)])) := by rw [eV97]; exact hv_us
      refine lv_aload_n C0.1 C0.2.1 dX7_layWorth_123 rfl (lv_at hl 1 rfl) ?_
      refine lv_lconst (v := 1) C0.1 C0.2.1 dX7_layWorth_124 (by decide) ?_
      refine lv_iload_n C0.1 C0.2.1 dX7_layWorth_125 rfl (lv_at hl 3 rfl) ?_
      refine lv_iconst (v := 2) C0.1 C0.2.1 dX7_layWorth_126 (by decide) ?_
      refine lv_iadd C0.1 C0.2.1 dX7_layWorth_127 ?_
      refine lv_i2l (v := ((nI k) + 2).toInt64) C0.1 C0.2.1 dX7_layWorth_128 rfl ?_
      refine hv_cVv C0 w kl_X7_123 kv_X7_times rfl hV103 (c_X7_times hV103 fm98 i64_1in (i64_n2 (by omega))) (by decide) (by decide) rfl hl.1 rfl (Nat.le_of_ble_eq_true rfl) dX7_layWorth_129 ⟨Nat.le_refl _, Nat.le_refl _⟩ (fun V105 Hq lq hp106 w => ?_)
      obtain ⟨ab107, be108, eV109, fm110⟩ := hp106
      have hV111 : V105 (mo + 1) = some (.inl (X.2.1 0, 6, .inl ki)) := by rw [eV109, hv_un (by omega)]; exact hV100
      have hV112 : V105 (mo + 3) = some (.inl (X.2.1 6, 6, .inr (.inr (.inr (.inr rf))))) := by rw [eV109, hv_un (by omega)]; exact hV101
      have hV113 : V105 (mo + 4 + j) = some (.inl (X.2.1 0, 16, .inl f)) := by rw [eV109, hv_un (by omega)]; exact hV102
      have hV115 : V105 mo = some (.inr (7, [.ref (mo + 1), .ref (mo + 2), .ref (mo + 3), .long ab107, .long be108, .ref (mo + 10), .int (nI tx), .int pl, .int cl, .ref (mo + 11), .ref (mo + 12), .ref (mo + 13), .int sg, .ref (mo + 14), .ref (mo + 15), .ref (mo + 16), .ref (mo + 17), .int (nI se), .ref (mo + 18), .ref (mo + 19), .int (nI ev), .ref (mo + 20), .ref (mo + 21), .ref (mo + 22), .int (nI bk), .int ik, .ref (mo + 23), .ref (mo + 24), .ref (mo + 25), .ref (mo + 26), .ref (mo + 33), .ref (mo + 41), .ref (mo + 42), .ref (mo + 43)])) := by rw [eV109]; exact hv_us
      refine lv_iinc (v := (nI k) + (-1)) (lv' := [(3, .int ((nI k) + (-1))), (4, .int (f k)), (0, .ref mo), (1, .int (nI j))]) C0.1 C0.2.1 dX7_layWorth_132 hl (k := 3) rfl rfl (by decide) rfl (fun ls hl => ?_)
      refine lv_goto (tgt := 10) C0.1 C0.2.1 dX7_layWorth_135 (by decide) ?_
      exact ih (fx_fold (ki j) f k G) _ _ _ _ ls (by omega) (fm110.as (by rw [fx_tm1, fx_fold, if_neg c_30_0, if_neg c_30_1, if_neg c_30_2])) (by rw [← fx_rk_s]; exact he) (by rw [eV109, eV97, e8, hv_uu, hv_uu] at w; exact w) (by have h9 := (lv_sub (l' := [(0, .ref mo), (1, .int (nI j)), (3, .int (nI k + (-1)))]) hl [2, 3, 0] rfl); rw [hn_dec] at h9; exact h9)
  refine lv_aload_n C0.1 C0.2.1 dX7_layWorth_0 rfl (lv_at hl 0 rfl) ?_
  refine lv_lconst (v := 0) C0.1 C0.2.1 dX7_layWorth_1 (by decide) ?_
  refine lv_lconst (v := 1) C0.1 C0.2.1 dX7_layWorth_2 (by decide) ?_
  refine hv_cVv C0 w kl_X7_116 kv_X7_lay rfl hO (c_X7_lay hO (a := 0) (b := 1) (by decide) (by decide)) (by decide) (by decide) rfl hl.1 rfl (Nat.le_of_ble_eq_true rfl) dX7_layWorth_3 ⟨Nat.le_refl _, Nat.le_refl _⟩ (fun V2 Hq lq hp3 w => ?_)
  refine lv_iload_n C0.1 C0.2.1 dX7_layWorth_6 rfl (lv_at hl 2 rfl) ?_
  refine lv_iconst (v := 1) C0.1 C0.2.1 dX7_layWorth_7 (by decide) ?_
  refine lv_isub C0.1 C0.2.1 dX7_layWorth_8 ?_
  refine lv_istore_n (lv' := [(3, .int ((nI n) - 1)), (0, .ref mo), (1, .int (nI j)), (2, .int (nI n))]) C0.1 C0.2.1 dX7_layWorth_9 rfl hl (by decide) rfl (fun ls hl => ?_)
  exact loop n (fx_become 0 1) _ _ _ _ ls hn (fx_become_ok (by decide) (by decide)) rfl (by rw [hp3] at w; exact w) (lv_sub hl [1, 2, 0] rfl)

