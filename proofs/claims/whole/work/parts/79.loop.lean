/-! THE LAW'S LOOP, and the whole of it -/
theorem law_cmp {L i : Nat} (hL : L ≤ 3072) (hi : i ≤ 4000) (h : ¬ Int32.ofNat L - 6 < nI i) : i + 6 ≤ L := by
  have e6 : (6 : Int32).toInt = 6 := by decide
  have e : (nI L - 6).toInt = (L : Int) - 6 := by
    rw [Int32.toInt_sub, nI_toInt (by omega), e6]
    apply Int.bmod_eq_of_le <;> omega
  have h2 := Int32.le_iff_toInt_le.mp (Int32.not_lt.mp h)
  have h3 : (nI i).toInt ≤ (nI L - 6).toInt := h2
  rw [e, nI_toInt (by omega)] at h3
  omega
set_option maxHeartbeats 8000000 in
set_option maxRecDepth 100000 in
theorem law_loop {p : Program} {l : Launch} {e : Env} {s : State} {m : MethodId} {below : List Frame} {meth : Method} {c : Code} {X : hv_X} {x b L : Nat} {xs : Nat → Int32} (C0 : hv_C X p s m #[Value.ref b] c cL_law 4 RL) (hr : meth.sig.returnType = ret) (hlk : meth.locks = false) (hXs : va_X b L xs s s.heap) (hbl : b < s.heap.size) (hXA : X.2.2.1 = fun q => s.heap.size ≤ q) (hL : L ≤ 3072) :
    ∀ (n i : Nat) (σ : hs_S) (V : hv_V) (Hq : Heap) (lq : List Loc) (ls : Array Slot), i ≤ L + 6 → L + 1 ≤ i + n → okX X V x σ → okM X V (x + 92) σ → hs_b σ → hv_w X s V Hq lq → lv_has ls 4 [(0, .ref b), (1, .ref x), (2, .ref (x + 92)), (3, .int (nI i))] → W p l e (hv_rm 2048 600000 7302250) s m #[Value.ref b] below meth c Hq lq 142 2151 (lw_Z below #[Value.ref b] s) (F0 m 18 ls []) := by
  have hbA : ¬ X.2.2.1 b := by rw [hXA]; exact Nat.not_le.mpr hbl
  intro n
  induction n with
  | zero =>
    intro i σ V Hq lq ls hi hn hx hm hB w hl
    refine lv_iload_n C0.1 C0.2.1 dL_law_18 rfl (lv_at hl 3 rfl) ?_
    refine lv_aload_n C0.1 C0.2.1 dL_law_19 rfl (lv_at hl 0 rfl) ?_
    refine va_slen C0.1 C0.2.1 hXs hbl hbA w.2 dL_law_20 ?_
    refine lv_bipush (v := 6) C0.1 C0.2.1 dL_law_21 (by decide) ?_
    refine lv_isub C0.1 C0.2.1 dL_law_23 ?_
    refine lv_icmp_gt (tgt := 1323) C0.1 C0.2.1 dL_law_24 (by decide) (fun c_24 => ?_) (fun c_24 => ?_)
    · skip
      refine lv_iconst (v := 1) C0.1 C0.2.1 dL_law_1323 (by decide) ?_
      refine va_forget (fun q hq => by have h9 := w.2.2.2 q hq; rw [hXA] at h9; exact h9) ?_
      refine W.widen (k := 600000) (n := 7302250) (Nat.le_of_ble_eq_true rfl) (Nat.le_of_ble_eq_true rfl) ?_
      exact hw_retR C0.1 C0.2.1 hr hlk dL_law_1324
    · skip
      exact absurd (law_cmp hL (by omega) c_24) (by omega)
  | succ n ih =>
    intro i σ V Hq lq ls hi hn hx hm hB w hl
    refine lv_iload_n C0.1 C0.2.1 dL_law_18 rfl (lv_at hl 3 rfl) ?_
    refine lv_aload_n C0.1 C0.2.1 dL_law_19 rfl (lv_at hl 0 rfl) ?_
    refine va_slen C0.1 C0.2.1 hXs hbl hbA w.2 dL_law_20 ?_
    refine lv_bipush (v := 6) C0.1 C0.2.1 dL_law_21 (by decide) ?_
    refine lv_isub C0.1 C0.2.1 dL_law_23 ?_
    refine lv_icmp_gt (tgt := 1323) C0.1 C0.2.1 dL_law_24 (by decide) (fun c_24 => ?_) (fun c_24 => ?_)
    · skip
      refine lv_iconst (v := 1) C0.1 C0.2.1 dL_law_1323 (by decide) ?_
      refine va_forget (fun q hq => by have h9 := w.2.2.2 q hq; rw [hXA] at h9; exact h9) ?_
      refine W.widen (k := 600000) (n := 7302250) (Nat.le_of_ble_eq_true rfl) (Nat.le_of_ble_eq_true rfl) ?_
      exact hw_retR C0.1 C0.2.1 hr hlk dL_law_1324
    · skip
      have hi6 := law_cmp hL (by omega) c_24
      have nx : ∀ (σ1 : hs_S) (V1 : hv_V) (Hq : Heap) (lq : List Loc), okX X V1 x σ1 → okM X V1 (x + 92) σ1 → hs_b σ1 → hv_w X s V1 Hq lq → W p l e (hv_rm 2048 600000 7302250) s m #[Value.ref b] below meth c Hq lq 142 2151 (lw_Z below #[Value.ref b] s) (F0 m 1317 ls []) := by
        intro σ1 V1 Hq lq hx1 hm1 hB1 w1
        refine lv_iinc (v := nI i + 6) (lv' := [(3, .int (nI i + 6)), (0, .ref b), (1, .ref x), (2, .ref (x + 92))]) C0.1 C0.2.1 dL_law_1317 hl (k := 3) rfl rfl (by decide) rfl (fun ls hl => ?_)
        refine lv_goto (tgt := 18) C0.1 C0.2.1 dL_law_1320 (by decide) ?_
        exact ih (i + 6) σ1 V1 Hq lq ls (by omega) (by omega) hx1 hm1 hB1 w1 (by have h9 := lv_sub (l' := [(0, .ref b), (1, .ref x), (2, .ref (x + 92)), (3, .int (nI i + 6))]) hl [1, 2, 3, 0] rfl; rw [show nI i + 6 = nI (i + 6) from nI_add i 6] at h9; exact h9)
      refine lv_aload_n C0.1 C0.2.1 dL_law_27 rfl (lv_at hl 0 rfl) ?_
      refine lv_iload_n C0.1 C0.2.1 dL_law_28 rfl (lv_at hl 3 rfl) ?_
      refine va_sld C0.1 C0.2.1 hXs hbl hbA w.2 (hn_in (by omega) (by omega)) dL_law_29 ?_
      refine lv_bipush (v := 31) C0.1 C0.2.1 dL_law_30 (by decide) ?_
      refine lv_iand C0.1 C0.2.1 dL_law_32 ?_
      by_cases c_33_0 : ((xs (nI i).toNatClampNeg) &&& 31) = 0
      · refine lv_tableIn (off := 143) (tgt := 176) C0.1 C0.2.1 dL_law_33 (by rw [c_33_0]; decide) (by rw [c_33_0]; decide) (by rw [c_33_0]; rfl) (by decide) ?_
        exact law_spread C0 hXs hbl hbA hx hm hB w hl hi6 hL nx
      by_cases c_33_1 : ((xs (nI i).toNatClampNeg) &&& 31) = 1
      · refine lv_tableIn (off := 196) (tgt := 229) C0.1 C0.2.1 dL_law_33 (by rw [c_33_1]; decide) (by rw [c_33_1]; decide) (by rw [c_33_1]; rfl) (by decide) ?_
        exact law_begin C0 hXs hbl hbA hx hm hB w hl hi6 hL nx
      by_cases c_33_2 : ((xs (nI i).toNatClampNeg) &&& 31) = 2
      · refine lv_tableIn (off := 229) (tgt := 262) C0.1 C0.2.1 dL_law_33 (by rw [c_33_2]; decide) (by rw [c_33_2]; decide) (by rw [c_33_2]; rfl) (by decide) ?_
        exact law_add C0 hXs hbl hbA hx hm hB w hl hi6 hL nx
      by_cases c_33_3 : ((xs (nI i).toNatClampNeg) &&& 31) = 3
      · refine lv_tableIn (off := 262) (tgt := 295) C0.1 C0.2.1 dL_law_33 (by rw [c_33_3]; decide) (by rw [c_33_3]; decide) (by rw [c_33_3]; rfl) (by decide) ?_
        exact law_cut C0 hXs hbl hbA hx hm hB w hl hi6 hL nx
      by_cases c_33_4 : ((xs (nI i).toNatClampNeg) &&& 31) = 4
      · refine lv_tableIn (off := 295) (tgt := 328) C0.1 C0.2.1 dL_law_33 (by rw [c_33_4]; decide) (by rw [c_33_4]; decide) (by rw [c_33_4]; rfl) (by decide) ?_
        exact law_copies C0 hXs hbl hbA hx hm hB w hl hi6 hL nx
      by_cases c_33_5 : ((xs (nI i).toNatClampNeg) &&& 31) = 5
      · refine lv_tableIn (off := 328) (tgt := 361) C0.1 C0.2.1 dL_law_33 (by rw [c_33_5]; decide) (by rw [c_33_5]; decide) (by rw [c_33_5]; rfl) (by decide) ?_
        exact law_works C0 hXs hbl hbA hx hm hB w hl hi6 hL nx
      by_cases c_33_6 : ((xs (nI i).toNatClampNeg) &&& 31) = 6
      · refine lv_tableIn (off := 381) (tgt := 414) C0.1 C0.2.1 dL_law_33 (by rw [c_33_6]; decide) (by rw [c_33_6]; decide) (by rw [c_33_6]; rfl) (by decide) ?_
        exact law_feed C0 hXs hbl hbA hx hm hB w hl hi6 hL nx
      by_cases c_33_7 : ((xs (nI i).toNatClampNeg) &&& 31) = 7
      · refine lv_tableIn (off := 404) (tgt := 437) C0.1 C0.2.1 dL_law_33 (by rw [c_33_7]; decide) (by rw [c_33_7]; decide) (by rw [c_33_7]; rfl) (by decide) ?_
        exact law_read C0 hXs hbl hbA hx hm hB w hl hi6 hL nx
      by_cases c_33_8 : ((xs (nI i).toNatClampNeg) &&& 31) = 8
      · refine lv_tableIn (off := 417) (tgt := 450) C0.1 C0.2.1 dL_law_33 (by rw [c_33_8]; decide) (by rw [c_33_8]; decide) (by rw [c_33_8]; rfl) (by decide) ?_
        exact law_of C0 hXs hbl hbA hx hm hB w hl hi6 hL nx
      by_cases c_33_9 : ((xs (nI i).toNatClampNeg) &&& 31) = 9
      · refine lv_tableIn (off := 450) (tgt := 483) C0.1 C0.2.1 dL_law_33 (by rw [c_33_9]; decide) (by rw [c_33_9]; decide) (by rw [c_33_9]; rfl) (by decide) ?_
        exact law_told C0 hXs hbl hbA hx hm hB w hl hi6 hL nx
      by_cases c_33_10 : ((xs (nI i).toNatClampNeg) &&& 31) = 10
      · refine lv_tableIn (off := 483) (tgt := 516) C0.1 C0.2.1 dL_law_33 (by rw [c_33_10]; decide) (by rw [c_33_10]; decide) (by rw [c_33_10]; rfl) (by decide) ?_
        exact law_worth C0 hXs hbl hbA hx hm hB w hl hi6 hL nx
      by_cases c_33_11 : ((xs (nI i).toNatClampNeg) &&& 31) = 11
      · refine lv_tableIn (off := 517) (tgt := 550) C0.1 C0.2.1 dL_law_33 (by rw [c_33_11]; decide) (by rw [c_33_11]; decide) (by rw [c_33_11]; rfl) (by decide) ?_
        exact law_written C0 hXs hbl hbA hx hm hB w hl hi6 hL nx
      by_cases c_33_12 : ((xs (nI i).toNatClampNeg) &&& 31) = 12
      · refine lv_tableIn (off := 550) (tgt := 583) C0.1 C0.2.1 dL_law_33 (by rw [c_33_12]; decide) (by rw [c_33_12]; decide) (by rw [c_33_12]; rfl) (by decide) ?_
        exact law_greater C0 hXs hbl hbA hx hm hB w hl hi6 hL nx
      by_cases c_33_13 : ((xs (nI i).toNatClampNeg) &&& 31) = 13
      · refine lv_tableIn (off := 583) (tgt := 616) C0.1 C0.2.1 dL_law_33 (by rw [c_33_13]; decide) (by rw [c_33_13]; decide) (by rw [c_33_13]; rfl) (by decide) ?_
        exact law_worthier C0 hXs hbl hbA hx hm hB w hl hi6 hL nx
      by_cases c_33_14 : ((xs (nI i).toNatClampNeg) &&& 31) = 14
      · refine lv_tableIn (off := 616) (tgt := 649) C0.1 C0.2.1 dL_law_33 (by rw [c_33_14]; decide) (by rw [c_33_14]; decide) (by rw [c_33_14]; rfl) (by decide) ?_
        exact law_beginning C0 hXs hbl hbA hx hm hB w hl hi6 hL nx
      by_cases c_33_15 : ((xs (nI i).toNatClampNeg) &&& 31) = 15
      · refine lv_tableIn (off := 670) (tgt := 703) C0.1 C0.2.1 dL_law_33 (by rw [c_33_15]; decide) (by rw [c_33_15]; decide) (by rw [c_33_15]; rfl) (by decide) ?_
        exact law_units C0 hXs hbl hbA hx hm hB w hl hi6 hL nx
      by_cases c_33_16 : ((xs (nI i).toNatClampNeg) &&& 31) = 16
      · refine lv_tableIn (off := 713) (tgt := 746) C0.1 C0.2.1 dL_law_33 (by rw [c_33_16]; decide) (by rw [c_33_16]; decide) (by rw [c_33_16]; rfl) (by decide) ?_
        exact law_see C0 hXs hbl hbA hx hm hB w hl hi6 hL nx
      by_cases c_33_17 : ((xs (nI i).toNatClampNeg) &&& 31) = 17
      · refine lv_tableIn (off := 756) (tgt := 789) C0.1 C0.2.1 dL_law_33 (by rw [c_33_17]; decide) (by rw [c_33_17]; decide) (by rw [c_33_17]; rfl) (by decide) ?_
        exact law_fits C0 hXs hbl hbA hx hm hB w hl hi6 hL nx
      by_cases c_33_18 : ((xs (nI i).toNatClampNeg) &&& 31) = 18
      · refine lv_tableIn (off := 799) (tgt := 832) C0.1 C0.2.1 dL_law_33 (by rw [c_33_18]; decide) (by rw [c_33_18]; decide) (by rw [c_33_18]; rfl) (by decide) ?_
        exact law_odds C0 hXs hbl hbA hx hm hB w hl hi6 hL nx
      by_cases c_33_19 : ((xs (nI i).toNatClampNeg) &&& 31) = 19
      · refine lv_tableIn (off := 843) (tgt := 876) C0.1 C0.2.1 dL_law_33 (by rw [c_33_19]; decide) (by rw [c_33_19]; decide) (by rw [c_33_19]; rfl) (by decide) ?_
        exact law_mean C0 hXs hbl hbA hx hm hB w hl hi6 hL nx
      by_cases c_33_20 : ((xs (nI i).toNatClampNeg) &&& 31) = 20
      · refine lv_tableIn (off := 867) (tgt := 900) C0.1 C0.2.1 dL_law_33 (by rw [c_33_20]; decide) (by rw [c_33_20]; decide) (by rw [c_33_20]; rfl) (by decide) ?_
        exact law_event C0 hXs hbl hbA hx hm hB w hl hi6 hL nx
      by_cases c_33_21 : ((xs (nI i).toNatClampNeg) &&& 31) = 21
      · refine lv_tableIn (off := 900) (tgt := 933) C0.1 C0.2.1 dL_law_33 (by rw [c_33_21]; decide) (by rw [c_33_21]; decide) (by rw [c_33_21]; rfl) (by decide) ?_
        exact law_after C0 hXs hbl hbA hx hm hB w hl hi6 hL nx
      by_cases c_33_22 : ((xs (nI i).toNatClampNeg) &&& 31) = 22
      · refine lv_tableIn (off := 933) (tgt := 966) C0.1 C0.2.1 dL_law_33 (by rw [c_33_22]; decide) (by rw [c_33_22]; decide) (by rw [c_33_22]; rfl) (by decide) ?_
        exact law_book C0 hXs hbl hbA hx hm hB w hl hi6 hL nx
      by_cases c_33_23 : ((xs (nI i).toNatClampNeg) &&& 31) = 23
      · refine lv_tableIn (off := 966) (tgt := 999) C0.1 C0.2.1 dL_law_33 (by rw [c_33_23]; decide) (by rw [c_33_23]; decide) (by rw [c_33_23]; rfl) (by decide) ?_
        exact law_looked C0 hXs hbl hbA hx hm hB w hl hi6 hL nx
      by_cases c_33_24 : ((xs (nI i).toNatClampNeg) &&& 31) = 24
      · refine lv_tableIn (off := 979) (tgt := 1012) C0.1 C0.2.1 dL_law_33 (by rw [c_33_24]; decide) (by rw [c_33_24]; decide) (by rw [c_33_24]; rfl) (by decide) ?_
        exact law_judge C0 hXs hbl hbA hx hm hB w hl hi6 hL nx
      by_cases c_33_25 : ((xs (nI i).toNatClampNeg) &&& 31) = 25
      · refine lv_tableIn (off := 1022) (tgt := 1055) C0.1 C0.2.1 dL_law_33 (by rw [c_33_25]; decide) (by rw [c_33_25]; decide) (by rw [c_33_25]; rfl) (by decide) ?_
        exact law_image C0 hXs hbl hbA hx hm hB w hl hi6 hL nx
      by_cases c_33_26 : ((xs (nI i).toNatClampNeg) &&& 31) = 26
      · refine lv_tableIn (off := 1035) (tgt := 1068) C0.1 C0.2.1 dL_law_33 (by rw [c_33_26]; decide) (by rw [c_33_26]; decide) (by rw [c_33_26]; rfl) (by decide) ?_
        exact law_undo C0 hXs hbl hbA hx hm hB w hl hi6 hL nx
      by_cases c_33_27 : ((xs (nI i).toNatClampNeg) &&& 31) = 27
      · refine lv_tableIn (off := 1048) (tgt := 1081) C0.1 C0.2.1 dL_law_33 (by rw [c_33_27]; decide) (by rw [c_33_27]; decide) (by rw [c_33_27]; rfl) (by decide) ?_
        exact law_count C0 hXs hbl hbA hx hm hB w hl hi6 hL nx
      by_cases c_33_28 : ((xs (nI i).toNatClampNeg) &&& 31) = 28
      · refine lv_tableIn (off := 1071) (tgt := 1104) C0.1 C0.2.1 dL_law_33 (by rw [c_33_28]; decide) (by rw [c_33_28]; decide) (by rw [c_33_28]; rfl) (by decide) ?_
        exact law_tape C0 hXs hbl hbA hx hm hB w hl hi6 hL nx
      by_cases c_33_29 : ((xs (nI i).toNatClampNeg) &&& 31) = 29
      · refine lv_tableIn (off := 1114) (tgt := 1147) C0.1 C0.2.1 dL_law_33 (by rw [c_33_29]; decide) (by rw [c_33_29]; decide) (by rw [c_33_29]; rfl) (by decide) ?_
        exact law_item C0 hXs hbl hbA hx hm hB w hl hi6 hL nx
      by_cases c_33_30 : ((xs (nI i).toNatClampNeg) &&& 31) = 30
      · refine lv_tableIn (off := 1187) (tgt := 1220) C0.1 C0.2.1 dL_law_33 (by rw [c_33_30]; decide) (by rw [c_33_30]; decide) (by rw [c_33_30]; rfl) (by decide) ?_
        exact law_peek C0 hXs hbl hbA hx hm hB w hl hi6 hL nx
      by_cases c_33_31 : ((xs (nI i).toNatClampNeg) &&& 31) = 31
      · refine lv_tableIn (off := 1221) (tgt := 1254) C0.1 C0.2.1 dL_law_33 (by rw [c_33_31]; decide) (by rw [c_33_31]; decide) (by rw [c_33_31]; rfl) (by decide) ?_
        exact law_shift C0 hXs hbl hbA hx hm hB w hl hi6 hL nx
      have tc_33_0 : ((xs (nI i).toNatClampNeg) &&& 31).toInt ≠ 0 := fun h9 => c_33_0 (Int32.toInt_inj.mp (h9.trans (by decide)))
      have tc_33_1 : ((xs (nI i).toNatClampNeg) &&& 31).toInt ≠ 1 := fun h9 => c_33_1 (Int32.toInt_inj.mp (h9.trans (by decide)))
      have tc_33_2 : ((xs (nI i).toNatClampNeg) &&& 31).toInt ≠ 2 := fun h9 => c_33_2 (Int32.toInt_inj.mp (h9.trans (by decide)))
      have tc_33_3 : ((xs (nI i).toNatClampNeg) &&& 31).toInt ≠ 3 := fun h9 => c_33_3 (Int32.toInt_inj.mp (h9.trans (by decide)))
      have tc_33_4 : ((xs (nI i).toNatClampNeg) &&& 31).toInt ≠ 4 := fun h9 => c_33_4 (Int32.toInt_inj.mp (h9.trans (by decide)))
      have tc_33_5 : ((xs (nI i).toNatClampNeg) &&& 31).toInt ≠ 5 := fun h9 => c_33_5 (Int32.toInt_inj.mp (h9.trans (by decide)))
      have tc_33_6 : ((xs (nI i).toNatClampNeg) &&& 31).toInt ≠ 6 := fun h9 => c_33_6 (Int32.toInt_inj.mp (h9.trans (by decide)))
      have tc_33_7 : ((xs (nI i).toNatClampNeg) &&& 31).toInt ≠ 7 := fun h9 => c_33_7 (Int32.toInt_inj.mp (h9.trans (by decide)))
      have tc_33_8 : ((xs (nI i).toNatClampNeg) &&& 31).toInt ≠ 8 := fun h9 => c_33_8 (Int32.toInt_inj.mp (h9.trans (by decide)))
      have tc_33_9 : ((xs (nI i).toNatClampNeg) &&& 31).toInt ≠ 9 := fun h9 => c_33_9 (Int32.toInt_inj.mp (h9.trans (by decide)))
      have tc_33_10 : ((xs (nI i).toNatClampNeg) &&& 31).toInt ≠ 10 := fun h9 => c_33_10 (Int32.toInt_inj.mp (h9.trans (by decide)))
      have tc_33_11 : ((xs (nI i).toNatClampNeg) &&& 31).toInt ≠ 11 := fun h9 => c_33_11 (Int32.toInt_inj.mp (h9.trans (by decide)))
      have tc_33_12 : ((xs (nI i).toNatClampNeg) &&& 31).toInt ≠ 12 := fun h9 => c_33_12 (Int32.toInt_inj.mp (h9.trans (by decide)))
      have tc_33_13 : ((xs (nI i).toNatClampNeg) &&& 31).toInt ≠ 13 := fun h9 => c_33_13 (Int32.toInt_inj.mp (h9.trans (by decide)))
      have tc_33_14 : ((xs (nI i).toNatClampNeg) &&& 31).toInt ≠ 14 := fun h9 => c_33_14 (Int32.toInt_inj.mp (h9.trans (by decide)))
      have tc_33_15 : ((xs (nI i).toNatClampNeg) &&& 31).toInt ≠ 15 := fun h9 => c_33_15 (Int32.toInt_inj.mp (h9.trans (by decide)))
      have tc_33_16 : ((xs (nI i).toNatClampNeg) &&& 31).toInt ≠ 16 := fun h9 => c_33_16 (Int32.toInt_inj.mp (h9.trans (by decide)))
      have tc_33_17 : ((xs (nI i).toNatClampNeg) &&& 31).toInt ≠ 17 := fun h9 => c_33_17 (Int32.toInt_inj.mp (h9.trans (by decide)))
      have tc_33_18 : ((xs (nI i).toNatClampNeg) &&& 31).toInt ≠ 18 := fun h9 => c_33_18 (Int32.toInt_inj.mp (h9.trans (by decide)))
      have tc_33_19 : ((xs (nI i).toNatClampNeg) &&& 31).toInt ≠ 19 := fun h9 => c_33_19 (Int32.toInt_inj.mp (h9.trans (by decide)))
      have tc_33_20 : ((xs (nI i).toNatClampNeg) &&& 31).toInt ≠ 20 := fun h9 => c_33_20 (Int32.toInt_inj.mp (h9.trans (by decide)))
      have tc_33_21 : ((xs (nI i).toNatClampNeg) &&& 31).toInt ≠ 21 := fun h9 => c_33_21 (Int32.toInt_inj.mp (h9.trans (by decide)))
      have tc_33_22 : ((xs (nI i).toNatClampNeg) &&& 31).toInt ≠ 22 := fun h9 => c_33_22 (Int32.toInt_inj.mp (h9.trans (by decide)))
      have tc_33_23 : ((xs (nI i).toNatClampNeg) &&& 31).toInt ≠ 23 := fun h9 => c_33_23 (Int32.toInt_inj.mp (h9.trans (by decide)))
      have tc_33_24 : ((xs (nI i).toNatClampNeg) &&& 31).toInt ≠ 24 := fun h9 => c_33_24 (Int32.toInt_inj.mp (h9.trans (by decide)))
      have tc_33_25 : ((xs (nI i).toNatClampNeg) &&& 31).toInt ≠ 25 := fun h9 => c_33_25 (Int32.toInt_inj.mp (h9.trans (by decide)))
      have tc_33_26 : ((xs (nI i).toNatClampNeg) &&& 31).toInt ≠ 26 := fun h9 => c_33_26 (Int32.toInt_inj.mp (h9.trans (by decide)))
      have tc_33_27 : ((xs (nI i).toNatClampNeg) &&& 31).toInt ≠ 27 := fun h9 => c_33_27 (Int32.toInt_inj.mp (h9.trans (by decide)))
      have tc_33_28 : ((xs (nI i).toNatClampNeg) &&& 31).toInt ≠ 28 := fun h9 => c_33_28 (Int32.toInt_inj.mp (h9.trans (by decide)))
      have tc_33_29 : ((xs (nI i).toNatClampNeg) &&& 31).toInt ≠ 29 := fun h9 => c_33_29 (Int32.toInt_inj.mp (h9.trans (by decide)))
      have tc_33_30 : ((xs (nI i).toNatClampNeg) &&& 31).toInt ≠ 30 := fun h9 => c_33_30 (Int32.toInt_inj.mp (h9.trans (by decide)))
      have tc_33_31 : ((xs (nI i).toNatClampNeg) &&& 31).toInt ≠ 31 := fun h9 => c_33_31 (Int32.toInt_inj.mp (h9.trans (by decide)))
      refine lv_tableOut (tgt := 1317) C0.1 C0.2.1 dL_law_33 (by omega) (by decide) ?_
      exact nx σ V _ _ hx hm hB w
set_option maxHeartbeats 8000000 in
set_option maxRecDepth 100000 in
theorem whole_start {p : Program} {e : Env} {s : State} {m : MethodId} {below : List Frame} {meth : Method} {c : Code} (l : Launch) (hflags : l.flags = flags0) {b L : Nat} {xs : Nat → Int32} (hL : L ≤ 3072) (C0 : lw_At p s m meth c b L xs) : W p l e room_1 s m #[Value.ref b] below meth c s.heap [] 0 0 (lw_Z below #[Value.ref b] s) (entryFrame m ([Value.ref b] : List Value).toArray 4) := by
  obtain ⟨X, hXA, C1, hOO⟩ := hv_begin C0
  obtain ⟨hx, hb, hr, hml, hown, hts, hX, hbl, hlocks, hgv⟩ := C0
  have hl := lv_entry ([.ref b]) (n := 4) (Nat.le_of_ble_eq_true rfl)
  rw [lg_entry_eq]
  generalize (lg_sl ([.ref b]) ++ List.replicate (4 - (lg_sl ([.ref b])).length) Slot.unset).toArray = ls at hl ⊢
  have hl : lv_has ls 4 [(0, .ref b)] := hl
  have hAA : ∀ q, s.heap.size ≤ q → X.2.2.1 q := fun q h => by rw [hXA]; exact h
  have w : hv_w X s (fun _ => none) s.heap [] := ⟨⟨[], (fun k q h => by simp at h), ⟨(fun i j p q h => by simp at h), (fun k q h => by simp at h)⟩, fun a e => ⟨(fun h => by simp at h), (fun ⟨k, hk⟩ => by simp at hk)⟩⟩, va_S.rf⟩
  refine hw_room (R2 := (hv_rm 2048 600000 7302250)) (Nat.le_of_ble_eq_true rfl) (Nat.le_of_ble_eq_true rfl) (Nat.le_of_ble_eq_true rfl) (Nat.le_of_ble_eq_true rfl) ?_
  obtain ⟨x, hxe⟩ : ∃ x, x = s.heap.size := ⟨_, rfl⟩
  refine hv_new (fs := [.null, .null, .int 0, .null, .null, .null, .null, .null, .null, .null]) C1 w hAA kc_X6 kx_L_7 kn_X6 kz_X6 (fun j hj => by rcases (show j = 0 ∨ j = 1 ∨ j = 2 ∨ j = 3 ∨ j = 4 ∨ j = 5 ∨ j = 6 ∨ j = 7 ∨ j = 8 ∨ j = 9 by omega) with rfl | rfl | rfl | rfl | rfl | rfl | rfl | rfl | rfl | rfl <;> rfl) (Nat.le_of_ble_eq_true rfl) (Nat.le_of_ble_eq_true rfl) (sz := x) hxe.symm dL_law_0 (fun Hq w hz => ?_)
  refine lv_dup C1.1 C1.2.1 dL_law_3 rfl ?_
  refine hv_cI C1 hOO w kl_L_9 ki_X6_init (n_X6_init (o := x) (fun q h => hAA q (by omega)) hv_us) hz (by decide) (by decide) rfl hl.1 rfl (Nat.le_of_ble_eq_true rfl) dL_law_4 ⟨Nat.le_of_ble_eq_true rfl, Nat.le_of_ble_eq_true rfl⟩ (fun V1 Hq lq hp w hz => ?_)
  obtain ⟨hx1, -⟩ := hp
  refine lv_astore_n (lv' := [(1, .ref x), (0, .ref b)]) C1.1 C1.2.1 dL_law_7 rfl hl (by decide) rfl (fun ls hl => ?_)
  refine hv_new (fs := [.null, .null, .null, .long 0, .long 0, .null, .int 0, .int 0, .int 0, .null, .null, .null, .int 0, .null, .null, .null, .null, .int 0, .null, .null, .int 0, .null, .null, .null, .int 0, .int 0, .null, .null, .null, .null, .null, .null, .null, .null]) C1 w hAA kc_X7 kx_L_10 kn_X7 kz_X7 (fun j hj => by rcases (show j = 0 ∨ j = 1 ∨ j = 2 ∨ j = 3 ∨ j = 4 ∨ j = 5 ∨ j = 6 ∨ j = 7 ∨ j = 8 ∨ j = 9 ∨ j = 10 ∨ j = 11 ∨ j = 12 ∨ j = 13 ∨ j = 14 ∨ j = 15 ∨ j = 16 ∨ j = 17 ∨ j = 18 ∨ j = 19 ∨ j = 20 ∨ j = 21 ∨ j = 22 ∨ j = 23 ∨ j = 24 ∨ j = 25 ∨ j = 26 ∨ j = 27 ∨ j = 28 ∨ j = 29 ∨ j = 30 ∨ j = 31 ∨ j = 32 ∨ j = 33 by omega) with rfl | rfl | rfl | rfl | rfl | rfl | rfl | rfl | rfl | rfl | rfl | rfl | rfl | rfl | rfl | rfl | rfl | rfl | rfl | rfl | rfl | rfl | rfl | rfl | rfl | rfl | rfl | rfl | rfl | rfl | rfl | rfl | rfl | rfl <;> rfl) (Nat.le_of_ble_eq_true rfl) (Nat.le_of_ble_eq_true rfl) (sz := x + 92) (by omega) dL_law_8 (fun Hq w hz => ?_)
  have hx2 := hx1.fr (hv_but1 (a := x + 92) (e := .inr (7, [.null, .null, .null, .long 0, .long 0, .null, .int 0, .int 0, .int 0, .null, .null, .null, .int 0, .null, .null, .null, .null, .int 0, .null, .null, .int 0, .null, .null, .null, .int 0, .int 0, .null, .null, .null, .null, .null, .null, .null, .null])) (by omega))
  refine lv_dup C1.1 C1.2.1 dL_law_11 rfl ?_
  refine hv_cI C1 hOO w kl_L_12 ki_X7_init (n_X7_init (o := x + 92) (fun q h => hAA q (by omega)) hv_us) hz (by decide) (by decide) rfl hl.1 rfl (Nat.le_of_ble_eq_true rfl) dL_law_12 ⟨Nat.le_of_ble_eq_true rfl, Nat.le_of_ble_eq_true rfl⟩ (fun V2 Hq lq hp w hz => ?_)
  obtain ⟨hm2, hf2⟩ := hp
  have hx3 := hx2.fr (V1 := V2) (fun q h1 h2 => hf2 q h2)
  refine lv_astore_n (lv' := [(2, .ref (x + 92)), (1, .ref x), (0, .ref b)]) C1.1 C1.2.1 dL_law_15 rfl hl (by decide) rfl (fun ls hl => ?_)
  refine lv_iconst (v := 0) C1.1 C1.2.1 dL_law_16 (by decide) ?_
  refine lv_istore_n (lv' := [(3, .int 0), (2, .ref (x + 92)), (1, .ref x), (0, .ref b)]) C1.1 C1.2.1 dL_law_17 rfl hl (by decide) rfl (fun ls hl => ?_)
  refine W.widen (k := 142) (n := 2151) (Nat.le_of_ble_eq_true rfl) (Nat.le_of_ble_eq_true rfl) ?_
  exact law_loop C1 hr hlocks hX hbl hXA hL (L + 1) 0 hs_0 V2 Hq lq ls (by omega) (by omega) hx3 hm2 hb_0 w (lv_sub (l' := [(0, .ref b), (1, .ref x), (2, .ref (x + 92)), (3, .int (nI 0))]) hl [3, 2, 1, 0] rfl)
