set_option maxHeartbeats 4000000 in
set_option maxRecDepth 100000 in
theorem c_X4_take {l : Launch} {X : hv_X} {V : hv_V} {sa n : Nat} {pl cl : Int32} {f : Nat → Int32} (hQ : V sa = some (sE sa n pl cl)) (hQ1 : V (sa + 1) = some (bE X 100 f)) (hn : n ≤ 100) {v : Int32} : hv_Mi l X 0 yX4_take cX4_take 2 .boolean V [.ref sa, .int v] (fun x V1 => (n < 100 ∧ x = 1 ∧ V1 = hv_up (hv_up V (sa + 1) (bE X 100 (upd f n (vp_nar .byte v.toInt8.toInt32)))) sa (sE sa (n + 1) pl cl)) ∨ (¬ n < 100 ∧ x = 0 ∧ V1 = V)) := by
  refine hv_enter (by decide) (Nat.le_of_ble_eq_true rfl) ?_
  intro p e s m below meth c ls C0 hr hlk hnm w hl
  have hl : lv_has ls 2 [(0, .ref sa), (1, .int v)] := hl
  refine lv_aload_n C0.1 C0.2.1 dX4_take_0 rfl (lv_at hl 0 rfl) ?_
  refine gf_X4_22 C0 w hQ rfl dX4_take_1 ?_
  refine lv_bipush (v := 100) C0.1 C0.2.1 dX4_take_4 (by decide) ?_
  refine lv_icmp_lt (tgt := 11) C0.1 C0.2.1 dX4_take_6 (by decide) (fun c_6 => ?_) (fun c_6 => ?_)
  · skip
    have hlt : n < 100 := (nI_ltI (by omega) (by omega)).mp (show nI n < nI 100 from c_6)
    refine lv_aload_n C0.1 C0.2.1 dX4_take_11 rfl (lv_at hl 0 rfl) ?_
    refine gf_X4_9 C0 w hQ rfl dX4_take_12 ?_
    refine lv_aload_n C0.1 C0.2.1 dX4_take_15 rfl (lv_at hl 0 rfl) ?_
    refine gf_X4_22 C0 w hQ rfl dX4_take_16 ?_
    refine lv_iload_n C0.1 C0.2.1 dX4_take_19 rfl (lv_at hl 1 rfl) ?_
    refine lv_i2b (v := v.toInt8.toInt32) C0.1 C0.2.1 dX4_take_20 rfl ?_
    refine hv_bast C0 w hQ1 (hn_in hlt (by decide)) dX4_take_21 (fun Hq lq w => ?_)
    have hc1 : (nI n).toNatClampNeg = n := nI_clamp (by omega)
    rw [hc1] at w
    obtain ⟨V2, eV3⟩ : ∃ V9, V9 = hv_up V (sa + 1) (.inl (X.2.1 2, 100, .inl (upd f n (vp_nar .byte (v.toInt8.toInt32))))) := ⟨_, rfl⟩
    have w : hv_w X s V2 Hq lq := by rw [eV3]; exact w
    have hV4 : V2 sa = some (.inr (4, [.ref (sa + 1), .int (nI n), .int pl, .int cl, .ref (sa + 2), .ref (sa + 3)])) := by rw [eV3, hv_un (by omega)]; exact hQ
    have hV6 : V2 (sa + 1) = some (.inl (X.2.1 2, 100, .inl (upd f n (vp_nar .byte (v.toInt8.toInt32))))) := by rw [eV3]; exact hv_us
    refine lv_aload_n C0.1 C0.2.1 dX4_take_22 rfl (lv_at hl 0 rfl) ?_
    refine lv_dup C0.1 C0.2.1 dX4_take_23 rfl ?_
    refine gf_X4_22 C0 w hV4 rfl dX4_take_24 ?_
    refine lv_iconst (v := 1) C0.1 C0.2.1 dX4_take_27 (by decide) ?_
    refine lv_iadd C0.1 C0.2.1 dX4_take_28 ?_
    rw [nI_1]
    refine pf_X4_22 C0 w hV4 (by simp) dX4_take_29 (fun Hq lq w => ?_)
    obtain ⟨V7, eV8⟩ : ∃ V9, V9 = hv_up V2 sa (.inr (4, [.ref (sa + 1), .int (nI (n + 1)), .int pl, .int cl, .ref (sa + 2), .ref (sa + 3)])) := ⟨_, rfl⟩
    have w : hv_w X s V7 Hq lq := by rw [eV8]; exact w
    have hV10 : V7 (sa + 1) = some (.inl (X.2.1 2, 100, .inl (upd f n (vp_nar .byte (v.toInt8.toInt32))))) := by rw [eV8, hv_un (by omega)]; exact hV6
    have hV11 : V7 sa = some (.inr (4, [.ref (sa + 1), .int (nI (n + 1)), .int pl, .int cl, .ref (sa + 2), .ref (sa + 3)])) := by rw [eV8]; exact hv_us
    refine lv_iconst (v := 1) C0.1 C0.2.1 dX4_take_32 (by decide) ?_
    exact hv_zret C0 w hr hlk (by decide) (Or.inl ⟨hlt, rfl, by rw [eV8, eV3]⟩) dX4_take_33
  · skip
    refine lv_iconst (v := 0) C0.1 C0.2.1 dX4_take_9 (by decide) ?_
    exact hv_zret C0 w hr hlk (by decide) (Or.inr ⟨fun h9 => c_6 (show nI n < nI 100 from nI_lt h9 (by omega)), rfl, rfl⟩) dX4_take_10

set_option maxHeartbeats 4000000 in
set_option maxRecDepth 100000 in
theorem m_X6_count {l : Launch} {X : hv_X} {V : hv_V} {x : Nat} {σ : hs_S} (hX : okX X V x σ) (hB : hs_b σ) {k : Int32} : hv_Mi l X 6 yX6_count cX6_count 2 .int V [.ref x, .int k] (fun y V1 => y = sp_count σ k ∧ okX X V1 x σ ∧ hv_out V V1 x (x + 92)) := by
  refine hv_enter (by decide) (Nat.le_of_ble_eq_true rfl) ?_
  intro p e s m below meth c ls C0 hr hlk hnm w hl
  have hl : lv_has ls 2 [(0, .ref x), (1, .int k)] := hl
  obtain ⟨kk0, hX0, hPg, hKp, hTx, hTp, hSc⟩ := id hX
  obtain ⟨hP0, ⟨rf, hP1, hP2⟩, hP3, hP4, hP5, hP6⟩ := id hPg
  obtain ⟨⟨tf, hT1, hT2⟩, hT3⟩ := id hTp
  obtain ⟨⟨tk, tn, tg, hS1, hS2⟩, ⟨LF, hS3⟩, ⟨RF, hS4⟩, ⟨bf, hS5, hS6⟩, hS7, uf, hS8⟩ := id hSc
  have hbR := hB.1.1
  obtain ⟨sf, sg, sh, hL0, hL1, hL2, hL3, hLa⟩ := id hP4
  obtain ⟨ef, eg, eh, hM0, hM1, hM2, hM3, hMa⟩ := id hP5
  obtain ⟨kf, kg, kh, hK0, hK1, hK2, hK3, hKa⟩ := id hP6
  obtain ⟨pl, cl, wd, vl, hQ0, hQ1, hQ2, hQ3⟩ := id hTx
  refine lv_iload_n C0.1 C0.2.1 dX6_count_0 rfl (lv_at hl 1 rfl) ?_
  by_cases c_1_0 : k = 0
  · refine lv_tableIn (off := 31) (tgt := 32) C0.1 C0.2.1 dX6_count_1 (by rw [c_1_0]; decide) (by rw [c_1_0]; decide) (by rw [c_1_0]; rfl) (by decide) ?_
    refine lv_aload_n C0.1 C0.2.1 dX6_count_32 rfl (lv_at hl 0 rfl) ?_
    refine gf_X6_12 C0 w hX0 rfl dX6_count_33 ?_
    refine gf_X6_173 C0 w hP0 rfl dX6_count_36 ?_
    refine gf_X6_213 C0 w hL0 rfl dX6_count_39 ?_
    exact hv_iret C0 w hr hlk (by rw [sp_count, if_pos c_1_0]; exact ⟨rfl, hX, hv_out.rf⟩) dX6_count_42
  by_cases c_1_1 : k = 1
  · refine lv_tableIn (off := 42) (tgt := 43) C0.1 C0.2.1 dX6_count_1 (by rw [c_1_1]; decide) (by rw [c_1_1]; decide) (by rw [c_1_1]; rfl) (by decide) ?_
    refine lv_aload_n C0.1 C0.2.1 dX6_count_43 rfl (lv_at hl 0 rfl) ?_
    refine gf_X6_12 C0 w hX0 rfl dX6_count_44 ?_
    refine gf_X6_210 C0 w hP0 rfl dX6_count_47 ?_
    refine gf_X6_213 C0 w hM0 rfl dX6_count_50 ?_
    exact hv_iret C0 w hr hlk (by rw [sp_count, if_neg (by rw [c_1_1]; decide), if_pos c_1_1]; exact ⟨rfl, hX, hv_out.rf⟩) dX6_count_53
  by_cases c_1_2 : k = 2
  · refine lv_tableIn (off := 53) (tgt := 54) C0.1 C0.2.1 dX6_count_1 (by rw [c_1_2]; decide) (by rw [c_1_2]; decide) (by rw [c_1_2]; rfl) (by decide) ?_
    refine lv_aload_n C0.1 C0.2.1 dX6_count_54 rfl (lv_at hl 0 rfl) ?_
    refine gf_X6_12 C0 w hX0 rfl dX6_count_55 ?_
    refine gf_X6_223 C0 w hP0 rfl dX6_count_58 ?_
    refine gf_X6_213 C0 w hK0 rfl dX6_count_61 ?_
    exact hv_iret C0 w hr hlk (by rw [sp_count, if_neg (by rw [c_1_2]; decide), if_neg (by rw [c_1_2]; decide), if_pos c_1_2]; exact ⟨rfl, hX, hv_out.rf⟩) dX6_count_64
  by_cases c_1_3 : k = 3
  · refine lv_tableIn (off := 64) (tgt := 65) C0.1 C0.2.1 dX6_count_1 (by rw [c_1_3]; decide) (by rw [c_1_3]; decide) (by rw [c_1_3]; rfl) (by decide) ?_
    refine lv_aload_n C0.1 C0.2.1 dX6_count_65 rfl (lv_at hl 0 rfl) ?_
    refine gf_X6_24 C0 w hX0 rfl dX6_count_66 ?_
    refine gf_X6_125 C0 w hQ0 rfl dX6_count_69 ?_
    exact hv_iret C0 w hr hlk (by rw [sp_count, if_neg (by rw [c_1_3]; decide), if_neg (by rw [c_1_3]; decide), if_neg (by rw [c_1_3]; decide), if_pos c_1_3]; exact ⟨rfl, hX, hv_out.rf⟩) dX6_count_72
  have tc_1_0 : k.toInt ≠ 0 := fun h9 => c_1_0 (Int32.toInt_inj.mp (h9.trans (by decide)))
  have tc_1_1 : k.toInt ≠ 1 := fun h9 => c_1_1 (Int32.toInt_inj.mp (h9.trans (by decide)))
  have tc_1_2 : k.toInt ≠ 2 := fun h9 => c_1_2 (Int32.toInt_inj.mp (h9.trans (by decide)))
  have tc_1_3 : k.toInt ≠ 3 := fun h9 => c_1_3 (Int32.toInt_inj.mp (h9.trans (by decide)))
  refine lv_tableOut (tgt := 73) C0.1 C0.2.1 dX6_count_1 (by omega) (by decide) ?_
  refine lv_bipush (v := -2) C0.1 C0.2.1 dX6_count_73 (by decide) ?_
  exact hv_iret C0 w hr hlk (by rw [sp_count, if_neg c_1_0, if_neg c_1_1, if_neg c_1_2, if_neg c_1_3]; exact ⟨rfl, hX, hv_out.rf⟩) dX6_count_75

set_option maxHeartbeats 4000000 in
set_option maxRecDepth 100000 in
theorem m_X6_feed {l : Launch} {X : hv_X} {V : hv_V} {x : Nat} {σ : hs_S} (hX : okX X V x σ) (hB : hs_b σ) {v : Int32} : hv_Mi l X 6 yX6_feed cX6_feed 2 .int V [.ref x, .int v] (fun y V1 => y = (sp_feed σ v).1 ∧ okX X V1 x (sp_feed σ v).2 ∧ hv_out V V1 x (x + 92)) := by
  refine hv_enter (by decide) (Nat.le_of_ble_eq_true rfl) ?_
  intro p e s m below meth c ls C0 hr hlk hnm w hl
  have hl : lv_has ls 2 [(0, .ref x), (1, .int v)] := hl
  obtain ⟨kk0, hX0, hPg, hKp, hTx, hTp, hSc⟩ := id hX
  obtain ⟨hP0, ⟨rf, hP1, hP2⟩, hP3, hP4, hP5, hP6⟩ := id hPg
  obtain ⟨⟨tf, hT1, hT2⟩, hT3⟩ := id hTp
  obtain ⟨⟨tk, tn, tg, hS1, hS2⟩, ⟨LF, hS3⟩, ⟨RF, hS4⟩, ⟨bf, hS5, hS6⟩, hS7, uf, hS8⟩ := id hSc
  have hbR := hB.1.1
  obtain ⟨sf, sg, sh, hL0, hL1, hL2, hL3, hLa⟩ := id hP4
  obtain ⟨ef, eg, eh, hM0, hM1, hM2, hM3, hMa⟩ := id hP5
  obtain ⟨kf, kg, kh, hK0, hK1, hK2, hK3, hKa⟩ := id hP6
  obtain ⟨pl, cl, wd, vl, hQ0, hQ1, hQ2, hQ3⟩ := id hTx
  refine lv_iload_n C0.1 C0.2.1 dX6_feed_0 rfl (lv_at hl 1 rfl) ?_
  refine lv_iconst (v := 0) C0.1 C0.2.1 dX6_feed_1 (by decide) ?_
  refine lv_bipush (v := 127) C0.1 C0.2.1 dX6_feed_2 (by decide) ?_
  refine hv_cSi (As := [.int v, .int 0, .int 127]) C0 w kl_X6_68 ks_X6_within (c_X6_within) (by decide) (by decide) rfl hl.1 rfl (Nat.le_of_ble_eq_true rfl) dX6_feed_4 ⟨Nat.le_refl _, Nat.le_refl _⟩ (fun x1 V2 Hq lq hp3 w => ?_)
  obtain ⟨e9, hz9⟩ := hp3
  rw [e9] at w; clear e9
  rcases hz9 with ⟨rfl, hb4⟩ | ⟨rfl, hb4⟩
  · skip
    refine lv_if_ne (tgt := 13) C0.1 C0.2.1 dX6_feed_7 (by decide) (fun _ => ?_) (fun h9 => absurd h9 (by decide))
    refine lv_aload_n C0.1 C0.2.1 dX6_feed_13 rfl (lv_at hl 0 rfl) ?_
    refine gf_X6_24 C0 w hX0 rfl dX6_feed_14 ?_
    refine lv_iload_n C0.1 C0.2.1 dX6_feed_17 rfl (lv_at hl 1 rfl) ?_
    refine hv_cVi C0 w kl_X6_122 kv_X4_take rfl hQ0 (c_X4_take hQ0 hQ1 hB.2.2.1) (by decide) (by decide) rfl hl.1 rfl (Nat.le_of_ble_eq_true rfl) dX6_feed_18 ⟨Nat.le_refl _, Nat.le_refl _⟩ (fun x5 V6 Hq lq hp7 w => ?_)
    obtain ⟨hlt9, ex9, hp7b⟩ | ⟨hge9, ex9, hp7b⟩ := hp7
    · skip
      rw [ex9]; clear ex9
      have hX0b : V6 x = some (xE x kk0) := by rw [hp7b, hv_un (by omega), hv_un (by omega)]; exact hX0
      have hQ0b : V6 (x + 53) = some (sE (x + 53) (σ.2.2.1.1 + 1) pl cl) := by rw [hp7b]; exact hv_us
      refine lv_if_eq (tgt := 34) C0.1 C0.2.1 dX6_feed_21 (by decide) (fun h9 => absurd h9 (by decide)) (fun _ => ?_)
      refine lv_aload_n C0.1 C0.2.1 dX6_feed_24 rfl (lv_at hl 0 rfl) ?_
      refine gf_X6_24 C0 w hX0b rfl dX6_feed_25 ?_
      refine gf_X6_125 C0 w hQ0b rfl dX6_feed_28 ?_
      refine lv_goto (tgt := 36) C0.1 C0.2.1 dX6_feed_31 (by decide) ?_
      exact hv_iret C0 w hr hlk (by rw [sp_feed, if_pos hb4, if_pos hlt9]; exact ⟨rfl, ⟨kk0, (by rw [hp7b, hv_un (by omega), hv_un (by omega)] : _ = V x).trans hX0, hPg.fr (fun q h7 h8 => by rw [hp7b, hv_un (by omega), hv_un (by omega)]), hKp.fr (fun q h7 h8 => by rw [hp7b, hv_un (by omega), hv_un (by omega)]), ⟨pl, cl, wd, vl, by rw [hp7b]; exact hv_us, by rw [hp7b, hv_un (by omega)]; exact hv_us, (by rw [hp7b, hv_un (by omega), hv_un (by omega)] : _ = V (x + 53 + 2)).trans hQ2, (by rw [hp7b, hv_un (by omega), hv_un (by omega)] : _ = V (x + 53 + 3)).trans hQ3⟩, hTp.fr (by rw [hp7b, hv_un (by omega), hv_un (by omega)]) (fun q h7 h8 => by rw [hp7b, hv_un (by omega), hv_un (by omega)]), hSc.fr (fun q h7 h8 => by rw [hp7b, hv_un (by omega), hv_un (by omega)]) (fun q h7 h8 => by rw [hp7b, hv_un (by omega), hv_un (by omega)])⟩, (fun q h7 => by rw [hp7b, hv_un (by omega), hv_un (by omega)])⟩) dX6_feed_36
    · skip
      rw [hp7b] at w; rw [ex9]; clear ex9
      refine lv_if_eq (tgt := 34) C0.1 C0.2.1 dX6_feed_21 (by decide) (fun _ => ?_) (fun h9 => absurd h9 (by decide))
      refine lv_bipush (v := -4) C0.1 C0.2.1 dX6_feed_34 (by decide) ?_
      exact hv_iret C0 w hr hlk (by rw [sp_feed, if_pos hb4, if_neg hge9]; exact ⟨rfl, hX, hv_out.rf⟩) dX6_feed_36
  · skip
    refine lv_if_ne (tgt := 13) C0.1 C0.2.1 dX6_feed_7 (by decide) (fun h9 => absurd h9 (by decide)) (fun _ => ?_)
    refine lv_bipush (v := -2) C0.1 C0.2.1 dX6_feed_10 (by decide) ?_
    exact hv_iret C0 w hr hlk (by rw [sp_feed, if_neg hb4]; exact ⟨rfl, hX, hv_out.rf⟩) dX6_feed_12

set_option maxHeartbeats 4000000 in
set_option maxRecDepth 100000 in
theorem m_X6_see {l : Launch} {X : hv_X} {V : hv_V} {x : Nat} {σ : hs_S} (hX : okX X V x σ) (hB : hs_b σ) {r u lo : Int32} : hv_Mi l X 6 yX6_see cX6_see 4 .int V [.ref x, .int r, .int u, .int lo] (fun y V1 => y = (sp_see σ r u lo).1 ∧ okX X V1 x (sp_see σ r u lo).2 ∧ hv_out V V1 x (x + 92)) := by
  refine hv_enter (by decide) (Nat.le_of_ble_eq_true rfl) ?_
  intro p e s m below meth c ls C0 hr hlk hnm w hl
  have hl : lv_has ls 4 [(0, .ref x), (1, .int r), (2, .int u), (3, .int lo)] := hl
  obtain ⟨kk0, hX0, hPg, hKp, hTx, hTp, hSc⟩ := id hX
  obtain ⟨hP0, ⟨rf, hP1, hP2⟩, hP3, hP4, hP5, hP6⟩ := id hPg
  obtain ⟨⟨tf, hT1, hT2⟩, hT3⟩ := id hTp
  obtain ⟨⟨tk, tn, tg, hS1, hS2⟩, ⟨LF, hS3⟩, ⟨RF, hS4⟩, ⟨bf, hS5, hS6⟩, hS7, uf, hS8⟩ := id hSc
  have hbR := hB.1.1
  obtain ⟨sf, sg, sh, hL0, hL1, hL2, hL3, hLa⟩ := id hP4
  obtain ⟨ef, eg, eh, hM0, hM1, hM2, hM3, hMa⟩ := id hP5
  obtain ⟨kf, kg, kh, hK0, hK1, hK2, hK3, hKa⟩ := id hP6
  obtain ⟨pl, cl, wd, vl, hQ0, hQ1, hQ2, hQ3⟩ := id hTx
  refine lv_iload_n C0.1 C0.2.1 dX6_see_0 rfl (lv_at hl 1 rfl) ?_
  refine lv_iconst (v := -1) C0.1 C0.2.1 dX6_see_1 (by decide) ?_
  refine lv_icmp_ne (tgt := 16) C0.1 C0.2.1 dX6_see_2 (by decide) (fun c_2 => ?_) (fun c_2 => ?_)
  · skip
    refine lv_iload_n C0.1 C0.2.1 dX6_see_16 rfl (lv_at hl 1 rfl) ?_
    refine hv_cSi (As := [.int r]) C0 w kl_X6_60 ks_X6_isRow (c_X6_isRow) (by decide) (by decide) rfl hl.1 rfl (Nat.le_of_ble_eq_true rfl) dX6_see_17 ⟨Nat.le_refl _, Nat.le_refl _⟩ (fun x1 V2 Hq lq hp3 w => ?_)
    obtain ⟨e9, hz9⟩ := hp3
    rw [e9] at w; clear e9
    rcases hz9 with ⟨rfl, hb4⟩ | ⟨rfl, hb4⟩
    · skip
      refine lv_if_ne (tgt := 25) C0.1 C0.2.1 dX6_see_20 (by decide) (fun _ => ?_) (fun h9 => absurd h9 (by decide))
      refine lv_iload_n C0.1 C0.2.1 dX6_see_25 rfl (lv_at hl 2 rfl) ?_
      refine lv_iconst (v := 1) C0.1 C0.2.1 dX6_see_26 (by decide) ?_
      refine lv_sipush (v := 9999) C0.1 C0.2.1 dX6_see_27 (by decide) ?_
      refine hv_cSi (As := [.int u, .int 1, .int 9999]) C0 w kl_X6_68 ks_X6_within (c_X6_within) (by decide) (by decide) rfl hl.1 rfl (Nat.le_of_ble_eq_true rfl) dX6_see_30 ⟨Nat.le_refl _, Nat.le_refl _⟩ (fun x5 V6 Hq lq hp7 w => ?_)
      obtain ⟨e9, hz9⟩ := hp7
      rw [e9] at w; clear e9
      rcases hz9 with ⟨rfl, hb8⟩ | ⟨rfl, hb8⟩
      · skip
        refine lv_if_eq (tgt := 47) C0.1 C0.2.1 dX6_see_33 (by decide) (fun h9 => absurd h9 (by decide)) (fun _ => ?_)
        refine lv_iload_n C0.1 C0.2.1 dX6_see_36 rfl (lv_at hl 3 rfl) ?_
        refine lv_iconst (v := 1) C0.1 C0.2.1 dX6_see_37 (by decide) ?_
        refine lv_sipush (v := 9999) C0.1 C0.2.1 dX6_see_38 (by decide) ?_
        refine hv_cSi (As := [.int lo, .int 1, .int 9999]) C0 w kl_X6_68 ks_X6_within (c_X6_within) (by decide) (by decide) rfl hl.1 rfl (Nat.le_of_ble_eq_true rfl) dX6_see_41 ⟨Nat.le_refl _, Nat.le_refl _⟩ (fun x9 V10 Hq lq hp11 w => ?_)
        obtain ⟨e9, hz9⟩ := hp11
        rw [e9] at w; clear e9
        rcases hz9 with ⟨rfl, hb12⟩ | ⟨rfl, hb12⟩
        · skip
          refine lv_if_ne (tgt := 50) C0.1 C0.2.1 dX6_see_44 (by decide) (fun _ => ?_) (fun h9 => absurd h9 (by decide))
          refine lv_aload_n C0.1 C0.2.1 dX6_see_50 rfl (lv_at hl 0 rfl) ?_
          refine gf_X6_12 C0 w hX0 rfl dX6_see_51 ?_
          refine gf_X6_173 C0 w hP0 rfl dX6_see_54 ?_
          refine lv_iload_n C0.1 C0.2.1 dX6_see_57 rfl (lv_at hl 1 rfl) ?_
          refine lv_iload_n C0.1 C0.2.1 dX6_see_58 rfl (lv_at hl 2 rfl) ?_
          refine lv_iload_n C0.1 C0.2.1 dX6_see_59 rfl (lv_at hl 3 rfl) ?_
          refine hv_cVi C0 w kl_X6_181 kv_X1_put rfl hL0 (c_X1_put hL0 hL1 hL2 hL3 hB.1.2.1.1 (by decide)) (by decide) (by decide) rfl hl.1 rfl (Nat.le_of_ble_eq_true rfl) dX6_see_60 ⟨Nat.le_refl _, Nat.le_refl _⟩ (fun x13 V14 Hq lq hp15 w => ?_)
          obtain ⟨hlt9, ex9, hp15b⟩ | ⟨hge9, ex9, hp15b⟩ := hp15
          · skip
            rw [ex9]; clear ex9
            exact hv_iret C0 w hr hlk (by rw [sp_see, if_neg c_2, if_pos hb4, if_pos ⟨hb8, hb12⟩, if_pos hlt9]; exact ⟨rfl, ⟨kk0, (by rw [hp15b, hv_un (by omega), hv_un (by omega), hv_un (by omega), hv_un (by omega)] : _ = V x).trans hX0, ⟨(by rw [hp15b, hv_un (by omega), hv_un (by omega), hv_un (by omega), hv_un (by omega)] : _ = V (x + 1)).trans hP0, ⟨rf, (by rw [hp15b, hv_un (by omega), hv_un (by omega), hv_un (by omega), hv_un (by omega)] : _ = V (x + 1 + 1)).trans hP1, hP2⟩, fun j9 hj9 => (hP3 j9 hj9).fr (fun q h7 h8 => by rw [hp15b, hv_un (by omega), hv_un (by omega), hv_un (by omega), hv_un (by omega)]), ok_list.put (by rw [hp15b]; exact hv_us) (by rw [hp15b, hv_un (by omega), hv_un (by omega), hv_un (by omega)]; exact hv_us) (by rw [hp15b, hv_un (by omega), hv_un (by omega)]; exact hv_us) (by rw [hp15b, hv_un (by omega)]; exact hv_us) hLa, hP5.fr (fun q h7 h8 => by rw [hp15b, hv_un (by omega), hv_un (by omega), hv_un (by omega), hv_un (by omega)]), hP6.fr (fun q h7 h8 => by rw [hp15b, hv_un (by omega), hv_un (by omega), hv_un (by omega), hv_un (by omega)])⟩, hKp.fr (fun q h7 h8 => by rw [hp15b, hv_un (by omega), hv_un (by omega), hv_un (by omega), hv_un (by omega)]), hTx.fr (fun q h7 h8 => by rw [hp15b, hv_un (by omega), hv_un (by omega), hv_un (by omega), hv_un (by omega)]), hTp.fr (by rw [hp15b, hv_un (by omega), hv_un (by omega), hv_un (by omega), hv_un (by omega)]) (fun q h7 h8 => by rw [hp15b, hv_un (by omega), hv_un (by omega), hv_un (by omega), hv_un (by omega)]), hSc.fr (fun q h7 h8 => by rw [hp15b, hv_un (by omega), hv_un (by omega), hv_un (by omega), hv_un (by omega)]) (fun q h7 h8 => by rw [hp15b, hv_un (by omega), hv_un (by omega), hv_un (by omega), hv_un (by omega)])⟩, (fun q h7 => by rw [hp15b, hv_un (by omega), hv_un (by omega), hv_un (by omega), hv_un (by omega)])⟩) dX6_see_63
          · skip
            rw [hp15b] at w; rw [ex9]; clear ex9
            exact hv_iret C0 w hr hlk (by rw [sp_see, if_neg c_2, if_pos hb4, if_pos ⟨hb8, hb12⟩, if_neg hge9]; exact ⟨rfl, hX, hv_out.rf⟩) dX6_see_63
        · skip
          refine lv_if_ne (tgt := 50) C0.1 C0.2.1 dX6_see_44 (by decide) (fun h9 => absurd h9 (by decide)) (fun _ => ?_)
          refine lv_bipush (v := -2) C0.1 C0.2.1 dX6_see_47 (by decide) ?_
          exact hv_iret C0 w hr hlk (by rw [sp_see, if_neg c_2, if_pos hb4, if_neg (fun h9 => hb12 h9.2)]; exact ⟨rfl, hX, hv_out.rf⟩) dX6_see_49
      · skip
        refine lv_if_eq (tgt := 47) C0.1 C0.2.1 dX6_see_33 (by decide) (fun _ => ?_) (fun h9 => absurd h9 (by decide))
        refine lv_bipush (v := -2) C0.1 C0.2.1 dX6_see_47 (by decide) ?_
        exact hv_iret C0 w hr hlk (by rw [sp_see, if_neg c_2, if_pos hb4, if_neg (fun h9 => hb8 h9.1)]; exact ⟨rfl, hX, hv_out.rf⟩) dX6_see_49
    · skip
      refine lv_if_ne (tgt := 25) C0.1 C0.2.1 dX6_see_20 (by decide) (fun h9 => absurd h9 (by decide)) (fun _ => ?_)
      refine lv_iconst (v := -1) C0.1 C0.2.1 dX6_see_23 (by decide) ?_
      exact hv_iret C0 w hr hlk (by rw [sp_see, if_neg c_2, if_neg hb4]; exact ⟨rfl, hX, hv_out.rf⟩) dX6_see_24
  · skip
    refine lv_aload_n C0.1 C0.2.1 dX6_see_5 rfl (lv_at hl 0 rfl) ?_
    refine gf_X6_12 C0 w hX0 rfl dX6_see_6 ?_
    refine gf_X6_173 C0 w hP0 rfl dX6_see_9 ?_
    refine hv_cVi C0 w kl_X6_177 kv_X1_clear rfl hL0 (c_X1_clear hL0 hL1 hL2 hL3) (by decide) (by decide) rfl hl.1 rfl (Nat.le_of_ble_eq_true rfl) dX6_see_12 ⟨Nat.le_refl _, Nat.le_refl _⟩ (fun x16 V17 Hq lq hp18 w => ?_)
    obtain ⟨hp18b, ex9⟩ := hp18
    rw [ex9]; clear ex9
    exact hv_iret C0 w hr hlk (by rw [sp_see, if_pos c_2]; exact ⟨rfl, ⟨kk0, (by rw [hp18b, hv_un (by omega)] : _ = V x).trans hX0, ⟨(by rw [hp18b, hv_un (by omega)] : _ = V (x + 1)).trans hP0, ⟨rf, (by rw [hp18b, hv_un (by omega)] : _ = V (x + 1 + 1)).trans hP1, hP2⟩, fun j9 hj9 => (hP3 j9 hj9).fr (fun q h7 h8 => by rw [hp18b, hv_un (by omega)]), ok_list.nil (by rw [hp18b]; exact hv_us) ((by rw [hp18b, hv_un (by omega)] : _ = V (x + 1 + 2 + 1)).trans hL1) ((by rw [hp18b, hv_un (by omega)] : _ = V (x + 1 + 2 + 2)).trans hL2) ((by rw [hp18b, hv_un (by omega)] : _ = V (x + 1 + 2 + 3)).trans hL3), hP5.fr (fun q h7 h8 => by rw [hp18b, hv_un (by omega)]), hP6.fr (fun q h7 h8 => by rw [hp18b, hv_un (by omega)])⟩, hKp.fr (fun q h7 h8 => by rw [hp18b, hv_un (by omega)]), hTx.fr (fun q h7 h8 => by rw [hp18b, hv_un (by omega)]), hTp.fr (by rw [hp18b, hv_un (by omega)]) (fun q h7 h8 => by rw [hp18b, hv_un (by omega)]), hSc.fr (fun q h7 h8 => by rw [hp18b, hv_un (by omega)]) (fun q h7 h8 => by rw [hp18b, hv_un (by omega)])⟩, (fun q h7 => by rw [hp18b, hv_un (by omega)])⟩) dX6_see_15

set_option maxHeartbeats 4000000 in
set_option maxRecDepth 100000 in
theorem m_X6_event {l : Launch} {X : hv_X} {V : hv_V} {x : Nat} {σ : hs_S} (hX : okX X V x σ) (hB : hs_b σ) {k r : Int32} : hv_Mi l X 6 yX6_event cX6_event 3 .int V [.ref x, .int k, .int r] (fun y V1 => y = (sp_event σ k r).1 ∧ okX X V1 x (sp_event σ k r).2 ∧ hv_out V V1 x (x + 92)) := by
  refine hv_enter (by decide) (Nat.le_of_ble_eq_true rfl) ?_
  intro p e s m below meth c ls C0 hr hlk hnm w hl
  have hl : lv_has ls 3 [(0, .ref x), (1, .int k), (2, .int r)] := hl
  obtain ⟨kk0, hX0, hPg, hKp, hTx, hTp, hSc⟩ := id hX
  obtain ⟨hP0, ⟨rf, hP1, hP2⟩, hP3, hP4, hP5, hP6⟩ := id hPg
  obtain ⟨⟨tf, hT1, hT2⟩, hT3⟩ := id hTp
  obtain ⟨⟨tk, tn, tg, hS1, hS2⟩, ⟨LF, hS3⟩, ⟨RF, hS4⟩, ⟨bf, hS5, hS6⟩, hS7, uf, hS8⟩ := id hSc
  have hbR := hB.1.1
  obtain ⟨sf, sg, sh, hL0, hL1, hL2, hL3, hLa⟩ := id hP4
  obtain ⟨ef, eg, eh, hM0, hM1, hM2, hM3, hMa⟩ := id hP5
  obtain ⟨kf, kg, kh, hK0, hK1, hK2, hK3, hKa⟩ := id hP6
  obtain ⟨pl, cl, wd, vl, hQ0, hQ1, hQ2, hQ3⟩ := id hTx
  refine lv_iload_n C0.1 C0.2.1 dX6_event_0 rfl (lv_at hl 1 rfl) ?_
  refine lv_iconst (v := -1) C0.1 C0.2.1 dX6_event_1 (by decide) ?_
  refine lv_icmp_ne (tgt := 16) C0.1 C0.2.1 dX6_event_2 (by decide) (fun c_2 => ?_) (fun c_2 => ?_)
  · skip
    refine lv_iload_n C0.1 C0.2.1 dX6_event_16 rfl (lv_at hl 1 rfl) ?_
    refine lv_iconst (v := 0) C0.1 C0.2.1 dX6_event_17 (by decide) ?_
    refine lv_iconst (v := 2) C0.1 C0.2.1 dX6_event_18 (by decide) ?_
    refine hv_cSi (As := [.int k, .int 0, .int 2]) C0 w kl_X6_68 ks_X6_within (c_X6_within) (by decide) (by decide) rfl hl.1 rfl (Nat.le_of_ble_eq_true rfl) dX6_event_19 ⟨Nat.le_refl _, Nat.le_refl _⟩ (fun x1 V2 Hq lq hp3 w => ?_)
    obtain ⟨e9, hz9⟩ := hp3
    rw [e9] at w; clear e9
    rcases hz9 with ⟨rfl, hb4⟩ | ⟨rfl, hb4⟩
    · skip
      refine lv_if_eq (tgt := 32) C0.1 C0.2.1 dX6_event_22 (by decide) (fun h9 => absurd h9 (by decide)) (fun _ => ?_)
      refine lv_iload_n C0.1 C0.2.1 dX6_event_25 rfl (lv_at hl 2 rfl) ?_
      refine hv_cSi (As := [.int r]) C0 w kl_X6_60 ks_X6_isRow (c_X6_isRow) (by decide) (by decide) rfl hl.1 rfl (Nat.le_of_ble_eq_true rfl) dX6_event_26 ⟨Nat.le_refl _, Nat.le_refl _⟩ (fun x5 V6 Hq lq hp7 w => ?_)
      obtain ⟨e9, hz9⟩ := hp7
      rw [e9] at w; clear e9
      rcases hz9 with ⟨rfl, hb8⟩ | ⟨rfl, hb8⟩
      · skip
        refine lv_if_ne (tgt := 34) C0.1 C0.2.1 dX6_event_29 (by decide) (fun _ => ?_) (fun h9 => absurd h9 (by decide))
        refine lv_aload_n C0.1 C0.2.1 dX6_event_34 rfl (lv_at hl 0 rfl) ?_
        refine gf_X6_12 C0 w hX0 rfl dX6_event_35 ?_
        refine gf_X6_210 C0 w hP0 rfl dX6_event_38 ?_
        refine lv_iload_n C0.1 C0.2.1 dX6_event_41 rfl (lv_at hl 1 rfl) ?_
        refine lv_iload_n C0.1 C0.2.1 dX6_event_42 rfl (lv_at hl 2 rfl) ?_
        refine lv_iconst (v := 0) C0.1 C0.2.1 dX6_event_43 (by decide) ?_
        refine hv_cVi C0 w kl_X6_181 kv_X1_put rfl hM0 (c_X1_put hM0 hM1 hM2 hM3 hB.1.2.2.1.1 (by decide)) (by decide) (by decide) rfl hl.1 rfl (Nat.le_of_ble_eq_true rfl) dX6_event_44 ⟨Nat.le_refl _, Nat.le_refl _⟩ (fun x9 V10 Hq lq hp11 w => ?_)
        obtain ⟨hlt9, ex9, hp11b⟩ | ⟨hge9, ex9, hp11b⟩ := hp11
        · skip
          rw [ex9]; clear ex9
          exact hv_iret C0 w hr hlk (by rw [sp_event, if_neg c_2, if_pos ⟨hb4, hb8⟩, if_pos hlt9]; exact ⟨rfl, ⟨kk0, (by rw [hp11b, hv_un (by omega), hv_un (by omega), hv_un (by omega), hv_un (by omega)] : _ = V x).trans hX0, ⟨(by rw [hp11b, hv_un (by omega), hv_un (by omega), hv_un (by omega), hv_un (by omega)] : _ = V (x + 1)).trans hP0, ⟨rf, (by rw [hp11b, hv_un (by omega), hv_un (by omega), hv_un (by omega), hv_un (by omega)] : _ = V (x + 1 + 1)).trans hP1, hP2⟩, fun j9 hj9 => (hP3 j9 hj9).fr (fun q h7 h8 => by rw [hp11b, hv_un (by omega), hv_un (by omega), hv_un (by omega), hv_un (by omega)]), hP4.fr (fun q h7 h8 => by rw [hp11b, hv_un (by omega), hv_un (by omega), hv_un (by omega), hv_un (by omega)]), ok_list.put (by rw [hp11b]; exact hv_us) (by rw [hp11b, hv_un (by omega), hv_un (by omega), hv_un (by omega)]; exact hv_us) (by rw [hp11b, hv_un (by omega), hv_un (by omega)]; exact hv_us) (by rw [hp11b, hv_un (by omega)]; exact hv_us) hMa, hP6.fr (fun q h7 h8 => by rw [hp11b, hv_un (by omega), hv_un (by omega), hv_un (by omega), hv_un (by omega)])⟩, hKp.fr (fun q h7 h8 => by rw [hp11b, hv_un (by omega), hv_un (by omega), hv_un (by omega), hv_un (by omega)]), hTx.fr (fun q h7 h8 => by rw [hp11b, hv_un (by omega), hv_un (by omega), hv_un (by omega), hv_un (by omega)]), hTp.fr (by rw [hp11b, hv_un (by omega), hv_un (by omega), hv_un (by omega), hv_un (by omega)]) (fun q h7 h8 => by rw [hp11b, hv_un (by omega), hv_un (by omega), hv_un (by omega), hv_un (by omega)]), hSc.fr (fun q h7 h8 => by rw [hp11b, hv_un (by omega), hv_un (by omega), hv_un (by omega), hv_un (by omega)]) (fun q h7 h8 => by rw [hp11b, hv_un (by omega), hv_un (by omega), hv_un (by omega), hv_un (by omega)])⟩, (fun q h7 => by rw [hp11b, hv_un (by omega), hv_un (by omega), hv_un (by omega), hv_un (by omega)])⟩) dX6_event_47
        · skip
          rw [hp11b] at w; rw [ex9]; clear ex9
          exact hv_iret C0 w hr hlk (by rw [sp_event, if_neg c_2, if_pos ⟨hb4, hb8⟩, if_neg hge9]; exact ⟨rfl, hX, hv_out.rf⟩) dX6_event_47
      · skip
        refine lv_if_ne (tgt := 34) C0.1 C0.2.1 dX6_event_29 (by decide) (fun h9 => absurd h9 (by decide)) (fun _ => ?_)
        refine lv_iconst (v := -1) C0.1 C0.2.1 dX6_event_32 (by decide) ?_
        exact hv_iret C0 w hr hlk (by rw [sp_event, if_neg c_2, if_neg (fun h9 => hb8 h9.2)]; exact ⟨rfl, hX, hv_out.rf⟩) dX6_event_33
    · skip
      refine lv_if_eq (tgt := 32) C0.1 C0.2.1 dX6_event_22 (by decide) (fun _ => ?_) (fun h9 => absurd h9 (by decide))
      refine lv_iconst (v := -1) C0.1 C0.2.1 dX6_event_32 (by decide) ?_
      exact hv_iret C0 w hr hlk (by rw [sp_event, if_neg c_2, if_neg (fun h9 => hb4 h9.1)]; exact ⟨rfl, hX, hv_out.rf⟩) dX6_event_33
  · skip
    refine lv_aload_n C0.1 C0.2.1 dX6_event_5 rfl (lv_at hl 0 rfl) ?_
    refine gf_X6_12 C0 w hX0 rfl dX6_event_6 ?_
    refine gf_X6_210 C0 w hP0 rfl dX6_event_9 ?_
    refine hv_cVi C0 w kl_X6_177 kv_X1_clear rfl hM0 (c_X1_clear hM0 hM1 hM2 hM3) (by decide) (by decide) rfl hl.1 rfl (Nat.le_of_ble_eq_true rfl) dX6_event_12 ⟨Nat.le_refl _, Nat.le_refl _⟩ (fun x12 V13 Hq lq hp14 w => ?_)
    obtain ⟨hp14b, ex9⟩ := hp14
    rw [ex9]; clear ex9
    exact hv_iret C0 w hr hlk (by rw [sp_event, if_pos c_2]; exact ⟨rfl, ⟨kk0, (by rw [hp14b, hv_un (by omega)] : _ = V x).trans hX0, ⟨(by rw [hp14b, hv_un (by omega)] : _ = V (x + 1)).trans hP0, ⟨rf, (by rw [hp14b, hv_un (by omega)] : _ = V (x + 1 + 1)).trans hP1, hP2⟩, fun j9 hj9 => (hP3 j9 hj9).fr (fun q h7 h8 => by rw [hp14b, hv_un (by omega)]), hP4.fr (fun q h7 h8 => by rw [hp14b, hv_un (by omega)]), ok_list.nil (by rw [hp14b]; exact hv_us) ((by rw [hp14b, hv_un (by omega)] : _ = V (x + 1 + 6 + 1)).trans hM1) ((by rw [hp14b, hv_un (by omega)] : _ = V (x + 1 + 6 + 2)).trans hM2) ((by rw [hp14b, hv_un (by omega)] : _ = V (x + 1 + 6 + 3)).trans hM3), hP6.fr (fun q h7 h8 => by rw [hp14b, hv_un (by omega)])⟩, hKp.fr (fun q h7 h8 => by rw [hp14b, hv_un (by omega)]), hTx.fr (fun q h7 h8 => by rw [hp14b, hv_un (by omega)]), hTp.fr (by rw [hp14b, hv_un (by omega)]) (fun q h7 h8 => by rw [hp14b, hv_un (by omega)]), hSc.fr (fun q h7 h8 => by rw [hp14b, hv_un (by omega)]) (fun q h7 h8 => by rw [hp14b, hv_un (by omega)])⟩, (fun q h7 => by rw [hp14b, hv_un (by omega)])⟩) dX6_event_15

set_option maxHeartbeats 4000000 in
set_option maxRecDepth 100000 in
theorem m_X6_tape {l : Launch} {X : hv_X} {V : hv_V} {x : Nat} {σ : hs_S} (hX : okX X V x σ) (hB : hs_b σ) {t so n : Int32} : hv_Mi l X 6 yX6_tape cX6_tape 4 .int V [.ref x, .int t, .int so, .int n] (fun y V1 => y = (sp_tape σ t so n).1 ∧ okX X V1 x (sp_tape σ t so n).2 ∧ hv_out V V1 x (x + 92)) := by
  refine hv_enter (by decide) (Nat.le_of_ble_eq_true rfl) ?_
  intro p e s m below meth c ls C0 hr hlk hnm w hl
  have hl : lv_has ls 4 [(0, .ref x), (1, .int t), (2, .int so), (3, .int n)] := hl
  obtain ⟨kk0, hX0, hPg, hKp, hTx, hTp, hSc⟩ := id hX
  obtain ⟨hP0, ⟨rf, hP1, hP2⟩, hP3, hP4, hP5, hP6⟩ := id hPg
  obtain ⟨⟨tf, hT1, hT2⟩, hT3⟩ := id hTp
  obtain ⟨⟨tk, tn, tg, hS1, hS2⟩, ⟨LF, hS3⟩, ⟨RF, hS4⟩, ⟨bf, hS5, hS6⟩, hS7, uf, hS8⟩ := id hSc
  have hbR := hB.1.1
  obtain ⟨sf, sg, sh, hL0, hL1, hL2, hL3, hLa⟩ := id hP4
  obtain ⟨ef, eg, eh, hM0, hM1, hM2, hM3, hMa⟩ := id hP5
  obtain ⟨kf, kg, kh, hK0, hK1, hK2, hK3, hKa⟩ := id hP6
  obtain ⟨pl, cl, wd, vl, hQ0, hQ1, hQ2, hQ3⟩ := id hTx
  refine lv_iload_n C0.1 C0.2.1 dX6_tape_0 rfl (lv_at hl 1 rfl) ?_
  refine hv_cSi (As := [.int t]) C0 w kl_X6_232 ks_X6_isTape (c_X6_isTape) (by decide) (by decide) rfl hl.1 rfl (Nat.le_of_ble_eq_true rfl) dX6_tape_1 ⟨Nat.le_refl _, Nat.le_refl _⟩ (fun x1 V2 Hq lq hp3 w => ?_)
  obtain ⟨e9, hz9⟩ := hp3
  rw [e9] at w; clear e9
  rcases hz9 with ⟨rfl, hb4⟩ | ⟨rfl, hb4⟩
  · skip
    have ihb4 := hb4
    obtain ⟨j1, hj1, rfl⟩ := sp_inN (k := 5) (by decide) hb4
    have kj1 : (nI j1).toNatClampNeg = j1 := nI_clamp (by omega)
    have hA_j1 := (hT3 j1 hj1).1
    have hI_j1 := (hT3 j1 hj1).2
    have hz_j1 : σ.2.2.2.2.1 j1 ≤ 60 := (hB.2.2.2.2 j1 hj1).2.1
    refine lv_if_ne (tgt := 9) C0.1 C0.2.1 dX6_tape_4 (by decide) (fun _ => ?_) (fun h9 => absurd h9 (by decide))
    refine lv_iload_n C0.1 C0.2.1 dX6_tape_9 rfl (lv_at hl 2 rfl) ?_
    refine lv_iconst (v := -1) C0.1 C0.2.1 dX6_tape_10 (by decide) ?_
    refine lv_icmp_ne (tgt := 27) C0.1 C0.2.1 dX6_tape_11 (by decide) (fun c_11 => ?_) (fun c_11 => ?_)
    · skip
      refine lv_iload_n C0.1 C0.2.1 dX6_tape_27 rfl (lv_at hl 2 rfl) ?_
      refine lv_iconst (v := 0) C0.1 C0.2.1 dX6_tape_28 (by decide) ?_
      refine lv_iconst (v := 4) C0.1 C0.2.1 dX6_tape_29 (by decide) ?_
      refine hv_cSi (As := [.int so, .int 0, .int 4]) C0 w kl_X6_68 ks_X6_within (c_X6_within) (by decide) (by decide) rfl hl.1 rfl (Nat.le_of_ble_eq_true rfl) dX6_tape_30 ⟨Nat.le_refl _, Nat.le_refl _⟩ (fun x5 V6 Hq lq hp7 w => ?_)
      obtain ⟨e9, hz9⟩ := hp7
      rw [e9] at w; clear e9
      rcases hz9 with ⟨rfl, hb8⟩ | ⟨rfl, hb8⟩
      · skip
        refine lv_if_eq (tgt := 42) C0.1 C0.2.1 dX6_tape_33 (by decide) (fun h9 => absurd h9 (by decide)) (fun _ => ?_)
        refine lv_iload_n C0.1 C0.2.1 dX6_tape_36 rfl (lv_at hl 3 rfl) ?_
        refine lv_bipush (v := 60) C0.1 C0.2.1 dX6_tape_37 (by decide) ?_
        refine lv_icmp_le (tgt := 45) C0.1 C0.2.1 dX6_tape_39 (by decide) (fun c_39 => ?_) (fun c_39 => ?_)
        · skip
          refine lv_iload_n C0.1 C0.2.1 dX6_tape_45 rfl (lv_at hl 3 rfl) ?_
          refine lv_if_ge (tgt := 52) C0.1 C0.2.1 dX6_tape_46 (by decide) (fun c_46 => ?_) (fun c_46 => ?_)
          · skip
            have h46 := c_46
            obtain ⟨n1, hn1, rfl⟩ := sp_inN (k := 60) (by decide) ⟨c_46, c_39⟩
            have kn1 : (nI n1).toNatClampNeg = n1 := nI_clamp (by omega)
            refine lv_aload_n C0.1 C0.2.1 dX6_tape_52 rfl (lv_at hl 0 rfl) ?_
            refine gf_X6_30 C0 w hX0 rfl dX6_tape_53 ?_
            refine lv_iload_n C0.1 C0.2.1 dX6_tape_56 rfl (lv_at hl 1 rfl) ?_
            refine hv_aald 4 C0 w rfl hT1 (hn_in hj1 (by decide)) (by rw [kj1]; exact hT2 j1 hj1) dX6_tape_57 ?_
            refine lv_iload_n C0.1 C0.2.1 dX6_tape_58 rfl (lv_at hl 2 rfl) ?_
            refine lv_iload_n C0.1 C0.2.1 dX6_tape_59 rfl (lv_at hl 3 rfl) ?_
            refine hv_cVv C0 w kl_X6_252 kv_X5_clear rfl hA_j1 (c_X5_clear (so2 := so) (n2 := n1) hA_j1 hI_j1) (by decide) (by decide) rfl hl.1 rfl (Nat.le_of_ble_eq_true rfl) dX6_tape_60 ⟨Nat.le_refl _, Nat.le_refl _⟩ (fun V10 Hq lq hp11 w => ?_)
            refine lv_iconst (v := 1) C0.1 C0.2.1 dX6_tape_63 (by decide) ?_
            exact hv_iret C0 w hr hlk (by rw [sp_tape, if_pos ihb4, if_neg c_11, if_pos ⟨hb8, c_39⟩, if_neg (fun h9 => absurd h46 (Int32.not_le.mpr h9)), kj1, kn1]; exact ⟨rfl, ⟨kk0, (by rw [hp11, hv_un (by omega), hv_un (by omega)] : _ = V x).trans hX0, hPg.fr (fun q h7 h8 => by rw [hp11, hv_un (by omega), hv_un (by omega)]), hKp.fr (fun q h7 h8 => by rw [hp11, hv_un (by omega), hv_un (by omega)]), hTx.fr (fun q h7 h8 => by rw [hp11, hv_un (by omega), hv_un (by omega)]), hTp.set hj1 (by rw [hp11, hv_un (by omega), hv_un (by omega)]) (by rw [hp11, hv_un (by omega)]; exact hv_us) (by rw [hp11]; exact hv_us) (fun q h7 h8 => by rw [hp11, hv_un (by omega), hv_un (by omega)]) (fun q h7 h8 => by rw [hp11, hv_un (by omega), hv_un (by omega)]), hSc.fr (fun q h7 h8 => by rw [hp11, hv_un (by omega), hv_un (by omega)]) (fun q h7 h8 => by rw [hp11, hv_un (by omega), hv_un (by omega)])⟩, (fun q h7 => by rw [hp11, hv_un (by omega), hv_un (by omega)])⟩) dX6_tape_64
          · skip
            refine lv_bipush (v := -14) C0.1 C0.2.1 dX6_tape_49 (by decide) ?_
            exact hv_iret C0 w hr hlk (by rw [sp_tape, if_pos ihb4, if_neg c_11, if_pos ⟨hb8, c_39⟩, if_pos (Int32.not_le.mp c_46)]; exact ⟨rfl, hX, hv_out.rf⟩) dX6_tape_51
        · skip
          refine lv_bipush (v := -2) C0.1 C0.2.1 dX6_tape_42 (by decide) ?_
          exact hv_iret C0 w hr hlk (by rw [sp_tape, if_pos ihb4, if_neg c_11, if_neg (fun h9 => c_39 h9.2)]; exact ⟨rfl, hX, hv_out.rf⟩) dX6_tape_44
      · skip
        refine lv_if_eq (tgt := 42) C0.1 C0.2.1 dX6_tape_33 (by decide) (fun _ => ?_) (fun h9 => absurd h9 (by decide))
        refine lv_bipush (v := -2) C0.1 C0.2.1 dX6_tape_42 (by decide) ?_
        exact hv_iret C0 w hr hlk (by rw [sp_tape, if_pos ihb4, if_neg c_11, if_neg (fun h9 => hb8 h9.1)]; exact ⟨rfl, hX, hv_out.rf⟩) dX6_tape_44
    · skip
      refine lv_aload_n C0.1 C0.2.1 dX6_tape_14 rfl (lv_at hl 0 rfl) ?_
      refine gf_X6_30 C0 w hX0 rfl dX6_tape_15 ?_
      refine lv_iload_n C0.1 C0.2.1 dX6_tape_18 rfl (lv_at hl 1 rfl) ?_
      refine hv_aald 4 C0 w rfl hT1 (hn_in hj1 (by decide)) (by rw [kj1]; exact hT2 j1 hj1) dX6_tape_19 ?_
      refine lv_iconst (v := -1) C0.1 C0.2.1 dX6_tape_20 (by decide) ?_
      refine lv_iconst (v := 0) C0.1 C0.2.1 dX6_tape_21 (by decide) ?_
      refine hv_cVv C0 w kl_X6_252 kv_X5_clear rfl hA_j1 (c_X5_clear (so2 := (-1)) (n2 := 0) hA_j1 hI_j1) (by decide) (by decide) rfl hl.1 rfl (Nat.le_of_ble_eq_true rfl) dX6_tape_22 ⟨Nat.le_refl _, Nat.le_refl _⟩ (fun V13 Hq lq hp14 w => ?_)
      refine lv_iconst (v := 1) C0.1 C0.2.1 dX6_tape_25 (by decide) ?_
      exact hv_iret C0 w hr hlk (by rw [sp_tape, if_pos ihb4, if_pos c_11, kj1]; exact ⟨rfl, ⟨kk0, (by rw [hp14, hv_un (by omega), hv_un (by omega)] : _ = V x).trans hX0, hPg.fr (fun q h7 h8 => by rw [hp14, hv_un (by omega), hv_un (by omega)]), hKp.fr (fun q h7 h8 => by rw [hp14, hv_un (by omega), hv_un (by omega)]), hTx.fr (fun q h7 h8 => by rw [hp14, hv_un (by omega), hv_un (by omega)]), hTp.set hj1 (by rw [hp14, hv_un (by omega), hv_un (by omega)]) (by rw [hp14, hv_un (by omega)]; exact hv_us) (by rw [hp14]; exact hv_us) (fun q h7 h8 => by rw [hp14, hv_un (by omega), hv_un (by omega)]) (fun q h7 h8 => by rw [hp14, hv_un (by omega), hv_un (by omega)]), hSc.fr (fun q h7 h8 => by rw [hp14, hv_un (by omega), hv_un (by omega)]) (fun q h7 h8 => by rw [hp14, hv_un (by omega), hv_un (by omega)])⟩, (fun q h7 => by rw [hp14, hv_un (by omega), hv_un (by omega)])⟩) dX6_tape_26
  · skip
    refine lv_if_ne (tgt := 9) C0.1 C0.2.1 dX6_tape_4 (by decide) (fun h9 => absurd h9 (by decide)) (fun _ => ?_)
    refine lv_iconst (v := -1) C0.1 C0.2.1 dX6_tape_7 (by decide) ?_
    exact hv_iret C0 w hr hlk (by rw [sp_tape, if_neg hb4]; exact ⟨rfl, hX, hv_out.rf⟩) dX6_tape_8

set_option maxHeartbeats 4000000 in
set_option maxRecDepth 100000 in
theorem m_X6_item {l : Launch} {X : hv_X} {V : hv_V} {x : Nat} {σ : hs_S} (hX : okX X V x σ) (hB : hs_b σ) {t i : Int32} {v : Int64} : hv_Mi l X 6 yX6_item cX6_item 5 .int V [.ref x, .int t, .int i, .long v] (fun y V1 => y = (sp_itm σ t i v).1 ∧ okX X V1 x (sp_itm σ t i v).2 ∧ hv_out V V1 x (x + 92)) := by
  refine hv_enter (by decide) (Nat.le_of_ble_eq_true rfl) ?_
  intro p e s m below meth c ls C0 hr hlk hnm w hl
  have hl : lv_has ls 5 [(0, .ref x), (1, .int t), (2, .int i), (3, .long v)] := hl
  obtain ⟨kk0, hX0, hPg, hKp, hTx, hTp, hSc⟩ := id hX
  obtain ⟨hP0, ⟨rf, hP1, hP2⟩, hP3, hP4, hP5, hP6⟩ := id hPg
  obtain ⟨⟨tf, hT1, hT2⟩, hT3⟩ := id hTp
  obtain ⟨⟨tk, tn, tg, hS1, hS2⟩, ⟨LF, hS3⟩, ⟨RF, hS4⟩, ⟨bf, hS5, hS6⟩, hS7, uf, hS8⟩ := id hSc
  have hbR := hB.1.1
  obtain ⟨sf, sg, sh, hL0, hL1, hL2, hL3, hLa⟩ := id hP4
  obtain ⟨ef, eg, eh, hM0, hM1, hM2, hM3, hMa⟩ := id hP5
  obtain ⟨kf, kg, kh, hK0, hK1, hK2, hK3, hKa⟩ := id hP6
  obtain ⟨pl, cl, wd, vl, hQ0, hQ1, hQ2, hQ3⟩ := id hTx
  refine lv_iload_n C0.1 C0.2.1 dX6_item_0 rfl (lv_at hl 1 rfl) ?_
  refine hv_cSi (As := [.int t]) C0 w kl_X6_232 ks_X6_isTape (c_X6_isTape) (by decide) (by decide) rfl hl.1 rfl (Nat.le_of_ble_eq_true rfl) dX6_item_1 ⟨Nat.le_refl _, Nat.le_refl _⟩ (fun x1 V2 Hq lq hp3 w => ?_)
  obtain ⟨e9, hz9⟩ := hp3
  rw [e9] at w; clear e9
  rcases hz9 with ⟨rfl, hb4⟩ | ⟨rfl, hb4⟩
  · skip
    have ihb4 := hb4
    obtain ⟨j1, hj1, rfl⟩ := sp_inN (k := 5) (by decide) hb4
    have kj1 : (nI j1).toNatClampNeg = j1 := nI_clamp (by omega)
    have hA_j1 := (hT3 j1 hj1).1
    have hI_j1 := (hT3 j1 hj1).2
    have hz_j1 : σ.2.2.2.2.1 j1 ≤ 60 := (hB.2.2.2.2 j1 hj1).2.1
    refine lv_if_ne (tgt := 9) C0.1 C0.2.1 dX6_item_4 (by decide) (fun _ => ?_) (fun h9 => absurd h9 (by decide))
    refine lv_aload_n C0.1 C0.2.1 dX6_item_9 rfl (lv_at hl 0 rfl) ?_
    refine gf_X6_30 C0 w hX0 rfl dX6_item_10 ?_
    refine lv_iload_n C0.1 C0.2.1 dX6_item_13 rfl (lv_at hl 1 rfl) ?_
    refine hv_aald 4 C0 w rfl hT1 (hn_in hj1 (by decide)) (by rw [kj1]; exact hT2 j1 hj1) dX6_item_14 ?_
    refine gf_X6_235 C0 w hA_j1 rfl dX6_item_15 ?_
    refine lv_iconst (v := -1) C0.1 C0.2.1 dX6_item_18 (by decide) ?_
    refine lv_icmp_ne (tgt := 25) C0.1 C0.2.1 dX6_item_19 (by decide) (fun c_19 => ?_) (fun c_19 => ?_)
    · skip
      refine lv_aload_n C0.1 C0.2.1 dX6_item_25 rfl (lv_at hl 0 rfl) ?_
      refine gf_X6_30 C0 w hX0 rfl dX6_item_26 ?_
      refine lv_iload_n C0.1 C0.2.1 dX6_item_29 rfl (lv_at hl 1 rfl) ?_
      refine hv_aald 4 C0 w rfl hT1 (hn_in hj1 (by decide)) (by rw [kj1]; exact hT2 j1 hj1) dX6_item_30 ?_
      refine lv_iload_n C0.1 C0.2.1 dX6_item_31 rfl (lv_at hl 2 rfl) ?_
      refine lv_lload_n C0.1 C0.2.1 dX6_item_32 rfl (lv_at hl 3 rfl) ?_
      refine hv_cVi C0 w kl_X6_255 kv_X5_put rfl hA_j1 (c_X5_put hA_j1 hI_j1 hz_j1) (by decide) (by decide) rfl hl.1 rfl (Nat.le_of_ble_eq_true rfl) dX6_item_33 ⟨Nat.le_refl _, Nat.le_refl _⟩ (fun x5 V6 Hq lq hp7 w => ?_)
      obtain ⟨i9, hi9, ei9, ex9, hp7b⟩ | ⟨hge9, ex9, hp7b⟩ := hp7
      · skip
        rw [ex9]; clear ex9
        refine lv_if_eq (tgt := 43) C0.1 C0.2.1 dX6_item_36 (by decide) (fun h9 => absurd h9 (by decide)) (fun _ => ?_)
        refine lv_iconst (v := 1) C0.1 C0.2.1 dX6_item_39 (by decide) ?_
        refine lv_goto (tgt := 45) C0.1 C0.2.1 dX6_item_40 (by decide) ?_
        exact hv_iret C0 w hr hlk (by rw [sp_itm, if_pos ihb4, kj1, if_neg c_19, if_pos (show ¬ (_ ∨ _) by rw [ei9]; exact nI_in hi9 (by omega)), show i.toNatClampNeg = i9 from by rw [ei9]; exact nI_clamp (by omega)]; exact ⟨rfl, ⟨kk0, (by rw [hp7b, hv_un (by omega)] : _ = V x).trans hX0, hPg.fr (fun q h7 h8 => by rw [hp7b, hv_un (by omega)]), hKp.fr (fun q h7 h8 => by rw [hp7b, hv_un (by omega)]), hTx.fr (fun q h7 h8 => by rw [hp7b, hv_un (by omega)]), hTp.set hj1 (by rw [hp7b, hv_un (by omega)]) ((by rw [hp7b, hv_un (by omega)] : _ = V (x + 64 + 2 * j1)).trans hA_j1) (by rw [hp7b]; exact hv_us) (fun q h7 h8 => by rw [hp7b, hv_un (by omega)]) (fun q h7 h8 => by rw [hp7b, hv_un (by omega)]), hSc.fr (fun q h7 h8 => by rw [hp7b, hv_un (by omega)]) (fun q h7 h8 => by rw [hp7b, hv_un (by omega)])⟩, (fun q h7 => by rw [hp7b, hv_un (by omega)])⟩) dX6_item_45
      · skip
        rw [hp7b] at w; rw [ex9]; clear ex9
        refine lv_if_eq (tgt := 43) C0.1 C0.2.1 dX6_item_36 (by decide) (fun _ => ?_) (fun h9 => absurd h9 (by decide))
        refine lv_bipush (v := -13) C0.1 C0.2.1 dX6_item_43 (by decide) ?_
        exact hv_iret C0 w hr hlk (by rw [sp_itm, if_pos ihb4, kj1, if_neg c_19, if_neg (show ¬ ¬ (_ ∨ _) from hge9)]; exact ⟨rfl, hX, hv_out.rf⟩) dX6_item_45
    · skip
      refine lv_bipush (v := -11) C0.1 C0.2.1 dX6_item_22 (by decide) ?_
      exact hv_iret C0 w hr hlk (by rw [sp_itm, if_pos ihb4, kj1, if_pos c_19]; exact ⟨rfl, hX, hv_out.rf⟩) dX6_item_24
  · skip
    refine lv_if_ne (tgt := 9) C0.1 C0.2.1 dX6_item_4 (by decide) (fun h9 => absurd h9 (by decide)) (fun _ => ?_)
    refine lv_iconst (v := -1) C0.1 C0.2.1 dX6_item_7 (by decide) ?_
    exact hv_iret C0 w hr hlk (by rw [sp_itm, if_neg hb4]; exact ⟨rfl, hX, hv_out.rf⟩) dX6_item_8

