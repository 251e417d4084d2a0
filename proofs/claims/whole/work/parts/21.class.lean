set_option maxHeartbeats 4000000 in
set_option maxRecDepth 100000 in
theorem m_X6_begin {l : Launch} {X : hv_X} {V : hv_V} {x : Nat} {σ : hs_S} (hX : okX X V x σ) (hB : hs_b σ) {r k : Int32} : hv_Mi l X 6 yX6_begin cX6_begin 4 .int V [.ref x, .int r, .int k] (fun y V1 => y = (sp_begin σ r k).1 ∧ okX X V1 x (sp_begin σ r k).2 ∧ hv_out V V1 x (x + 92)) := by
  refine hv_enter (by decide) (Nat.le_of_ble_eq_true rfl) ?_
  intro p e s m below meth c ls C0 hr hlk hnm w hl
  have hl : lv_has ls 4 [(0, .ref x), (1, .int r), (2, .int k)] := hl
  obtain ⟨kk0, hX0, hPg, hKp, hTx, hTp, hSc⟩ := id hX
  obtain ⟨hP0, ⟨rf, hP1, hP2⟩, hP3, hP4, hP5, hP6⟩ := id hPg
  obtain ⟨⟨tf, hT1, hT2⟩, hT3⟩ := id hTp
  obtain ⟨⟨tk, tn, tg, hS1, hS2⟩, ⟨LF, hS3⟩, ⟨RF, hS4⟩, ⟨bf, hS5, hS6⟩, hS7, uf, hS8⟩ := id hSc
  have hbR := hB.1.1
  refine lv_iload_n C0.1 C0.2.1 dX6_begin_0 rfl (lv_at hl 1 rfl) ?_
  refine hv_cSi (As := [.int r]) C0 w kl_X6_60 ks_X6_isRow (c_X6_isRow) (by decide) (by decide) rfl hl.1 rfl (Nat.le_of_ble_eq_true rfl) dX6_begin_1 ⟨Nat.le_refl _, Nat.le_refl _⟩ (fun x1 V2 Hq lq hp3 w => ?_)
  obtain ⟨e9, hz9⟩ := hp3
  rw [e9] at w; clear e9
  rcases hz9 with ⟨rfl, hb4⟩ | ⟨rfl, hb4⟩
  · skip
    have ihb4 := hb4
    obtain ⟨j1, hj1, rfl⟩ := sp_inN (k := 5) (by decide) hb4
    have kj1 : (nI j1).toNatClampNeg = j1 := nI_clamp (by omega)
    have hR_j1 : V (x + 1 + 14 + 2 * j1) = some (rE (σ.1.1.1 j1) (σ.1.1.2.1 j1) (x + 1 + 14 + 2 * j1 + 1)) := (hP3 j1 hj1).1
    have hN_j1 : V (x + 1 + 14 + 2 * j1 + 1) = some (nE X (σ.1.1.2.2 j1)) := (hP3 j1 hj1).2
    have hn_j1 : σ.1.1.2.1 j1 ≤ 16 := (hbR j1 hj1).2.1
    refine lv_if_eq (tgt := 14) C0.1 C0.2.1 dX6_begin_4 (by decide) (fun h9 => absurd h9 (by decide)) (fun _ => ?_)
    refine lv_iload_n C0.1 C0.2.1 dX6_begin_7 rfl (lv_at hl 2 rfl) ?_
    refine hv_cSi (As := [.int k]) C0 w kl_X6_64 ks_X6_isKind (c_X6_isKind) (by decide) (by decide) rfl hl.1 rfl (Nat.le_of_ble_eq_true rfl) dX6_begin_8 ⟨Nat.le_refl _, Nat.le_refl _⟩ (fun x5 V6 Hq lq hp7 w => ?_)
    obtain ⟨e9, hz9⟩ := hp7
    rw [e9] at w; clear e9
    rcases hz9 with ⟨rfl, hb8⟩ | ⟨rfl, hb8⟩
    · skip
      refine lv_if_ne (tgt := 16) C0.1 C0.2.1 dX6_begin_11 (by decide) (fun _ => ?_) (fun h9 => absurd h9 (by decide))
      refine lv_aload_n C0.1 C0.2.1 dX6_begin_16 rfl (lv_at hl 0 rfl) ?_
      refine gf_X6_12 C0 w hX0 rfl dX6_begin_17 ?_
      refine gf_X6_76 C0 w hP0 rfl dX6_begin_20 ?_
      refine lv_iload_n C0.1 C0.2.1 dX6_begin_23 rfl (lv_at hl 1 rfl) ?_
      refine hv_aald 3 C0 w rfl hP1 (hn_in hj1 (by decide)) (by rw [kj1]; exact hP2 j1 hj1) dX6_begin_24 ?_
      refine gf_X6_88 C0 w hR_j1 rfl dX6_begin_25 ?_
      refine lv_istore_n (lv' := [(3, .int (nI (σ.1.1.2.1 j1))), (0, .ref x), (1, .int (nI j1)), (2, .int k)]) C0.1 C0.2.1 dX6_begin_28 rfl hl (by decide) rfl (fun ls hl => ?_)
      refine lv_aload_n C0.1 C0.2.1 dX6_begin_29 rfl (lv_at hl 1 rfl) ?_
      refine gf_X6_12 C0 w hX0 rfl dX6_begin_30 ?_
      refine gf_X6_76 C0 w hP0 rfl dX6_begin_33 ?_
      refine lv_iload_n C0.1 C0.2.1 dX6_begin_36 rfl (lv_at hl 2 rfl) ?_
      refine hv_aald 3 C0 w rfl hP1 (hn_in hj1 (by decide)) (by rw [kj1]; exact hP2 j1 hj1) dX6_begin_37 ?_
      refine lv_iload_n C0.1 C0.2.1 dX6_begin_38 rfl (lv_at hl 3 rfl) ?_
      refine hv_cVv C0 w kl_X6_92 kv_X3_clear rfl hR_j1 (c_X3_clear hR_j1 hN_j1) (by decide) (by decide) rfl hl.1 rfl (Nat.le_of_ble_eq_true rfl) dX6_begin_39 ⟨Nat.le_refl _, Nat.le_refl _⟩ (fun V10 Hq lq hp11 w => ?_)
      have hV12 : V10 x = some (.inr (6, [.ref (x + 1), .ref (x + 27), .int kk0, .ref (x + 53), .ref (x + 57), .ref (x + 58), .ref (x + 60), .ref (x + 61), .ref (x + 62), .ref (x + 63)])) := by rw [hp11, hv_un (by omega)]; exact hX0
      have hV13 : V10 (x + 1) = some (.inr (2, [.ref (x + 1 + 1), .ref (x + 1 + 2), .ref (x + 1 + 6), .ref (x + 1 + 10)])) := by rw [hp11, hv_un (by omega)]; exact hP0
      have hV14 : V10 (x + 1 + 1) = some (.inl (X.2.1 3, 6, .inr (.inr (.inr (.inr rf))))) := by rw [hp11, hv_un (by omega)]; exact hP1
      have hV15 : V10 (x + 57) = some (.inl (X.2.1 4, 6, .inr (.inr (.inr (.inr tf))))) := by rw [hp11, hv_un (by omega)]; exact hT1
      have hV16 : V10 (x + 60) = some (fE LF) := by rw [hp11, hv_un (by omega)]; exact hS3
      have hV17 : V10 (x + 61) = some (fE RF) := by rw [hp11, hv_un (by omega)]; exact hS4
      have hV18 : V10 (x + 58) = some (rE tk tn (x + 58 + 1)) := by rw [hp11, hv_un (by omega)]; exact hS1
      have hV19 : V10 (x + 58 + 1) = some (nE X tg) := by rw [hp11, hv_un (by omega)]; exact hS2
      have hV21 : V10 (x + 1 + 14 + 2 * j1 + 1) = some (nE X (σ.1.1.2.2 j1)) := by rw [hp11, hv_un (by omega)]; exact hN_j1
      have hV22 : V10 (x + 1 + 14 + 2 * j1) = some (rE k 0 (x + 1 + 14 + 2 * j1 + 1)) := by rw [hp11]; exact hv_us
      refine lv_iload_n C0.1 C0.2.1 dX6_begin_42 rfl (lv_at hl 0 rfl) ?_
      exact hv_iret C0 w hr hlk (by rw [sp_begin, if_pos ⟨ihb4, hb8⟩, kj1]; exact ⟨rfl, ⟨kk0, (by rw [hp11, hv_un (by omega)] : _ = V x).trans hX0, hPg.row hj1 ⟨by rw [hp11]; exact hv_us, (by rw [hp11, hv_un (by omega)] : _ = V (x + 1 + 14 + 2 * j1 + 1)).trans hN_j1⟩ (fun q h7 h8 => by rw [hp11, hv_un (by omega)]) (fun q h7 h8 => by rw [hp11, hv_un (by omega)]), hKp.fr (fun q h7 h8 => by rw [hp11, hv_un (by omega)]), hTx.fr (fun q h7 h8 => by rw [hp11, hv_un (by omega)]), hTp.fr (by rw [hp11, hv_un (by omega)]) (fun q h7 h8 => by rw [hp11, hv_un (by omega)]), hSc.fr (fun q h7 h8 => by rw [hp11, hv_un (by omega)]) (fun q h7 h8 => by rw [hp11, hv_un (by omega)])⟩, (fun q h7 => by rw [hp11, hv_un (by omega)])⟩) dX6_begin_43
    · skip
      refine lv_if_ne (tgt := 16) C0.1 C0.2.1 dX6_begin_11 (by decide) (fun h9 => absurd h9 (by decide)) (fun _ => ?_)
      refine lv_iconst (v := -1) C0.1 C0.2.1 dX6_begin_14 (by decide) ?_
      exact hv_iret C0 w hr hlk (by rw [sp_begin, if_neg (fun h9 => hb8 h9.2)]; exact ⟨rfl, hX, hv_out.rf⟩) dX6_begin_15
  · skip
    refine lv_if_eq (tgt := 14) C0.1 C0.2.1 dX6_begin_4 (by decide) (fun _ => ?_) (fun h9 => absurd h9 (by decide))
    refine lv_iconst (v := -1) C0.1 C0.2.1 dX6_begin_14 (by decide) ?_
    exact hv_iret C0 w hr hlk (by rw [sp_begin, if_neg (fun h9 => hb4 h9.1)]; exact ⟨rfl, hX, hv_out.rf⟩) dX6_begin_15

set_option maxHeartbeats 4000000 in
set_option maxRecDepth 100000 in
theorem m_X6_of {l : Launch} {X : hv_X} {V : hv_V} {x : Nat} {σ : hs_S} (hX : okX X V x σ) (hB : hs_b σ) {r i : Int32} : hv_Mi l X 6 yX6_of cX6_of 4 .int V [.ref x, .int r, .int i] (fun y V1 => y = sp_of σ r i ∧ okX X V1 x σ ∧ hv_out V V1 x (x + 92)) := by
  refine hv_enter (by decide) (Nat.le_of_ble_eq_true rfl) ?_
  intro p e s m below meth c ls C0 hr hlk hnm w hl
  have hl : lv_has ls 4 [(0, .ref x), (1, .int r), (2, .int i)] := hl
  obtain ⟨kk0, hX0, hPg, hKp, hTx, hTp, hSc⟩ := id hX
  obtain ⟨hP0, ⟨rf, hP1, hP2⟩, hP3, hP4, hP5, hP6⟩ := id hPg
  obtain ⟨⟨tf, hT1, hT2⟩, hT3⟩ := id hTp
  obtain ⟨⟨tk, tn, tg, hS1, hS2⟩, ⟨LF, hS3⟩, ⟨RF, hS4⟩, ⟨bf, hS5, hS6⟩, hS7, uf, hS8⟩ := id hSc
  have hbR := hB.1.1
  refine lv_iload_n C0.1 C0.2.1 dX6_of_0 rfl (lv_at hl 1 rfl) ?_
  refine hv_cSi (As := [.int r]) C0 w kl_X6_60 ks_X6_isRow (c_X6_isRow) (by decide) (by decide) rfl hl.1 rfl (Nat.le_of_ble_eq_true rfl) dX6_of_1 ⟨Nat.le_refl _, Nat.le_refl _⟩ (fun x1 V2 Hq lq hp3 w => ?_)
  obtain ⟨e9, hz9⟩ := hp3
  rw [e9] at w; clear e9
  rcases hz9 with ⟨rfl, hb4⟩ | ⟨rfl, hb4⟩
  · skip
    have ihb4 := hb4
    obtain ⟨j1, hj1, rfl⟩ := sp_inN (k := 5) (by decide) hb4
    have kj1 : (nI j1).toNatClampNeg = j1 := nI_clamp (by omega)
    have hR_j1 : V (x + 1 + 14 + 2 * j1) = some (rE (σ.1.1.1 j1) (σ.1.1.2.1 j1) (x + 1 + 14 + 2 * j1 + 1)) := (hP3 j1 hj1).1
    have hN_j1 : V (x + 1 + 14 + 2 * j1 + 1) = some (nE X (σ.1.1.2.2 j1)) := (hP3 j1 hj1).2
    have hn_j1 : σ.1.1.2.1 j1 ≤ 16 := (hbR j1 hj1).2.1
    refine lv_if_eq (tgt := 11) C0.1 C0.2.1 dX6_of_4 (by decide) (fun h9 => absurd h9 (by decide)) (fun _ => ?_)
    refine lv_iload_n C0.1 C0.2.1 dX6_of_7 rfl (lv_at hl 2 rfl) ?_
    refine lv_if_ge (tgt := 13) C0.1 C0.2.1 dX6_of_8 (by decide) (fun c_8 => ?_) (fun c_8 => ?_)
    · skip
      refine lv_aload_n C0.1 C0.2.1 dX6_of_13 rfl (lv_at hl 0 rfl) ?_
      refine gf_X6_12 C0 w hX0 rfl dX6_of_14 ?_
      refine gf_X6_76 C0 w hP0 rfl dX6_of_17 ?_
      refine lv_iload_n C0.1 C0.2.1 dX6_of_20 rfl (lv_at hl 1 rfl) ?_
      refine hv_aald 3 C0 w rfl hP1 (hn_in hj1 (by decide)) (by rw [kj1]; exact hP2 j1 hj1) dX6_of_21 ?_
      refine lv_astore_n (lv' := [(3, .ref (x + 1 + 14 + 2 * j1)), (0, .ref x), (1, .int (nI j1)), (2, .int i)]) C0.1 C0.2.1 dX6_of_22 rfl hl (by decide) rfl (fun ls hl => ?_)
      refine lv_iload_n C0.1 C0.2.1 dX6_of_23 rfl (lv_at hl 3 rfl) ?_
      refine lv_aload_n C0.1 C0.2.1 dX6_of_24 rfl (lv_at hl 0 rfl) ?_
      refine gf_X6_88 C0 w hR_j1 rfl dX6_of_25 ?_
      refine lv_icmp_ge (tgt := 40) C0.1 C0.2.1 dX6_of_28 (by decide) (fun c_28 => ?_) (fun c_28 => ?_)
      · skip
        refine lv_bipush (v := -5) C0.1 C0.2.1 dX6_of_40 (by decide) ?_
        exact hv_iret C0 w hr hlk (by rw [sp_of, if_pos ⟨ihb4, c_8⟩, kj1, if_neg (Int32.not_lt.mpr c_28)]; exact ⟨rfl, hX, hv_out.rf⟩) dX6_of_42
      · skip
        have hin : vp_in i 16 := fun h9 => h9.elim (fun h8 => absurd c_8 (Int32.not_le.mpr h8)) (fun h8 => absurd (Int32.not_le.mp c_28) (hs_nlt (fun h7 => absurd c_8 (Int32.not_le.mpr h7)) (by omega) (by omega)))
        refine lv_aload_n C0.1 C0.2.1 dX6_of_31 rfl (lv_at hl 0 rfl) ?_
        refine gf_X6_139 C0 w hR_j1 rfl dX6_of_32 ?_
        refine lv_iload_n C0.1 C0.2.1 dX6_of_35 rfl (lv_at hl 3 rfl) ?_
        refine hv_iald C0 w hN_j1 (hin) dX6_of_36 ?_
        refine lv_goto (tgt := 42) C0.1 C0.2.1 dX6_of_37 (by decide) ?_
        exact hv_iret C0 w hr hlk (by rw [sp_of, if_pos ⟨ihb4, c_8⟩, kj1, if_pos (Int32.not_le.mp c_28)]; exact ⟨rfl, hX, hv_out.rf⟩) dX6_of_42
    · skip
      refine lv_iconst (v := -1) C0.1 C0.2.1 dX6_of_11 (by decide) ?_
      exact hv_iret C0 w hr hlk (by rw [sp_of, if_neg (fun h9 => c_8 h9.2)]; exact ⟨rfl, hX, hv_out.rf⟩) dX6_of_12
  · skip
    refine lv_if_eq (tgt := 11) C0.1 C0.2.1 dX6_of_4 (by decide) (fun _ => ?_) (fun h9 => absurd h9 (by decide))
    refine lv_iconst (v := -1) C0.1 C0.2.1 dX6_of_11 (by decide) ?_
    exact hv_iret C0 w hr hlk (by rw [sp_of, if_neg (fun h9 => hb4 h9.1)]; exact ⟨rfl, hX, hv_out.rf⟩) dX6_of_12

set_option maxHeartbeats 4000000 in
set_option maxRecDepth 100000 in
theorem m_X6_worth {l : Launch} {X : hv_X} {V : hv_V} {x : Nat} {σ : hs_S} (hX : okX X V x σ) (hB : hs_b σ) {r k : Int32} : hv_Ml l X 6 yX6_worth cX6_worth 3 V [.ref x, .int r, .int k] (fun y V1 => y = sp_worth σ r k ∧ okX X V1 x σ ∧ hv_out V V1 x (x + 92)) := by
  refine hv_enter (by decide) (Nat.le_of_ble_eq_true rfl) ?_
  intro p e s m below meth c ls C0 hr hlk hnm w hl
  have hl : lv_has ls 3 [(0, .ref x), (1, .int r), (2, .int k)] := hl
  obtain ⟨kk0, hX0, hPg, hKp, hTx, hTp, hSc⟩ := id hX
  obtain ⟨hP0, ⟨rf, hP1, hP2⟩, hP3, hP4, hP5, hP6⟩ := id hPg
  obtain ⟨⟨tf, hT1, hT2⟩, hT3⟩ := id hTp
  obtain ⟨⟨tk, tn, tg, hS1, hS2⟩, ⟨LF, hS3⟩, ⟨RF, hS4⟩, ⟨bf, hS5, hS6⟩, hS7, uf, hS8⟩ := id hSc
  have hbR := hB.1.1
  refine lv_iload_n C0.1 C0.2.1 dX6_worth_0 rfl (lv_at hl 1 rfl) ?_
  refine hv_cSi (As := [.int r]) C0 w kl_X6_60 ks_X6_isRow (c_X6_isRow) (by decide) (by decide) rfl hl.1 rfl (Nat.le_of_ble_eq_true rfl) dX6_worth_1 ⟨Nat.le_refl _, Nat.le_refl _⟩ (fun x1 V2 Hq lq hp3 w => ?_)
  obtain ⟨e9, hz9⟩ := hp3
  rw [e9] at w; clear e9
  rcases hz9 with ⟨rfl, hb4⟩ | ⟨rfl, hb4⟩
  · skip
    have ihb4 := hb4
    obtain ⟨j1, hj1, rfl⟩ := sp_inN (k := 5) (by decide) hb4
    have kj1 : (nI j1).toNatClampNeg = j1 := nI_clamp (by omega)
    have hR_j1 : V (x + 1 + 14 + 2 * j1) = some (rE (σ.1.1.1 j1) (σ.1.1.2.1 j1) (x + 1 + 14 + 2 * j1 + 1)) := (hP3 j1 hj1).1
    have hN_j1 : V (x + 1 + 14 + 2 * j1 + 1) = some (nE X (σ.1.1.2.2 j1)) := (hP3 j1 hj1).2
    have hn_j1 : σ.1.1.2.1 j1 ≤ 16 := (hbR j1 hj1).2.1
    refine lv_if_eq (tgt := 14) C0.1 C0.2.1 dX6_worth_4 (by decide) (fun h9 => absurd h9 (by decide)) (fun _ => ?_)
    refine lv_iload_n C0.1 C0.2.1 dX6_worth_7 rfl (lv_at hl 2 rfl) ?_
    refine hv_cSi (As := [.int k]) C0 w kl_X6_145 ks_X6_isPart (c_X6_isPart) (by decide) (by decide) rfl hl.1 rfl (Nat.le_of_ble_eq_true rfl) dX6_worth_8 ⟨Nat.le_refl _, Nat.le_refl _⟩ (fun x5 V6 Hq lq hp7 w => ?_)
    obtain ⟨e9, hz9⟩ := hp7
    rw [e9] at w; clear e9
    rcases hz9 with ⟨rfl, hb8⟩ | ⟨rfl, hb8⟩
    · skip
      refine lv_if_ne (tgt := 18) C0.1 C0.2.1 dX6_worth_11 (by decide) (fun _ => ?_) (fun h9 => absurd h9 (by decide))
      refine lv_aload_n C0.1 C0.2.1 dX6_worth_18 rfl (lv_at hl 0 rfl) ?_
      refine gf_X6_12 C0 w hX0 rfl dX6_worth_19 ?_
      refine gf_X6_76 C0 w hP0 rfl dX6_worth_22 ?_
      refine lv_iload_n C0.1 C0.2.1 dX6_worth_25 rfl (lv_at hl 1 rfl) ?_
      refine hv_aald 3 C0 w rfl hP1 (hn_in hj1 (by decide)) (by rw [kj1]; exact hP2 j1 hj1) dX6_worth_26 ?_
      refine lv_aload_n C0.1 C0.2.1 dX6_worth_27 rfl (lv_at hl 0 rfl) ?_
      refine gf_X6_12 C0 w hX0 rfl dX6_worth_28 ?_
      refine gf_X6_76 C0 w hP0 rfl dX6_worth_31 ?_
      refine lv_iload_n C0.1 C0.2.1 dX6_worth_34 rfl (lv_at hl 1 rfl) ?_
      refine hv_aald 3 C0 w rfl hP1 (hn_in hj1 (by decide)) (by rw [kj1]; exact hP2 j1 hj1) dX6_worth_35 ?_
      refine gf_X6_88 C0 w hR_j1 rfl dX6_worth_36 ?_
      refine lv_aload_n C0.1 C0.2.1 dX6_worth_39 rfl (lv_at hl 0 rfl) ?_
      refine gf_X6_44 C0 w hX0 rfl dX6_worth_40 ?_
      refine hv_cVv C0 w kl_X6_106 kv_X3_reckon rfl hR_j1 (c_X3_reckon (k := σ.1.1.2.1 j1) hR_j1 hN_j1 hS3 (by omega) (by omega)) (by decide) (by decide) rfl hl.1 rfl (Nat.le_of_ble_eq_true rfl) dX6_worth_43 ⟨Nat.le_refl _, Nat.le_refl _⟩ (fun V10 Hq lq hp11 w => ?_)
      have hV12 : V10 x = some (.inr (6, [.ref (x + 1), .ref (x + 27), .int kk0, .ref (x + 53), .ref (x + 57), .ref (x + 58), .ref (x + 60), .ref (x + 61), .ref (x + 62), .ref (x + 63)])) := by rw [hp11, hv_un (by omega)]; exact hX0
      have hV13 : V10 (x + 1) = some (.inr (2, [.ref (x + 1 + 1), .ref (x + 1 + 2), .ref (x + 1 + 6), .ref (x + 1 + 10)])) := by rw [hp11, hv_un (by omega)]; exact hP0
      have hV14 : V10 (x + 1 + 1) = some (.inl (X.2.1 3, 6, .inr (.inr (.inr (.inr rf))))) := by rw [hp11, hv_un (by omega)]; exact hP1
      have hV15 : V10 (x + 57) = some (.inl (X.2.1 4, 6, .inr (.inr (.inr (.inr tf))))) := by rw [hp11, hv_un (by omega)]; exact hT1
      have hV17 : V10 (x + 61) = some (fE RF) := by rw [hp11, hv_un (by omega)]; exact hS4
      have hV18 : V10 (x + 58) = some (rE tk tn (x + 58 + 1)) := by rw [hp11, hv_un (by omega)]; exact hS1
      have hV19 : V10 (x + 58 + 1) = some (nE X tg) := by rw [hp11, hv_un (by omega)]; exact hS2
      have hV20 : V10 (x + 1 + 14 + 2 * j1) = some (rE (σ.1.1.1 j1) (σ.1.1.2.1 j1) (x + 1 + 14 + 2 * j1 + 1)) := by rw [hp11, hv_un (by omega)]; exact hR_j1
      have hV21 : V10 (x + 1 + 14 + 2 * j1 + 1) = some (nE X (σ.1.1.2.2 j1)) := by rw [hp11, hv_un (by omega)]; exact hN_j1
      have hV22 : V10 (x + 60) = some (fE (fx_reckon (σ.1.1.1 j1) (σ.1.1.2.2 j1) (σ.1.1.2.1 j1))) := by rw [hp11]; exact hv_us
      refine lv_aload_n C0.1 C0.2.1 dX6_worth_46 rfl (lv_at hl 0 rfl) ?_
      refine gf_X6_44 C0 w hV12 rfl dX6_worth_47 ?_
      refine lv_iload_n C0.1 C0.2.1 dX6_worth_50 rfl (lv_at hl 2 rfl) ?_
      refine hv_cVl C0 w kl_X6_150 kv_X0_partOf rfl hV22 (c_X0_partOf hV22) (by decide) (by decide) rfl hl.1 rfl (Nat.le_of_ble_eq_true rfl) dX6_worth_51 ⟨Nat.le_refl _, Nat.le_refl _⟩ (fun x23 V24 Hq lq hp25 w => ?_)
      obtain ⟨e9, e8⟩ := hp25
      rw [e9] at w; rw [e8]; clear e9 e8
      exact hv_lret C0 w hr hlk (by rw [sp_worth, if_pos ⟨ihb4, hb8⟩, kj1]; exact ⟨rfl, ⟨kk0, (by rw [hp11, hv_un (by omega)] : _ = V x).trans hX0, hPg.fr (fun q h7 h8 => by rw [hp11, hv_un (by omega)]), hKp.fr (fun q h7 h8 => by rw [hp11, hv_un (by omega)]), hTx.fr (fun q h7 h8 => by rw [hp11, hv_un (by omega)]), hTp.fr (by rw [hp11, hv_un (by omega)]) (fun q h7 h8 => by rw [hp11, hv_un (by omega)]), hSc.gen ⟨tk, tn, tg, (by rw [hp11, hv_un (by omega)] : _ = V (x + 58)).trans hS1, (by rw [hp11, hv_un (by omega)] : _ = V (x + 58 + 1)).trans hS2⟩ ⟨_, by rw [hp11]; exact hv_us⟩ ⟨RF, (by rw [hp11, hv_un (by omega)] : _ = V (x + 61)).trans hS4⟩ (fun q h7 h8 => by rw [hp11, hv_un (by omega)]) (fun q h7 h8 => by rw [hp11, hv_un (by omega)])⟩, (fun q h7 => by rw [hp11, hv_un (by omega)])⟩) dX6_worth_54
    · skip
      refine lv_if_ne (tgt := 18) C0.1 C0.2.1 dX6_worth_11 (by decide) (fun h9 => absurd h9 (by decide)) (fun _ => ?_)
      refine lv_ldc2 C0.1 C0.2.1 C0.2.2.2.1 (C0.2.2.2.2.1 _ kk_X6_148) dX6_worth_14 ?_
      exact hv_lret C0 w hr hlk (by rw [sp_worth, if_neg (fun h9 => hb8 h9.2)]; exact ⟨rfl, hX, hv_out.rf⟩) dX6_worth_17
  · skip
    refine lv_if_eq (tgt := 14) C0.1 C0.2.1 dX6_worth_4 (by decide) (fun _ => ?_) (fun h9 => absurd h9 (by decide))
    refine lv_ldc2 C0.1 C0.2.1 C0.2.2.2.1 (C0.2.2.2.2.1 _ kk_X6_148) dX6_worth_14 ?_
    exact hv_lret C0 w hr hlk (by rw [sp_worth, if_neg (fun h9 => hb4 h9.1)]; exact ⟨rfl, hX, hv_out.rf⟩) dX6_worth_17

set_option maxHeartbeats 4000000 in
set_option maxRecDepth 100000 in
theorem m_X6_add {l : Launch} {X : hv_X} {V : hv_V} {x : Nat} {σ : hs_S} (hX : okX X V x σ) (hB : hs_b σ) {r v : Int32} : hv_Mi l X 6 yX6_add cX6_add 3 .int V [.ref x, .int r, .int v] (fun y V1 => y = (sp_add σ r v).1 ∧ okX X V1 x (sp_add σ r v).2 ∧ hv_out V V1 x (x + 92)) := by
  refine hv_enter (by decide) (Nat.le_of_ble_eq_true rfl) ?_
  intro p e s m below meth c ls C0 hr hlk hnm w hl
  have hl : lv_has ls 3 [(0, .ref x), (1, .int r), (2, .int v)] := hl
  obtain ⟨kk0, hX0, hPg, hKp, hTx, hTp, hSc⟩ := id hX
  obtain ⟨hP0, ⟨rf, hP1, hP2⟩, hP3, hP4, hP5, hP6⟩ := id hPg
  obtain ⟨⟨tf, hT1, hT2⟩, hT3⟩ := id hTp
  obtain ⟨⟨tk, tn, tg, hS1, hS2⟩, ⟨LF, hS3⟩, ⟨RF, hS4⟩, ⟨bf, hS5, hS6⟩, hS7, uf, hS8⟩ := id hSc
  have hbR := hB.1.1
  refine lv_iload_n C0.1 C0.2.1 dX6_add_0 rfl (lv_at hl 1 rfl) ?_
  refine hv_cSi (As := [.int r]) C0 w kl_X6_60 ks_X6_isRow (c_X6_isRow) (by decide) (by decide) rfl hl.1 rfl (Nat.le_of_ble_eq_true rfl) dX6_add_1 ⟨Nat.le_refl _, Nat.le_refl _⟩ (fun x1 V2 Hq lq hp3 w => ?_)
  obtain ⟨e9, hz9⟩ := hp3
  rw [e9] at w; clear e9
  rcases hz9 with ⟨rfl, hb4⟩ | ⟨rfl, hb4⟩
  · skip
    have ihb4 := hb4
    obtain ⟨j1, hj1, rfl⟩ := sp_inN (k := 5) (by decide) hb4
    have kj1 : (nI j1).toNatClampNeg = j1 := nI_clamp (by omega)
    have hR_j1 : V (x + 1 + 14 + 2 * j1) = some (rE (σ.1.1.1 j1) (σ.1.1.2.1 j1) (x + 1 + 14 + 2 * j1 + 1)) := (hP3 j1 hj1).1
    have hN_j1 : V (x + 1 + 14 + 2 * j1 + 1) = some (nE X (σ.1.1.2.2 j1)) := (hP3 j1 hj1).2
    have hn_j1 : σ.1.1.2.1 j1 ≤ 16 := (hbR j1 hj1).2.1
    refine lv_if_ne (tgt := 9) C0.1 C0.2.1 dX6_add_4 (by decide) (fun _ => ?_) (fun h9 => absurd h9 (by decide))
    refine lv_iload_n C0.1 C0.2.1 dX6_add_9 rfl (lv_at hl 2 rfl) ?_
    refine hv_cSi (As := [.int v]) C0 w kl_X6_96 ks_X6_isNumber (c_X6_isNumber) (by decide) (by decide) rfl hl.1 rfl (Nat.le_of_ble_eq_true rfl) dX6_add_10 ⟨Nat.le_refl _, Nat.le_refl _⟩ (fun x5 V6 Hq lq hp7 w => ?_)
    obtain ⟨e9, hz9⟩ := hp7
    rw [e9] at w; clear e9
    rcases hz9 with ⟨rfl, hb8⟩ | ⟨rfl, hb8⟩
    · skip
      refine lv_if_ne (tgt := 19) C0.1 C0.2.1 dX6_add_13 (by decide) (fun _ => ?_) (fun h9 => absurd h9 (by decide))
      refine lv_aload_n C0.1 C0.2.1 dX6_add_19 rfl (lv_at hl 0 rfl) ?_
      refine gf_X6_12 C0 w hX0 rfl dX6_add_20 ?_
      refine gf_X6_76 C0 w hP0 rfl dX6_add_23 ?_
      refine lv_iload_n C0.1 C0.2.1 dX6_add_26 rfl (lv_at hl 1 rfl) ?_
      refine hv_aald 3 C0 w rfl hP1 (hn_in hj1 (by decide)) (by rw [kj1]; exact hP2 j1 hj1) dX6_add_27 ?_
      refine lv_iload_n C0.1 C0.2.1 dX6_add_28 rfl (lv_at hl 2 rfl) ?_
      refine hv_cVi C0 w kl_X6_99 kv_X3_append rfl hR_j1 (c_X3_append hR_j1 hN_j1 (by omega)) (by decide) (by decide) rfl hl.1 rfl (Nat.le_of_ble_eq_true rfl) dX6_add_29 ⟨Nat.le_refl _, Nat.le_refl _⟩ (fun x9 V10 Hq lq hp11 w => ?_)
      obtain ⟨hlt9, ex9, hp11b⟩ | ⟨hge9, ex9, hp11b⟩ := hp11
      · skip
        rw [ex9]; clear ex9
        have hV12 : V10 x = some (.inr (6, [.ref (x + 1), .ref (x + 27), .int kk0, .ref (x + 53), .ref (x + 57), .ref (x + 58), .ref (x + 60), .ref (x + 61), .ref (x + 62), .ref (x + 63)])) := by rw [hp11b, hv_un (by omega), hv_un (by omega)]; exact hX0
        have hV13 : V10 (x + 1) = some (.inr (2, [.ref (x + 1 + 1), .ref (x + 1 + 2), .ref (x + 1 + 6), .ref (x + 1 + 10)])) := by rw [hp11b, hv_un (by omega), hv_un (by omega)]; exact hP0
        have hV14 : V10 (x + 1 + 1) = some (.inl (X.2.1 3, 6, .inr (.inr (.inr (.inr rf))))) := by rw [hp11b, hv_un (by omega), hv_un (by omega)]; exact hP1
        have hV15 : V10 (x + 57) = some (.inl (X.2.1 4, 6, .inr (.inr (.inr (.inr tf))))) := by rw [hp11b, hv_un (by omega), hv_un (by omega)]; exact hT1
        have hV16 : V10 (x + 60) = some (fE LF) := by rw [hp11b, hv_un (by omega), hv_un (by omega)]; exact hS3
        have hV17 : V10 (x + 61) = some (fE RF) := by rw [hp11b, hv_un (by omega), hv_un (by omega)]; exact hS4
        have hV18 : V10 (x + 58) = some (rE tk tn (x + 58 + 1)) := by rw [hp11b, hv_un (by omega), hv_un (by omega)]; exact hS1
        have hV19 : V10 (x + 58 + 1) = some (nE X tg) := by rw [hp11b, hv_un (by omega), hv_un (by omega)]; exact hS2
        have hV20 : V10 (x + 1 + 14 + 2 * j1) = some (rE (σ.1.1.1 j1) ((σ.1.1.2.1 j1) + 1) (x + 1 + 14 + 2 * j1 + 1)) := by rw [hp11b]; exact hv_us
        have hV21 : V10 (x + 1 + 14 + 2 * j1 + 1) = some (nE X (upd (σ.1.1.2.2 j1) (σ.1.1.2.1 j1) v)) := by rw [hp11b, hv_un (by omega)]; exact hv_us
        refine lv_if_eq (tgt := 50) C0.1 C0.2.1 dX6_add_32 (by decide) (fun h9 => absurd h9 (by decide)) (fun _ => ?_)
        refine lv_aload_n C0.1 C0.2.1 dX6_add_35 rfl (lv_at hl 0 rfl) ?_
        refine gf_X6_12 C0 w hV12 rfl dX6_add_36 ?_
        refine gf_X6_76 C0 w hV13 rfl dX6_add_39 ?_
        refine lv_iload_n C0.1 C0.2.1 dX6_add_42 rfl (lv_at hl 1 rfl) ?_
        refine hv_aald 3 C0 w rfl hV14 (hn_in hj1 (by decide)) (by rw [kj1]; exact hP2 j1 hj1) dX6_add_43 ?_
        refine gf_X6_88 C0 w hV20 rfl dX6_add_44 ?_
        refine lv_goto (tgt := 52) C0.1 C0.2.1 dX6_add_47 (by decide) ?_
        exact hv_iret C0 w hr hlk (by rw [sp_add, if_pos ihb4, if_pos hb8, kj1, if_pos hlt9]; exact ⟨rfl, ⟨kk0, (by rw [hp11b, hv_un (by omega), hv_un (by omega)] : _ = V x).trans hX0, hPg.row hj1 ⟨by rw [hp11b]; exact hv_us, by rw [hp11b, hv_un (by omega)]; exact hv_us⟩ (fun q h7 h8 => by rw [hp11b, hv_un (by omega), hv_un (by omega)]) (fun q h7 h8 => by rw [hp11b, hv_un (by omega), hv_un (by omega)]), hKp.fr (fun q h7 h8 => by rw [hp11b, hv_un (by omega), hv_un (by omega)]), hTx.fr (fun q h7 h8 => by rw [hp11b, hv_un (by omega), hv_un (by omega)]), hTp.fr (by rw [hp11b, hv_un (by omega), hv_un (by omega)]) (fun q h7 h8 => by rw [hp11b, hv_un (by omega), hv_un (by omega)]), hSc.fr (fun q h7 h8 => by rw [hp11b, hv_un (by omega), hv_un (by omega)]) (fun q h7 h8 => by rw [hp11b, hv_un (by omega), hv_un (by omega)])⟩, (fun q h7 => by rw [hp11b, hv_un (by omega), hv_un (by omega)])⟩) dX6_add_52
      · skip
        rw [hp11b] at w; rw [ex9]; clear ex9
        refine lv_if_eq (tgt := 50) C0.1 C0.2.1 dX6_add_32 (by decide) (fun _ => ?_) (fun h9 => absurd h9 (by decide))
        refine lv_bipush (v := -4) C0.1 C0.2.1 dX6_add_50 (by decide) ?_
        exact hv_iret C0 w hr hlk (by rw [sp_add, if_pos ihb4, if_pos hb8, kj1, if_neg hge9]; exact ⟨rfl, hX, hv_out.rf⟩) dX6_add_52
    · skip
      refine lv_if_ne (tgt := 19) C0.1 C0.2.1 dX6_add_13 (by decide) (fun h9 => absurd h9 (by decide)) (fun _ => ?_)
      refine lv_bipush (v := -2) C0.1 C0.2.1 dX6_add_16 (by decide) ?_
      exact hv_iret C0 w hr hlk (by rw [sp_add, if_pos ihb4, if_neg hb8]; exact ⟨rfl, hX, hv_out.rf⟩) dX6_add_18
  · skip
    refine lv_if_ne (tgt := 9) C0.1 C0.2.1 dX6_add_4 (by decide) (fun h9 => absurd h9 (by decide)) (fun _ => ?_)
    refine lv_iconst (v := -1) C0.1 C0.2.1 dX6_add_7 (by decide) ?_
    exact hv_iret C0 w hr hlk (by rw [sp_add, if_neg hb4]; exact ⟨rfl, hX, hv_out.rf⟩) dX6_add_8

set_option maxHeartbeats 4000000 in
set_option maxRecDepth 100000 in
theorem m_X6_cut {l : Launch} {X : hv_X} {V : hv_V} {x : Nat} {σ : hs_S} (hX : okX X V x σ) (hB : hs_b σ) {r n : Int32} : hv_Mi l X 6 yX6_cut cX6_cut 4 .int V [.ref x, .int r, .int n] (fun y V1 => y = (sp_cut σ r n).1 ∧ okX X V1 x (sp_cut σ r n).2 ∧ hv_out V V1 x (x + 92)) := by
  refine hv_enter (by decide) (Nat.le_of_ble_eq_true rfl) ?_
  intro p e s m below meth c ls C0 hr hlk hnm w hl
  have hl : lv_has ls 4 [(0, .ref x), (1, .int r), (2, .int n)] := hl
  obtain ⟨kk0, hX0, hPg, hKp, hTx, hTp, hSc⟩ := id hX
  obtain ⟨hP0, ⟨rf, hP1, hP2⟩, hP3, hP4, hP5, hP6⟩ := id hPg
  obtain ⟨⟨tf, hT1, hT2⟩, hT3⟩ := id hTp
  obtain ⟨⟨tk, tn, tg, hS1, hS2⟩, ⟨LF, hS3⟩, ⟨RF, hS4⟩, ⟨bf, hS5, hS6⟩, hS7, uf, hS8⟩ := id hSc
  have hbR := hB.1.1
  refine lv_iload_n C0.1 C0.2.1 dX6_cut_0 rfl (lv_at hl 1 rfl) ?_
  refine hv_cSi (As := [.int r]) C0 w kl_X6_60 ks_X6_isRow (c_X6_isRow) (by decide) (by decide) rfl hl.1 rfl (Nat.le_of_ble_eq_true rfl) dX6_cut_1 ⟨Nat.le_refl _, Nat.le_refl _⟩ (fun x1 V2 Hq lq hp3 w => ?_)
  obtain ⟨e9, hz9⟩ := hp3
  rw [e9] at w; clear e9
  rcases hz9 with ⟨rfl, hb4⟩ | ⟨rfl, hb4⟩
  · skip
    have ihb4 := hb4
    obtain ⟨j1, hj1, rfl⟩ := sp_inN (k := 5) (by decide) hb4
    have kj1 : (nI j1).toNatClampNeg = j1 := nI_clamp (by omega)
    have hR_j1 : V (x + 1 + 14 + 2 * j1) = some (rE (σ.1.1.1 j1) (σ.1.1.2.1 j1) (x + 1 + 14 + 2 * j1 + 1)) := (hP3 j1 hj1).1
    have hN_j1 : V (x + 1 + 14 + 2 * j1 + 1) = some (nE X (σ.1.1.2.2 j1)) := (hP3 j1 hj1).2
    have hn_j1 : σ.1.1.2.1 j1 ≤ 16 := (hbR j1 hj1).2.1
    refine lv_if_ne (tgt := 9) C0.1 C0.2.1 dX6_cut_4 (by decide) (fun _ => ?_) (fun h9 => absurd h9 (by decide))
    refine lv_aload_n C0.1 C0.2.1 dX6_cut_9 rfl (lv_at hl 0 rfl) ?_
    refine gf_X6_12 C0 w hX0 rfl dX6_cut_10 ?_
    refine gf_X6_76 C0 w hP0 rfl dX6_cut_13 ?_
    refine lv_iload_n C0.1 C0.2.1 dX6_cut_16 rfl (lv_at hl 1 rfl) ?_
    refine hv_aald 3 C0 w rfl hP1 (hn_in hj1 (by decide)) (by rw [kj1]; exact hP2 j1 hj1) dX6_cut_17 ?_
    refine gf_X6_88 C0 w hR_j1 rfl dX6_cut_18 ?_
    refine lv_istore_n (lv' := [(3, .int (nI (σ.1.1.2.1 j1))), (0, .ref x), (1, .int (nI j1)), (2, .int n)]) C0.1 C0.2.1 dX6_cut_21 rfl hl (by decide) rfl (fun ls hl => ?_)
    refine lv_iload_n C0.1 C0.2.1 dX6_cut_22 rfl (lv_at hl 3 rfl) ?_
    refine lv_iconst (v := 0) C0.1 C0.2.1 dX6_cut_23 (by decide) ?_
    refine lv_iload_n C0.1 C0.2.1 dX6_cut_24 rfl (lv_at hl 0 rfl) ?_
    refine hv_cSi (As := [.int n, .int 0, .int (nI (σ.1.1.2.1 j1))]) C0 w kl_X6_68 ks_X6_within (c_X6_within) (by decide) (by decide) rfl hl.1 rfl (Nat.le_of_ble_eq_true rfl) dX6_cut_25 ⟨Nat.le_refl _, Nat.le_refl _⟩ (fun x5 V6 Hq lq hp7 w => ?_)
    obtain ⟨e9, hz9⟩ := hp7
    rw [e9] at w; clear e9
    rcases hz9 with ⟨rfl, hb8⟩ | ⟨rfl, hb8⟩
    · skip
      refine lv_if_ne (tgt := 34) C0.1 C0.2.1 dX6_cut_28 (by decide) (fun _ => ?_) (fun h9 => absurd h9 (by decide))
      have hb8x := hb8
      obtain ⟨n1, hn1, rfl⟩ := sp_inN (by omega) hb8
      have kn1 : (nI n1).toNatClampNeg = n1 := nI_clamp (by omega)
      refine lv_aload_n C0.1 C0.2.1 dX6_cut_34 rfl (lv_at hl 1 rfl) ?_
      refine gf_X6_12 C0 w hX0 rfl dX6_cut_35 ?_
      refine gf_X6_76 C0 w hP0 rfl dX6_cut_38 ?_
      refine lv_iload_n C0.1 C0.2.1 dX6_cut_41 rfl (lv_at hl 2 rfl) ?_
      refine hv_aald 3 C0 w rfl hP1 (hn_in hj1 (by decide)) (by rw [kj1]; exact hP2 j1 hj1) dX6_cut_42 ?_
      refine lv_iload_n C0.1 C0.2.1 dX6_cut_43 rfl (lv_at hl 3 rfl) ?_
      refine pf_X6_88 C0 w hR_j1 (by simp) dX6_cut_44 (fun Hq lq w => ?_)
      obtain ⟨V9, eV10⟩ : ∃ V9, V9 = hv_up V (x + 1 + 14 + 2 * j1) (.inr (3, [.int (σ.1.1.1 j1), .int (nI n1), .ref (x + 1 + 14 + 2 * j1 + 1)])) := ⟨_, rfl⟩
      have w : hv_w X s V9 Hq lq := by rw [eV10]; exact w
      have hV11 : V9 x = some (.inr (6, [.ref (x + 1), .ref (x + 27), .int kk0, .ref (x + 53), .ref (x + 57), .ref (x + 58), .ref (x + 60), .ref (x + 61), .ref (x + 62), .ref (x + 63)])) := by rw [eV10, hv_un (by omega)]; exact hX0
      have hV12 : V9 (x + 1) = some (.inr (2, [.ref (x + 1 + 1), .ref (x + 1 + 2), .ref (x + 1 + 6), .ref (x + 1 + 10)])) := by rw [eV10, hv_un (by omega)]; exact hP0
      have hV13 : V9 (x + 1 + 1) = some (.inl (X.2.1 3, 6, .inr (.inr (.inr (.inr rf))))) := by rw [eV10, hv_un (by omega)]; exact hP1
      have hV14 : V9 (x + 57) = some (.inl (X.2.1 4, 6, .inr (.inr (.inr (.inr tf))))) := by rw [eV10, hv_un (by omega)]; exact hT1
      have hV15 : V9 (x + 60) = some (fE LF) := by rw [eV10, hv_un (by omega)]; exact hS3
      have hV16 : V9 (x + 61) = some (fE RF) := by rw [eV10, hv_un (by omega)]; exact hS4
      have hV17 : V9 (x + 58) = some (rE tk tn (x + 58 + 1)) := by rw [eV10, hv_un (by omega)]; exact hS1
      have hV18 : V9 (x + 58 + 1) = some (nE X tg) := by rw [eV10, hv_un (by omega)]; exact hS2
      have hV20 : V9 (x + 1 + 14 + 2 * j1 + 1) = some (nE X (σ.1.1.2.2 j1)) := by rw [eV10, hv_un (by omega)]; exact hN_j1
      have hV21 : V9 (x + 1 + 14 + 2 * j1) = some (.inr (3, [.int (σ.1.1.1 j1), .int (nI n1), .ref (x + 1 + 14 + 2 * j1 + 1)])) := by rw [eV10]; exact hv_us
      refine lv_iload_n C0.1 C0.2.1 dX6_cut_47 rfl (lv_at hl 0 rfl) ?_
      refine lv_iload_n C0.1 C0.2.1 dX6_cut_48 rfl (lv_at hl 3 rfl) ?_
      refine lv_isub C0.1 C0.2.1 dX6_cut_49 ?_
      exact hv_iret C0 w hr hlk (by rw [sp_cut, if_pos ihb4, kj1, if_pos hb8x, kn1]; exact ⟨rfl, ⟨kk0, (by rw [eV10, hv_un (by omega)] : _ = V x).trans hX0, hPg.row hj1 ⟨by rw [eV10]; exact hv_us, (by rw [eV10, hv_un (by omega)] : _ = V (x + 1 + 14 + 2 * j1 + 1)).trans hN_j1⟩ (fun q h7 h8 => by rw [eV10, hv_un (by omega)]) (fun q h7 h8 => by rw [eV10, hv_un (by omega)]), hKp.fr (fun q h7 h8 => by rw [eV10, hv_un (by omega)]), hTx.fr (fun q h7 h8 => by rw [eV10, hv_un (by omega)]), hTp.fr (by rw [eV10, hv_un (by omega)]) (fun q h7 h8 => by rw [eV10, hv_un (by omega)]), hSc.fr (fun q h7 h8 => by rw [eV10, hv_un (by omega)]) (fun q h7 h8 => by rw [eV10, hv_un (by omega)])⟩, (fun q h7 => by rw [eV10, hv_un (by omega)])⟩) dX6_cut_50
    · skip
      refine lv_if_ne (tgt := 34) C0.1 C0.2.1 dX6_cut_28 (by decide) (fun h9 => absurd h9 (by decide)) (fun _ => ?_)
      refine lv_bipush (v := -2) C0.1 C0.2.1 dX6_cut_31 (by decide) ?_
      exact hv_iret C0 w hr hlk (by rw [sp_cut, if_pos ihb4, kj1, if_neg hb8]; exact ⟨rfl, hX, hv_out.rf⟩) dX6_cut_33
  · skip
    refine lv_if_ne (tgt := 9) C0.1 C0.2.1 dX6_cut_4 (by decide) (fun h9 => absurd h9 (by decide)) (fun _ => ?_)
    refine lv_iconst (v := -1) C0.1 C0.2.1 dX6_cut_7 (by decide) ?_
    exact hv_iret C0 w hr hlk (by rw [sp_cut, if_neg hb4]; exact ⟨rfl, hX, hv_out.rf⟩) dX6_cut_8

set_option maxHeartbeats 4000000 in
set_option maxRecDepth 100000 in
theorem m_X6_told {l : Launch} {X : hv_X} {V : hv_V} {x : Nat} {σ : hs_S} (hX : okX X V x σ) (hB : hs_b σ) {r k : Int32} : hv_Mi l X 6 yX6_told cX6_told 4 .int V [.ref x, .int r, .int k] (fun y V1 => y = sp_told σ r k ∧ okX X V1 x σ ∧ hv_out V V1 x (x + 92)) := by
  refine hv_enter (by decide) (Nat.le_of_ble_eq_true rfl) ?_
  intro p e s m below meth c ls C0 hr hlk hnm w hl
  have hl : lv_has ls 4 [(0, .ref x), (1, .int r), (2, .int k)] := hl
  obtain ⟨kk0, hX0, hPg, hKp, hTx, hTp, hSc⟩ := id hX
  obtain ⟨hP0, ⟨rf, hP1, hP2⟩, hP3, hP4, hP5, hP6⟩ := id hPg
  obtain ⟨⟨tf, hT1, hT2⟩, hT3⟩ := id hTp
  obtain ⟨⟨tk, tn, tg, hS1, hS2⟩, ⟨LF, hS3⟩, ⟨RF, hS4⟩, ⟨bf, hS5, hS6⟩, hS7, uf, hS8⟩ := id hSc
  have hbR := hB.1.1
  refine lv_iload_n C0.1 C0.2.1 dX6_told_0 rfl (lv_at hl 1 rfl) ?_
  refine hv_cSi (As := [.int r]) C0 w kl_X6_60 ks_X6_isRow (c_X6_isRow) (by decide) (by decide) rfl hl.1 rfl (Nat.le_of_ble_eq_true rfl) dX6_told_1 ⟨Nat.le_refl _, Nat.le_refl _⟩ (fun x1 V2 Hq lq hp3 w => ?_)
  obtain ⟨e9, hz9⟩ := hp3
  rw [e9] at w; clear e9
  rcases hz9 with ⟨rfl, hb4⟩ | ⟨rfl, hb4⟩
  · skip
    have ihb4 := hb4
    obtain ⟨j1, hj1, rfl⟩ := sp_inN (k := 5) (by decide) hb4
    have kj1 : (nI j1).toNatClampNeg = j1 := nI_clamp (by omega)
    have hR_j1 : V (x + 1 + 14 + 2 * j1) = some (rE (σ.1.1.1 j1) (σ.1.1.2.1 j1) (x + 1 + 14 + 2 * j1 + 1)) := (hP3 j1 hj1).1
    have hN_j1 : V (x + 1 + 14 + 2 * j1 + 1) = some (nE X (σ.1.1.2.2 j1)) := (hP3 j1 hj1).2
    have hn_j1 : σ.1.1.2.1 j1 ≤ 16 := (hbR j1 hj1).2.1
    refine lv_if_eq (tgt := 16) C0.1 C0.2.1 dX6_told_4 (by decide) (fun h9 => absurd h9 (by decide)) (fun _ => ?_)
    refine lv_iload_n C0.1 C0.2.1 dX6_told_7 rfl (lv_at hl 2 rfl) ?_
    refine lv_iconst (v := 0) C0.1 C0.2.1 dX6_told_8 (by decide) ?_
    refine lv_iconst (v := 3) C0.1 C0.2.1 dX6_told_9 (by decide) ?_
    refine hv_cSi (As := [.int k, .int 0, .int 3]) C0 w kl_X6_68 ks_X6_within (c_X6_within) (by decide) (by decide) rfl hl.1 rfl (Nat.le_of_ble_eq_true rfl) dX6_told_10 ⟨Nat.le_refl _, Nat.le_refl _⟩ (fun x5 V6 Hq lq hp7 w => ?_)
    obtain ⟨e9, hz9⟩ := hp7
    rw [e9] at w; clear e9
    rcases hz9 with ⟨rfl, hb8⟩ | ⟨rfl, hb8⟩
    · skip
      refine lv_if_ne (tgt := 18) C0.1 C0.2.1 dX6_told_13 (by decide) (fun _ => ?_) (fun h9 => absurd h9 (by decide))
      refine lv_aload_n C0.1 C0.2.1 dX6_told_18 rfl (lv_at hl 0 rfl) ?_
      refine gf_X6_12 C0 w hX0 rfl dX6_told_19 ?_
      refine gf_X6_76 C0 w hP0 rfl dX6_told_22 ?_
      refine lv_iload_n C0.1 C0.2.1 dX6_told_25 rfl (lv_at hl 1 rfl) ?_
      refine hv_aald 3 C0 w rfl hP1 (hn_in hj1 (by decide)) (by rw [kj1]; exact hP2 j1 hj1) dX6_told_26 ?_
      refine lv_astore_n (lv' := [(3, .ref (x + 1 + 14 + 2 * j1)), (0, .ref x), (1, .int (nI j1)), (2, .int k)]) C0.1 C0.2.1 dX6_told_27 rfl hl (by decide) rfl (fun ls hl => ?_)
      refine lv_iload_n C0.1 C0.2.1 dX6_told_28 rfl (lv_at hl 3 rfl) ?_
      refine lv_if_ne (tgt := 37) C0.1 C0.2.1 dX6_told_29 (by decide) (fun c_29 => ?_) (fun c_29 => ?_)
      · skip
        refine lv_iload_n C0.1 C0.2.1 dX6_told_37 rfl (lv_at hl 3 rfl) ?_
        refine lv_iconst (v := 1) C0.1 C0.2.1 dX6_told_38 (by decide) ?_
        refine lv_icmp_ne (tgt := 47) C0.1 C0.2.1 dX6_told_39 (by decide) (fun c_39 => ?_) (fun c_39 => ?_)
        · skip
          refine lv_iload_n C0.1 C0.2.1 dX6_told_47 rfl (lv_at hl 3 rfl) ?_
          refine lv_iconst (v := 2) C0.1 C0.2.1 dX6_told_48 (by decide) ?_
          refine lv_icmp_ne (tgt := 57) C0.1 C0.2.1 dX6_told_49 (by decide) (fun c_49 => ?_) (fun c_49 => ?_)
          · skip
            refine lv_aload_n C0.1 C0.2.1 dX6_told_57 rfl (lv_at hl 0 rfl) ?_
            refine lv_aload_n C0.1 C0.2.1 dX6_told_58 rfl (lv_at hl 0 rfl) ?_
            refine gf_X6_88 C0 w hR_j1 rfl dX6_told_59 ?_
            refine lv_aload_n C0.1 C0.2.1 dX6_told_62 rfl (lv_at hl 1 rfl) ?_
            refine gf_X6_44 C0 w hX0 rfl dX6_told_63 ?_
            refine hv_cVv C0 w kl_X6_106 kv_X3_reckon rfl hR_j1 (c_X3_reckon (k := σ.1.1.2.1 j1) hR_j1 hN_j1 hS3 (by omega) (by omega)) (by decide) (by decide) rfl hl.1 rfl (Nat.le_of_ble_eq_true rfl) dX6_told_66 ⟨Nat.le_refl _, Nat.le_refl _⟩ (fun V10 Hq lq hp11 w => ?_)
            have hV12 : V10 x = some (.inr (6, [.ref (x + 1), .ref (x + 27), .int kk0, .ref (x + 53), .ref (x + 57), .ref (x + 58), .ref (x + 60), .ref (x + 61), .ref (x + 62), .ref (x + 63)])) := by rw [hp11, hv_un (by omega)]; exact hX0
            have hV13 : V10 (x + 1) = some (.inr (2, [.ref (x + 1 + 1), .ref (x + 1 + 2), .ref (x + 1 + 6), .ref (x + 1 + 10)])) := by rw [hp11, hv_un (by omega)]; exact hP0
            have hV14 : V10 (x + 1 + 1) = some (.inl (X.2.1 3, 6, .inr (.inr (.inr (.inr rf))))) := by rw [hp11, hv_un (by omega)]; exact hP1
            have hV15 : V10 (x + 57) = some (.inl (X.2.1 4, 6, .inr (.inr (.inr (.inr tf))))) := by rw [hp11, hv_un (by omega)]; exact hT1
            have hV17 : V10 (x + 61) = some (fE RF) := by rw [hp11, hv_un (by omega)]; exact hS4
            have hV18 : V10 (x + 58) = some (rE tk tn (x + 58 + 1)) := by rw [hp11, hv_un (by omega)]; exact hS1
            have hV19 : V10 (x + 58 + 1) = some (nE X tg) := by rw [hp11, hv_un (by omega)]; exact hS2
            have hV20 : V10 (x + 1 + 14 + 2 * j1) = some (rE (σ.1.1.1 j1) (σ.1.1.2.1 j1) (x + 1 + 14 + 2 * j1 + 1)) := by rw [hp11, hv_un (by omega)]; exact hR_j1
            have hV21 : V10 (x + 1 + 14 + 2 * j1 + 1) = some (nE X (σ.1.1.2.2 j1)) := by rw [hp11, hv_un (by omega)]; exact hN_j1
            have hV22 : V10 (x + 60) = some (fE (fx_reckon (σ.1.1.1 j1) (σ.1.1.2.2 j1) (σ.1.1.2.1 j1))) := by rw [hp11]; exact hv_us
            refine lv_aload_n C0.1 C0.2.1 dX6_told_69 rfl (lv_at hl 1 rfl) ?_
            refine gf_X6_44 C0 w hV12 rfl dX6_told_70 ?_
            refine gf_X6_109 C0 w hV22 rfl dX6_told_73 ?_
            refine lv_if_eq (tgt := 83) C0.1 C0.2.1 dX6_told_76 (by decide) (fun c_76 => ?_) (fun c_76 => ?_)
            · skip
              refine lv_iconst (v := 0) C0.1 C0.2.1 dX6_told_83 (by decide) ?_
              exact hv_iret C0 w hr hlk (by rw [sp_told, if_pos ⟨ihb4, hb8⟩, kj1, if_neg c_29, if_neg c_39, if_neg c_49, if_pos (show (sp_w σ j1 (σ.1.1.2.1 j1)).2.2 = 0 from c_76)]; exact ⟨rfl, ⟨kk0, (by rw [hp11, hv_un (by omega)] : _ = V x).trans hX0, hPg.fr (fun q h7 h8 => by rw [hp11, hv_un (by omega)]), hKp.fr (fun q h7 h8 => by rw [hp11, hv_un (by omega)]), hTx.fr (fun q h7 h8 => by rw [hp11, hv_un (by omega)]), hTp.fr (by rw [hp11, hv_un (by omega)]) (fun q h7 h8 => by rw [hp11, hv_un (by omega)]), hSc.gen ⟨tk, tn, tg, (by rw [hp11, hv_un (by omega)] : _ = V (x + 58)).trans hS1, (by rw [hp11, hv_un (by omega)] : _ = V (x + 58 + 1)).trans hS2⟩ ⟨_, by rw [hp11]; exact hv_us⟩ ⟨RF, (by rw [hp11, hv_un (by omega)] : _ = V (x + 61)).trans hS4⟩ (fun q h7 h8 => by rw [hp11, hv_un (by omega)]) (fun q h7 h8 => by rw [hp11, hv_un (by omega)])⟩, (fun q h7 => by rw [hp11, hv_un (by omega)])⟩) dX6_told_84
            · skip
              refine lv_iconst (v := 1) C0.1 C0.2.1 dX6_told_79 (by decide) ?_
              refine lv_goto (tgt := 84) C0.1 C0.2.1 dX6_told_80 (by decide) ?_
              exact hv_iret C0 w hr hlk (by rw [sp_told, if_pos ⟨ihb4, hb8⟩, kj1, if_neg c_29, if_neg c_39, if_neg c_49, if_neg (show ¬ (sp_w σ j1 (σ.1.1.2.1 j1)).2.2 = 0 from c_76)]; exact ⟨rfl, ⟨kk0, (by rw [hp11, hv_un (by omega)] : _ = V x).trans hX0, hPg.fr (fun q h7 h8 => by rw [hp11, hv_un (by omega)]), hKp.fr (fun q h7 h8 => by rw [hp11, hv_un (by omega)]), hTx.fr (fun q h7 h8 => by rw [hp11, hv_un (by omega)]), hTp.fr (by rw [hp11, hv_un (by omega)]) (fun q h7 h8 => by rw [hp11, hv_un (by omega)]), hSc.gen ⟨tk, tn, tg, (by rw [hp11, hv_un (by omega)] : _ = V (x + 58)).trans hS1, (by rw [hp11, hv_un (by omega)] : _ = V (x + 58 + 1)).trans hS2⟩ ⟨_, by rw [hp11]; exact hv_us⟩ ⟨RF, (by rw [hp11, hv_un (by omega)] : _ = V (x + 61)).trans hS4⟩ (fun q h7 h8 => by rw [hp11, hv_un (by omega)]) (fun q h7 h8 => by rw [hp11, hv_un (by omega)])⟩, (fun q h7 => by rw [hp11, hv_un (by omega)])⟩) dX6_told_84
          · skip
            refine lv_aload_n C0.1 C0.2.1 dX6_told_52 rfl (lv_at hl 0 rfl) ?_
            refine hv_cVi C0 w kl_X6_142 kv_X3_flaw rfl hR_j1 (c_X3_flaw hR_j1 hN_j1 (by omega)) (by decide) (by decide) rfl hl.1 rfl (Nat.le_of_ble_eq_true rfl) dX6_told_53 ⟨Nat.le_refl _, Nat.le_refl _⟩ (fun x23 V24 Hq lq hp25 w => ?_)
            obtain ⟨e9, e8⟩ := hp25
            rw [e9] at w; rw [e8]; clear e9 e8
            exact hv_iret C0 w hr hlk (by rw [sp_told, if_pos ⟨ihb4, hb8⟩, kj1, if_neg c_29, if_neg c_39, if_pos c_49]; exact ⟨rfl, hX, hv_out.rf⟩) dX6_told_56
        · skip
          refine lv_aload_n C0.1 C0.2.1 dX6_told_42 rfl (lv_at hl 0 rfl) ?_
          refine gf_X6_88 C0 w hR_j1 rfl dX6_told_43 ?_
          exact hv_iret C0 w hr hlk (by rw [sp_told, if_pos ⟨ihb4, hb8⟩, kj1, if_neg c_29, if_pos c_39]; exact ⟨rfl, hX, hv_out.rf⟩) dX6_told_46
      · skip
        refine lv_aload_n C0.1 C0.2.1 dX6_told_32 rfl (lv_at hl 0 rfl) ?_
        refine gf_X6_119 C0 w hR_j1 rfl dX6_told_33 ?_
        exact hv_iret C0 w hr hlk (by rw [sp_told, if_pos ⟨ihb4, hb8⟩, kj1, if_pos c_29]; exact ⟨rfl, hX, hv_out.rf⟩) dX6_told_36
    · skip
      refine lv_if_ne (tgt := 18) C0.1 C0.2.1 dX6_told_13 (by decide) (fun h9 => absurd h9 (by decide)) (fun _ => ?_)
      refine lv_iconst (v := -1) C0.1 C0.2.1 dX6_told_16 (by decide) ?_
      exact hv_iret C0 w hr hlk (by rw [sp_told, if_neg (fun h9 => hb8 h9.2)]; exact ⟨rfl, hX, hv_out.rf⟩) dX6_told_17
  · skip
    refine lv_if_eq (tgt := 16) C0.1 C0.2.1 dX6_told_4 (by decide) (fun _ => ?_) (fun h9 => absurd h9 (by decide))
    refine lv_iconst (v := -1) C0.1 C0.2.1 dX6_told_16 (by decide) ?_
    exact hv_iret C0 w hr hlk (by rw [sp_told, if_neg (fun h9 => hb4 h9.1)]; exact ⟨rfl, hX, hv_out.rf⟩) dX6_told_17

set_option maxHeartbeats 4000000 in
set_option maxRecDepth 100000 in
theorem m_X6_greater {l : Launch} {X : hv_X} {V : hv_V} {x : Nat} {σ : hs_S} (hX : okX X V x σ) (hB : hs_b σ) {r f : Int32} : hv_Mi l X 6 yX6_greater cX6_greater 3 .int V [.ref x, .int r, .int f] (fun y V1 => y = sp_great σ r f ∧ okX X V1 x σ ∧ hv_out V V1 x (x + 92)) := by
  refine hv_enter (by decide) (Nat.le_of_ble_eq_true rfl) ?_
  intro p e s m below meth c ls C0 hr hlk hnm w hl
  have hl : lv_has ls 3 [(0, .ref x), (1, .int r), (2, .int f)] := hl
  obtain ⟨kk0, hX0, hPg, hKp, hTx, hTp, hSc⟩ := id hX
  obtain ⟨hP0, ⟨rf, hP1, hP2⟩, hP3, hP4, hP5, hP6⟩ := id hPg
  obtain ⟨⟨tf, hT1, hT2⟩, hT3⟩ := id hTp
  obtain ⟨⟨tk, tn, tg, hS1, hS2⟩, ⟨LF, hS3⟩, ⟨RF, hS4⟩, ⟨bf, hS5, hS6⟩, hS7, uf, hS8⟩ := id hSc
  have hbR := hB.1.1
  refine lv_iload_n C0.1 C0.2.1 dX6_greater_0 rfl (lv_at hl 1 rfl) ?_
  refine hv_cSi (As := [.int r]) C0 w kl_X6_60 ks_X6_isRow (c_X6_isRow) (by decide) (by decide) rfl hl.1 rfl (Nat.le_of_ble_eq_true rfl) dX6_greater_1 ⟨Nat.le_refl _, Nat.le_refl _⟩ (fun x1 V2 Hq lq hp3 w => ?_)
  obtain ⟨e9, hz9⟩ := hp3
  rw [e9] at w; clear e9
  rcases hz9 with ⟨rfl, hb4⟩ | ⟨rfl, hb4⟩
  · skip
    have ihb4 := hb4
    obtain ⟨j1, hj1, rfl⟩ := sp_inN (k := 5) (by decide) hb4
    have kj1 : (nI j1).toNatClampNeg = j1 := nI_clamp (by omega)
    have hR_j1 : V (x + 1 + 14 + 2 * j1) = some (rE (σ.1.1.1 j1) (σ.1.1.2.1 j1) (x + 1 + 14 + 2 * j1 + 1)) := (hP3 j1 hj1).1
    have hN_j1 : V (x + 1 + 14 + 2 * j1 + 1) = some (nE X (σ.1.1.2.2 j1)) := (hP3 j1 hj1).2
    have hn_j1 : σ.1.1.2.1 j1 ≤ 16 := (hbR j1 hj1).2.1
    refine lv_if_eq (tgt := 14) C0.1 C0.2.1 dX6_greater_4 (by decide) (fun h9 => absurd h9 (by decide)) (fun _ => ?_)
    refine lv_iload_n C0.1 C0.2.1 dX6_greater_7 rfl (lv_at hl 2 rfl) ?_
    refine hv_cSi (As := [.int f]) C0 w kl_X6_60 ks_X6_isRow (c_X6_isRow) (by decide) (by decide) rfl hl.1 rfl (Nat.le_of_ble_eq_true rfl) dX6_greater_8 ⟨Nat.le_refl _, Nat.le_refl _⟩ (fun x5 V6 Hq lq hp7 w => ?_)
    obtain ⟨e9, hz9⟩ := hp7
    rw [e9] at w; clear e9
    rcases hz9 with ⟨rfl, hb8⟩ | ⟨rfl, hb8⟩
    · skip
      have ihb8 := hb8
      obtain ⟨j2, hj2, rfl⟩ := sp_inN (k := 5) (by decide) hb8
      have kj2 : (nI j2).toNatClampNeg = j2 := nI_clamp (by omega)
      have hR_j2 : V (x + 1 + 14 + 2 * j2) = some (rE (σ.1.1.1 j2) (σ.1.1.2.1 j2) (x + 1 + 14 + 2 * j2 + 1)) := (hP3 j2 hj2).1
      have hN_j2 : V (x + 1 + 14 + 2 * j2 + 1) = some (nE X (σ.1.1.2.2 j2)) := (hP3 j2 hj2).2
      have hn_j2 : σ.1.1.2.1 j2 ≤ 16 := (hbR j2 hj2).2.1
      refine lv_if_ne (tgt := 16) C0.1 C0.2.1 dX6_greater_11 (by decide) (fun _ => ?_) (fun h9 => absurd h9 (by decide))
      refine lv_aload_n C0.1 C0.2.1 dX6_greater_16 rfl (lv_at hl 0 rfl) ?_
      refine gf_X6_12 C0 w hX0 rfl dX6_greater_17 ?_
      refine gf_X6_76 C0 w hP0 rfl dX6_greater_20 ?_
      refine lv_iload_n C0.1 C0.2.1 dX6_greater_23 rfl (lv_at hl 1 rfl) ?_
      refine hv_aald 3 C0 w rfl hP1 (hn_in hj1 (by decide)) (by rw [kj1]; exact hP2 j1 hj1) dX6_greater_24 ?_
      refine gf_X6_119 C0 w hR_j1 rfl dX6_greater_25 ?_
      refine lv_aload_n C0.1 C0.2.1 dX6_greater_28 rfl (lv_at hl 0 rfl) ?_
      refine gf_X6_12 C0 w hX0 rfl dX6_greater_29 ?_
      refine gf_X6_76 C0 w hP0 rfl dX6_greater_32 ?_
      refine lv_iload_n C0.1 C0.2.1 dX6_greater_35 rfl (lv_at hl 2 rfl) ?_
      refine hv_aald 3 C0 w rfl hP1 (hn_in hj2 (by decide)) (by rw [kj2]; exact hP2 j2 hj2) dX6_greater_36 ?_
      refine gf_X6_119 C0 w hR_j2 rfl dX6_greater_37 ?_
      refine lv_icmp_eq (tgt := 46) C0.1 C0.2.1 dX6_greater_40 (by decide) (fun c_40 => ?_) (fun c_40 => ?_)
      · skip
        refine lv_aload_n C0.1 C0.2.1 dX6_greater_46 rfl (lv_at hl 0 rfl) ?_
        refine gf_X6_12 C0 w hX0 rfl dX6_greater_47 ?_
        refine gf_X6_76 C0 w hP0 rfl dX6_greater_50 ?_
        refine lv_iload_n C0.1 C0.2.1 dX6_greater_53 rfl (lv_at hl 1 rfl) ?_
        refine hv_aald 3 C0 w rfl hP1 (hn_in hj1 (by decide)) (by rw [kj1]; exact hP2 j1 hj1) dX6_greater_54 ?_
        refine lv_aload_n C0.1 C0.2.1 dX6_greater_55 rfl (lv_at hl 0 rfl) ?_
        refine gf_X6_12 C0 w hX0 rfl dX6_greater_56 ?_
        refine gf_X6_76 C0 w hP0 rfl dX6_greater_59 ?_
        refine lv_iload_n C0.1 C0.2.1 dX6_greater_62 rfl (lv_at hl 2 rfl) ?_
        refine hv_aald 3 C0 w rfl hP1 (hn_in hj2 (by decide)) (by rw [kj2]; exact hP2 j2 hj2) dX6_greater_63 ?_
        refine hv_cVi C0 w kl_X6_157 kv_X3_greaterByNumbers rfl hR_j1 (c_X3_greaterByNumbers hR_j1 hN_j1 hR_j2 hN_j2 (by omega) (by omega)) (by decide) (by decide) rfl hl.1 rfl (Nat.le_of_ble_eq_true rfl) dX6_greater_64 ⟨Nat.le_refl _, Nat.le_refl _⟩ (fun x9 V10 Hq lq hp11 w => ?_)
        obtain ⟨e9, e8⟩ := hp11
        rw [e9] at w; rw [e8]; clear e9 e8
        exact hv_iret C0 w hr hlk (by rw [sp_great, if_pos ⟨ihb4, ihb8⟩, kj1, kj2, if_pos c_40]; exact ⟨rfl, hX, hv_out.rf⟩) dX6_greater_67
      · skip
        refine lv_bipush (v := -3) C0.1 C0.2.1 dX6_greater_43 (by decide) ?_
        exact hv_iret C0 w hr hlk (by rw [sp_great, if_pos ⟨ihb4, ihb8⟩, kj1, kj2, if_neg c_40]; exact ⟨rfl, hX, hv_out.rf⟩) dX6_greater_45
    · skip
      refine lv_if_ne (tgt := 16) C0.1 C0.2.1 dX6_greater_11 (by decide) (fun h9 => absurd h9 (by decide)) (fun _ => ?_)
      refine lv_iconst (v := -1) C0.1 C0.2.1 dX6_greater_14 (by decide) ?_
      exact hv_iret C0 w hr hlk (by rw [sp_great, if_neg (fun h9 => hb8 h9.2)]; exact ⟨rfl, hX, hv_out.rf⟩) dX6_greater_15
  · skip
    refine lv_if_eq (tgt := 14) C0.1 C0.2.1 dX6_greater_4 (by decide) (fun _ => ?_) (fun h9 => absurd h9 (by decide))
    refine lv_iconst (v := -1) C0.1 C0.2.1 dX6_greater_14 (by decide) ?_
    exact hv_iret C0 w hr hlk (by rw [sp_great, if_neg (fun h9 => hb4 h9.1)]; exact ⟨rfl, hX, hv_out.rf⟩) dX6_greater_15

set_option maxHeartbeats 4000000 in
set_option maxRecDepth 100000 in
theorem m_X6_worthier {l : Launch} {X : hv_X} {V : hv_V} {x : Nat} {σ : hs_S} (hX : okX X V x σ) (hB : hs_b σ) {r f : Int32} : hv_Mi l X 6 yX6_worthier cX6_worthier 3 .int V [.ref x, .int r, .int f] (fun y V1 => y = sp_worthier σ r f ∧ okX X V1 x σ ∧ hv_out V V1 x (x + 92)) := by
  refine hv_enter (by decide) (Nat.le_of_ble_eq_true rfl) ?_
  intro p e s m below meth c ls C0 hr hlk hnm w hl
  have hl : lv_has ls 3 [(0, .ref x), (1, .int r), (2, .int f)] := hl
  obtain ⟨kk0, hX0, hPg, hKp, hTx, hTp, hSc⟩ := id hX
  obtain ⟨hP0, ⟨rf, hP1, hP2⟩, hP3, hP4, hP5, hP6⟩ := id hPg
  obtain ⟨⟨tf, hT1, hT2⟩, hT3⟩ := id hTp
  obtain ⟨⟨tk, tn, tg, hS1, hS2⟩, ⟨LF, hS3⟩, ⟨RF, hS4⟩, ⟨bf, hS5, hS6⟩, hS7, uf, hS8⟩ := id hSc
  have hbR := hB.1.1
  refine lv_iload_n C0.1 C0.2.1 dX6_worthier_0 rfl (lv_at hl 1 rfl) ?_
  refine hv_cSi (As := [.int r]) C0 w kl_X6_60 ks_X6_isRow (c_X6_isRow) (by decide) (by decide) rfl hl.1 rfl (Nat.le_of_ble_eq_true rfl) dX6_worthier_1 ⟨Nat.le_refl _, Nat.le_refl _⟩ (fun x1 V2 Hq lq hp3 w => ?_)
  obtain ⟨e9, hz9⟩ := hp3
  rw [e9] at w; clear e9
  rcases hz9 with ⟨rfl, hb4⟩ | ⟨rfl, hb4⟩
  · skip
    have ihb4 := hb4
    obtain ⟨j1, hj1, rfl⟩ := sp_inN (k := 5) (by decide) hb4
    have kj1 : (nI j1).toNatClampNeg = j1 := nI_clamp (by omega)
    have hR_j1 : V (x + 1 + 14 + 2 * j1) = some (rE (σ.1.1.1 j1) (σ.1.1.2.1 j1) (x + 1 + 14 + 2 * j1 + 1)) := (hP3 j1 hj1).1
    have hN_j1 : V (x + 1 + 14 + 2 * j1 + 1) = some (nE X (σ.1.1.2.2 j1)) := (hP3 j1 hj1).2
    have hn_j1 : σ.1.1.2.1 j1 ≤ 16 := (hbR j1 hj1).2.1
    refine lv_if_eq (tgt := 14) C0.1 C0.2.1 dX6_worthier_4 (by decide) (fun h9 => absurd h9 (by decide)) (fun _ => ?_)
    refine lv_iload_n C0.1 C0.2.1 dX6_worthier_7 rfl (lv_at hl 2 rfl) ?_
    refine hv_cSi (As := [.int f]) C0 w kl_X6_60 ks_X6_isRow (c_X6_isRow) (by decide) (by decide) rfl hl.1 rfl (Nat.le_of_ble_eq_true rfl) dX6_worthier_8 ⟨Nat.le_refl _, Nat.le_refl _⟩ (fun x5 V6 Hq lq hp7 w => ?_)
    obtain ⟨e9, hz9⟩ := hp7
    rw [e9] at w; clear e9
    rcases hz9 with ⟨rfl, hb8⟩ | ⟨rfl, hb8⟩
    · skip
      have ihb8 := hb8
      obtain ⟨j2, hj2, rfl⟩ := sp_inN (k := 5) (by decide) hb8
      have kj2 : (nI j2).toNatClampNeg = j2 := nI_clamp (by omega)
      have hR_j2 : V (x + 1 + 14 + 2 * j2) = some (rE (σ.1.1.1 j2) (σ.1.1.2.1 j2) (x + 1 + 14 + 2 * j2 + 1)) := (hP3 j2 hj2).1
      have hN_j2 : V (x + 1 + 14 + 2 * j2 + 1) = some (nE X (σ.1.1.2.2 j2)) := (hP3 j2 hj2).2
      have hn_j2 : σ.1.1.2.1 j2 ≤ 16 := (hbR j2 hj2).2.1
      refine lv_if_ne (tgt := 16) C0.1 C0.2.1 dX6_worthier_11 (by decide) (fun _ => ?_) (fun h9 => absurd h9 (by decide))
      refine lv_aload_n C0.1 C0.2.1 dX6_worthier_16 rfl (lv_at hl 0 rfl) ?_
      refine gf_X6_12 C0 w hX0 rfl dX6_worthier_17 ?_
      refine gf_X6_76 C0 w hP0 rfl dX6_worthier_20 ?_
      refine lv_iload_n C0.1 C0.2.1 dX6_worthier_23 rfl (lv_at hl 1 rfl) ?_
      refine hv_aald 3 C0 w rfl hP1 (hn_in hj1 (by decide)) (by rw [kj1]; exact hP2 j1 hj1) dX6_worthier_24 ?_
      refine lv_aload_n C0.1 C0.2.1 dX6_worthier_25 rfl (lv_at hl 0 rfl) ?_
      refine gf_X6_12 C0 w hX0 rfl dX6_worthier_26 ?_
      refine gf_X6_76 C0 w hP0 rfl dX6_worthier_29 ?_
      refine lv_iload_n C0.1 C0.2.1 dX6_worthier_32 rfl (lv_at hl 1 rfl) ?_
      refine hv_aald 3 C0 w rfl hP1 (hn_in hj1 (by decide)) (by rw [kj1]; exact hP2 j1 hj1) dX6_worthier_33 ?_
      refine gf_X6_88 C0 w hR_j1 rfl dX6_worthier_34 ?_
      refine lv_aload_n C0.1 C0.2.1 dX6_worthier_37 rfl (lv_at hl 0 rfl) ?_
      refine gf_X6_44 C0 w hX0 rfl dX6_worthier_38 ?_
      refine hv_cVv C0 w kl_X6_106 kv_X3_reckon rfl hR_j1 (c_X3_reckon (k := σ.1.1.2.1 j1) hR_j1 hN_j1 hS3 (by omega) (by omega)) (by decide) (by decide) rfl hl.1 rfl (Nat.le_of_ble_eq_true rfl) dX6_worthier_41 ⟨Nat.le_refl _, Nat.le_refl _⟩ (fun V10 Hq lq hp11 w => ?_)
      have hV12 : V10 x = some (.inr (6, [.ref (x + 1), .ref (x + 27), .int kk0, .ref (x + 53), .ref (x + 57), .ref (x + 58), .ref (x + 60), .ref (x + 61), .ref (x + 62), .ref (x + 63)])) := by rw [hp11, hv_un (by omega)]; exact hX0
      have hV13 : V10 (x + 1) = some (.inr (2, [.ref (x + 1 + 1), .ref (x + 1 + 2), .ref (x + 1 + 6), .ref (x + 1 + 10)])) := by rw [hp11, hv_un (by omega)]; exact hP0
      have hV14 : V10 (x + 1 + 1) = some (.inl (X.2.1 3, 6, .inr (.inr (.inr (.inr rf))))) := by rw [hp11, hv_un (by omega)]; exact hP1
      have hV15 : V10 (x + 57) = some (.inl (X.2.1 4, 6, .inr (.inr (.inr (.inr tf))))) := by rw [hp11, hv_un (by omega)]; exact hT1
      have hV17 : V10 (x + 61) = some (fE RF) := by rw [hp11, hv_un (by omega)]; exact hS4
      have hV18 : V10 (x + 58) = some (rE tk tn (x + 58 + 1)) := by rw [hp11, hv_un (by omega)]; exact hS1
      have hV19 : V10 (x + 58 + 1) = some (nE X tg) := by rw [hp11, hv_un (by omega)]; exact hS2
      have hV20 : V10 (x + 1 + 14 + 2 * j1) = some (rE (σ.1.1.1 j1) (σ.1.1.2.1 j1) (x + 1 + 14 + 2 * j1 + 1)) := by rw [hp11, hv_un (by omega)]; exact hR_j1
      have hV21 : V10 (x + 1 + 14 + 2 * j1 + 1) = some (nE X (σ.1.1.2.2 j1)) := by rw [hp11, hv_un (by omega)]; exact hN_j1
      have hV22 : V10 (x + 1 + 14 + 2 * j2) = some (rE (σ.1.1.1 j2) (σ.1.1.2.1 j2) (x + 1 + 14 + 2 * j2 + 1)) := by rw [hp11, hv_un (by omega)]; exact hR_j2
      have hV23 : V10 (x + 1 + 14 + 2 * j2 + 1) = some (nE X (σ.1.1.2.2 j2)) := by rw [hp11, hv_un (by omega)]; exact hN_j2
      have hV24 : V10 (x + 60) = some (fE (fx_reckon (σ.1.1.1 j1) (σ.1.1.2.2 j1) (σ.1.1.2.1 j1))) := by rw [hp11]; exact hv_us
      refine lv_aload_n C0.1 C0.2.1 dX6_worthier_44 rfl (lv_at hl 0 rfl) ?_
      refine gf_X6_12 C0 w hV12 rfl dX6_worthier_45 ?_
      refine gf_X6_76 C0 w hV13 rfl dX6_worthier_48 ?_
      refine lv_iload_n C0.1 C0.2.1 dX6_worthier_51 rfl (lv_at hl 2 rfl) ?_
      refine hv_aald 3 C0 w rfl hV14 (hn_in hj2 (by decide)) (by rw [kj2]; exact hP2 j2 hj2) dX6_worthier_52 ?_
      refine lv_aload_n C0.1 C0.2.1 dX6_worthier_53 rfl (lv_at hl 0 rfl) ?_
      refine gf_X6_12 C0 w hV12 rfl dX6_worthier_54 ?_
      refine gf_X6_76 C0 w hV13 rfl dX6_worthier_57 ?_
      refine lv_iload_n C0.1 C0.2.1 dX6_worthier_60 rfl (lv_at hl 2 rfl) ?_
      refine hv_aald 3 C0 w rfl hV14 (hn_in hj2 (by decide)) (by rw [kj2]; exact hP2 j2 hj2) dX6_worthier_61 ?_
      refine gf_X6_88 C0 w hV22 rfl dX6_worthier_62 ?_
      refine lv_aload_n C0.1 C0.2.1 dX6_worthier_65 rfl (lv_at hl 0 rfl) ?_
      refine gf_X6_48 C0 w hV12 rfl dX6_worthier_66 ?_
      refine hv_cVv C0 w kl_X6_106 kv_X3_reckon rfl hV22 (c_X3_reckon (k := σ.1.1.2.1 j2) hV22 hV23 hV17 (by omega) (by omega)) (by decide) (by decide) rfl hl.1 rfl (Nat.le_of_ble_eq_true rfl) dX6_worthier_69 ⟨Nat.le_refl _, Nat.le_refl _⟩ (fun V26 Hq lq hp27 w => ?_)
      have hV28 : V26 x = some (.inr (6, [.ref (x + 1), .ref (x + 27), .int kk0, .ref (x + 53), .ref (x + 57), .ref (x + 58), .ref (x + 60), .ref (x + 61), .ref (x + 62), .ref (x + 63)])) := by rw [hp27, hv_un (by omega)]; exact hV12
      have hV29 : V26 (x + 1) = some (.inr (2, [.ref (x + 1 + 1), .ref (x + 1 + 2), .ref (x + 1 + 6), .ref (x + 1 + 10)])) := by rw [hp27, hv_un (by omega)]; exact hV13
      have hV30 : V26 (x + 1 + 1) = some (.inl (X.2.1 3, 6, .inr (.inr (.inr (.inr rf))))) := by rw [hp27, hv_un (by omega)]; exact hV14
      have hV31 : V26 (x + 57) = some (.inl (X.2.1 4, 6, .inr (.inr (.inr (.inr tf))))) := by rw [hp27, hv_un (by omega)]; exact hV15
      have hV33 : V26 (x + 58) = some (rE tk tn (x + 58 + 1)) := by rw [hp27, hv_un (by omega)]; exact hV18
      have hV34 : V26 (x + 58 + 1) = some (nE X tg) := by rw [hp27, hv_un (by omega)]; exact hV19
      have hV35 : V26 (x + 1 + 14 + 2 * j1) = some (rE (σ.1.1.1 j1) (σ.1.1.2.1 j1) (x + 1 + 14 + 2 * j1 + 1)) := by rw [hp27, hv_un (by omega)]; exact hV20
      have hV36 : V26 (x + 1 + 14 + 2 * j1 + 1) = some (nE X (σ.1.1.2.2 j1)) := by rw [hp27, hv_un (by omega)]; exact hV21
      have hV37 : V26 (x + 1 + 14 + 2 * j2) = some (rE (σ.1.1.1 j2) (σ.1.1.2.1 j2) (x + 1 + 14 + 2 * j2 + 1)) := by rw [hp27, hv_un (by omega)]; exact hV22
      have hV38 : V26 (x + 1 + 14 + 2 * j2 + 1) = some (nE X (σ.1.1.2.2 j2)) := by rw [hp27, hv_un (by omega)]; exact hV23
      have hV39 : V26 (x + 60) = some (fE (fx_reckon (σ.1.1.1 j1) (σ.1.1.2.2 j1) (σ.1.1.2.1 j1))) := by rw [hp27, hv_un (by omega)]; exact hV24
      have hV40 : V26 (x + 61) = some (fE (fx_reckon (σ.1.1.1 j2) (σ.1.1.2.2 j2) (σ.1.1.2.1 j2))) := by rw [hp27]; exact hv_us
      refine lv_aload_n C0.1 C0.2.1 dX6_worthier_72 rfl (lv_at hl 0 rfl) ?_
      refine gf_X6_44 C0 w hV28 rfl dX6_worthier_73 ?_
      refine gf_X6_109 C0 w hV39 rfl dX6_worthier_76 ?_
      refine lv_if_eq (tgt := 92) C0.1 C0.2.1 dX6_worthier_79 (by decide) (fun c_79 => ?_) (fun c_79 => ?_)
      · skip
        refine lv_bipush (v := -3) C0.1 C0.2.1 dX6_worthier_92 (by decide) ?_
        exact hv_iret C0 w hr hlk (by rw [sp_worthier, if_pos ⟨ihb4, ihb8⟩, kj1, kj2, sp_w, sp_w, sp_wt, if_pos (Or.inl c_79)]; exact ⟨rfl, ⟨kk0, (by rw [hp27, hv_un (by omega), hp11, hv_un (by omega)] : _ = V x).trans hX0, hPg.fr (fun q h7 h8 => by rw [hp27, hv_un (by omega), hp11, hv_un (by omega)]), hKp.fr (fun q h7 h8 => by rw [hp27, hv_un (by omega), hp11, hv_un (by omega)]), hTx.fr (fun q h7 h8 => by rw [hp27, hv_un (by omega), hp11, hv_un (by omega)]), hTp.fr (by rw [hp27, hv_un (by omega), hp11, hv_un (by omega)]) (fun q h7 h8 => by rw [hp27, hv_un (by omega), hp11, hv_un (by omega)]), hSc.gen ⟨tk, tn, tg, (by rw [hp27, hv_un (by omega), hp11, hv_un (by omega)] : _ = V (x + 58)).trans hS1, (by rw [hp27, hv_un (by omega), hp11, hv_un (by omega)] : _ = V (x + 58 + 1)).trans hS2⟩ ⟨_, by rw [hp27, hv_un (by omega), hp11]; exact hv_us⟩ ⟨_, by rw [hp27]; exact hv_us⟩ (fun q h7 h8 => by rw [hp27, hv_un (by omega), hp11, hv_un (by omega)]) (fun q h7 h8 => by rw [hp27, hv_un (by omega), hp11, hv_un (by omega)])⟩, (fun q h7 => by rw [hp27, hv_un (by omega), hp11, hv_un (by omega)])⟩) dX6_worthier_94
      · skip
        refine lv_aload_n C0.1 C0.2.1 dX6_worthier_82 rfl (lv_at hl 0 rfl) ?_
        refine gf_X6_48 C0 w hV28 rfl dX6_worthier_83 ?_
        refine gf_X6_109 C0 w hV40 rfl dX6_worthier_86 ?_
        refine lv_if_ne (tgt := 95) C0.1 C0.2.1 dX6_worthier_89 (by decide) (fun c_89 => ?_) (fun c_89 => ?_)
        · skip
          refine lv_aload_n C0.1 C0.2.1 dX6_worthier_95 rfl (lv_at hl 0 rfl) ?_
          refine gf_X6_44 C0 w hV28 rfl dX6_worthier_96 ?_
          refine lv_aload_n C0.1 C0.2.1 dX6_worthier_99 rfl (lv_at hl 0 rfl) ?_
          refine gf_X6_48 C0 w hV28 rfl dX6_worthier_100 ?_
          refine hv_cVi C0 w kl_X6_161 kv_X0_isAbove rfl hV39 (c_X0_isAbove (F := (fx_reckon (σ.1.1.1 j1) (σ.1.1.2.2 j1) (σ.1.1.2.1 j1))) hV39 (G := (fx_reckon (σ.1.1.1 j2) (σ.1.1.2.2 j2) (σ.1.1.2.1 j2))) hV40) (by decide) (by decide) rfl hl.1 rfl (Nat.le_of_ble_eq_true rfl) dX6_worthier_103 ⟨Nat.le_refl _, Nat.le_refl _⟩ (fun x41 V42 Hq lq hp43 w => ?_)
          obtain ⟨e9, hz9⟩ := hp43
          rw [e9] at w; clear e9
          rcases hz9 with ⟨rfl, ha44⟩ | ⟨rfl, ha44⟩
          · skip
            refine lv_if_eq (tgt := 111) C0.1 C0.2.1 dX6_worthier_106 (by decide) (fun h9 => absurd h9 (by decide)) (fun _ => ?_)
            refine lv_iconst (v := 1) C0.1 C0.2.1 dX6_worthier_109 (by decide) ?_
            exact hv_iret C0 w hr hlk (by rw [sp_worthier, if_pos ⟨ihb4, ihb8⟩, kj1, kj2, sp_w, sp_w, sp_wt, if_neg (fun h9 => h9.elim c_79 c_89), if_pos ha44]; exact ⟨rfl, ⟨kk0, (by rw [hp27, hv_un (by omega), hp11, hv_un (by omega)] : _ = V x).trans hX0, hPg.fr (fun q h7 h8 => by rw [hp27, hv_un (by omega), hp11, hv_un (by omega)]), hKp.fr (fun q h7 h8 => by rw [hp27, hv_un (by omega), hp11, hv_un (by omega)]), hTx.fr (fun q h7 h8 => by rw [hp27, hv_un (by omega), hp11, hv_un (by omega)]), hTp.fr (by rw [hp27, hv_un (by omega), hp11, hv_un (by omega)]) (fun q h7 h8 => by rw [hp27, hv_un (by omega), hp11, hv_un (by omega)]), hSc.gen ⟨tk, tn, tg, (by rw [hp27, hv_un (by omega), hp11, hv_un (by omega)] : _ = V (x + 58)).trans hS1, (by rw [hp27, hv_un (by omega), hp11, hv_un (by omega)] : _ = V (x + 58 + 1)).trans hS2⟩ ⟨_, by rw [hp27, hv_un (by omega), hp11]; exact hv_us⟩ ⟨_, by rw [hp27]; exact hv_us⟩ (fun q h7 h8 => by rw [hp27, hv_un (by omega), hp11, hv_un (by omega)]) (fun q h7 h8 => by rw [hp27, hv_un (by omega), hp11, hv_un (by omega)])⟩, (fun q h7 => by rw [hp27, hv_un (by omega), hp11, hv_un (by omega)])⟩) dX6_worthier_110
          · skip
            refine lv_if_eq (tgt := 111) C0.1 C0.2.1 dX6_worthier_106 (by decide) (fun _ => ?_) (fun h9 => absurd h9 (by decide))
            refine lv_aload_n C0.1 C0.2.1 dX6_worthier_111 rfl (lv_at hl 0 rfl) ?_
            refine gf_X6_48 C0 w hV28 rfl dX6_worthier_112 ?_
            refine lv_aload_n C0.1 C0.2.1 dX6_worthier_115 rfl (lv_at hl 0 rfl) ?_
            refine gf_X6_44 C0 w hV28 rfl dX6_worthier_116 ?_
            refine hv_cVi C0 w kl_X6_161 kv_X0_isAbove rfl hV40 (c_X0_isAbove (F := (fx_reckon (σ.1.1.1 j2) (σ.1.1.2.2 j2) (σ.1.1.2.1 j2))) hV40 (G := (fx_reckon (σ.1.1.1 j1) (σ.1.1.2.2 j1) (σ.1.1.2.1 j1))) hV39) (by decide) (by decide) rfl hl.1 rfl (Nat.le_of_ble_eq_true rfl) dX6_worthier_119 ⟨Nat.le_refl _, Nat.le_refl _⟩ (fun x45 V46 Hq lq hp47 w => ?_)
            obtain ⟨e9, hz9⟩ := hp47
            rw [e9] at w; clear e9
            rcases hz9 with ⟨rfl, ha48⟩ | ⟨rfl, ha48⟩
            · skip
              refine lv_if_eq (tgt := 129) C0.1 C0.2.1 dX6_worthier_122 (by decide) (fun h9 => absurd h9 (by decide)) (fun _ => ?_)
              refine lv_iconst (v := 2) C0.1 C0.2.1 dX6_worthier_125 (by decide) ?_
              refine lv_goto (tgt := 130) C0.1 C0.2.1 dX6_worthier_126 (by decide) ?_
              exact hv_iret C0 w hr hlk (by rw [sp_worthier, if_pos ⟨ihb4, ihb8⟩, kj1, kj2, sp_w, sp_w, sp_wt, if_neg (fun h9 => h9.elim c_79 c_89), if_neg ha44, if_pos ha48]; exact ⟨rfl, ⟨kk0, (by rw [hp27, hv_un (by omega), hp11, hv_un (by omega)] : _ = V x).trans hX0, hPg.fr (fun q h7 h8 => by rw [hp27, hv_un (by omega), hp11, hv_un (by omega)]), hKp.fr (fun q h7 h8 => by rw [hp27, hv_un (by omega), hp11, hv_un (by omega)]), hTx.fr (fun q h7 h8 => by rw [hp27, hv_un (by omega), hp11, hv_un (by omega)]), hTp.fr (by rw [hp27, hv_un (by omega), hp11, hv_un (by omega)]) (fun q h7 h8 => by rw [hp27, hv_un (by omega), hp11, hv_un (by omega)]), hSc.gen ⟨tk, tn, tg, (by rw [hp27, hv_un (by omega), hp11, hv_un (by omega)] : _ = V (x + 58)).trans hS1, (by rw [hp27, hv_un (by omega), hp11, hv_un (by omega)] : _ = V (x + 58 + 1)).trans hS2⟩ ⟨_, by rw [hp27, hv_un (by omega), hp11]; exact hv_us⟩ ⟨_, by rw [hp27]; exact hv_us⟩ (fun q h7 h8 => by rw [hp27, hv_un (by omega), hp11, hv_un (by omega)]) (fun q h7 h8 => by rw [hp27, hv_un (by omega), hp11, hv_un (by omega)])⟩, (fun q h7 => by rw [hp27, hv_un (by omega), hp11, hv_un (by omega)])⟩) dX6_worthier_130
            · skip
              refine lv_if_eq (tgt := 129) C0.1 C0.2.1 dX6_worthier_122 (by decide) (fun _ => ?_) (fun h9 => absurd h9 (by decide))
              refine lv_iconst (v := 0) C0.1 C0.2.1 dX6_worthier_129 (by decide) ?_
              exact hv_iret C0 w hr hlk (by rw [sp_worthier, if_pos ⟨ihb4, ihb8⟩, kj1, kj2, sp_w, sp_w, sp_wt, if_neg (fun h9 => h9.elim c_79 c_89), if_neg ha44, if_neg ha48]; exact ⟨rfl, ⟨kk0, (by rw [hp27, hv_un (by omega), hp11, hv_un (by omega)] : _ = V x).trans hX0, hPg.fr (fun q h7 h8 => by rw [hp27, hv_un (by omega), hp11, hv_un (by omega)]), hKp.fr (fun q h7 h8 => by rw [hp27, hv_un (by omega), hp11, hv_un (by omega)]), hTx.fr (fun q h7 h8 => by rw [hp27, hv_un (by omega), hp11, hv_un (by omega)]), hTp.fr (by rw [hp27, hv_un (by omega), hp11, hv_un (by omega)]) (fun q h7 h8 => by rw [hp27, hv_un (by omega), hp11, hv_un (by omega)]), hSc.gen ⟨tk, tn, tg, (by rw [hp27, hv_un (by omega), hp11, hv_un (by omega)] : _ = V (x + 58)).trans hS1, (by rw [hp27, hv_un (by omega), hp11, hv_un (by omega)] : _ = V (x + 58 + 1)).trans hS2⟩ ⟨_, by rw [hp27, hv_un (by omega), hp11]; exact hv_us⟩ ⟨_, by rw [hp27]; exact hv_us⟩ (fun q h7 h8 => by rw [hp27, hv_un (by omega), hp11, hv_un (by omega)]) (fun q h7 h8 => by rw [hp27, hv_un (by omega), hp11, hv_un (by omega)])⟩, (fun q h7 => by rw [hp27, hv_un (by omega), hp11, hv_un (by omega)])⟩) dX6_worthier_130
        · skip
          refine lv_bipush (v := -3) C0.1 C0.2.1 dX6_worthier_92 (by decide) ?_
          exact hv_iret C0 w hr hlk (by rw [sp_worthier, if_pos ⟨ihb4, ihb8⟩, kj1, kj2, sp_w, sp_w, sp_wt, if_pos (Or.inr c_89)]; exact ⟨rfl, ⟨kk0, (by rw [hp27, hv_un (by omega), hp11, hv_un (by omega)] : _ = V x).trans hX0, hPg.fr (fun q h7 h8 => by rw [hp27, hv_un (by omega), hp11, hv_un (by omega)]), hKp.fr (fun q h7 h8 => by rw [hp27, hv_un (by omega), hp11, hv_un (by omega)]), hTx.fr (fun q h7 h8 => by rw [hp27, hv_un (by omega), hp11, hv_un (by omega)]), hTp.fr (by rw [hp27, hv_un (by omega), hp11, hv_un (by omega)]) (fun q h7 h8 => by rw [hp27, hv_un (by omega), hp11, hv_un (by omega)]), hSc.gen ⟨tk, tn, tg, (by rw [hp27, hv_un (by omega), hp11, hv_un (by omega)] : _ = V (x + 58)).trans hS1, (by rw [hp27, hv_un (by omega), hp11, hv_un (by omega)] : _ = V (x + 58 + 1)).trans hS2⟩ ⟨_, by rw [hp27, hv_un (by omega), hp11]; exact hv_us⟩ ⟨_, by rw [hp27]; exact hv_us⟩ (fun q h7 h8 => by rw [hp27, hv_un (by omega), hp11, hv_un (by omega)]) (fun q h7 h8 => by rw [hp27, hv_un (by omega), hp11, hv_un (by omega)])⟩, (fun q h7 => by rw [hp27, hv_un (by omega), hp11, hv_un (by omega)])⟩) dX6_worthier_94
    · skip
      refine lv_if_ne (tgt := 16) C0.1 C0.2.1 dX6_worthier_11 (by decide) (fun h9 => absurd h9 (by decide)) (fun _ => ?_)
      refine lv_iconst (v := -1) C0.1 C0.2.1 dX6_worthier_14 (by decide) ?_
      exact hv_iret C0 w hr hlk (by rw [sp_worthier, if_neg (fun h9 => hb8 h9.2)]; exact ⟨rfl, hX, hv_out.rf⟩) dX6_worthier_15
  · skip
    refine lv_if_eq (tgt := 14) C0.1 C0.2.1 dX6_worthier_4 (by decide) (fun _ => ?_) (fun h9 => absurd h9 (by decide))
    refine lv_iconst (v := -1) C0.1 C0.2.1 dX6_worthier_14 (by decide) ?_
    exact hv_iret C0 w hr hlk (by rw [sp_worthier, if_neg (fun h9 => hb4 h9.1)]; exact ⟨rfl, hX, hv_out.rf⟩) dX6_worthier_15

