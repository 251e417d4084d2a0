/-! READ's five calls, and what they leave alone -/
/-- the object at m tells cl clauses -/
def om_cl (V : hv_V) (m : Nat) (cl : Int32) : Prop := ∃ (ab be : Int64) (tx : Nat) (pl sg : Int32) (se ev bk : Nat) (ik : Int32), V m = some (mE m ab be tx pl cl sg se ev bk ik)
def om_kp (V V1 : hv_V) (m : Nat) : Prop := (∀ cl : Int32, om_cl V m cl → om_cl V1 m cl) ∧ V1 (m + 11) = V (m + 11) ∧ V1 (m + 12) = V (m + 12)
theorem om_kp.rf {V : hv_V} {m : Nat} : om_kp V V m := ⟨fun _ h => h, rfl, rfl⟩
theorem om_kp.sm {V V1 : hv_V} {m : Nat} (h : V1 m = V m) (h1 : V1 (m + 11) = V (m + 11)) (h2 : V1 (m + 12) = V (m + 12)) : om_kp V V1 m := ⟨fun _ q => by obtain ⟨a, b, c, d, e, f, g, i, j, k⟩ := q; exact ⟨a, b, c, d, e, f, g, i, j, h.trans k⟩, h1, h2⟩
theorem om_kp.ob {V V1 : hv_V} {m : Nat} {ab be ab1 be1 : Int64} {tx se ev bk tx1 se1 ev1 bk1 : Nat} {pl cl sg ik pl1 sg1 ik1 : Int32} (h0 : V m = some (mE m ab be tx pl cl sg se ev bk ik)) (h : V1 m = some (mE m ab1 be1 tx1 pl1 cl sg1 se1 ev1 bk1 ik1)) (h1 : V1 (m + 11) = V (m + 11)) (h2 : V1 (m + 12) = V (m + 12)) : om_kp V V1 m := ⟨fun c9 q => by
  obtain ⟨a, b, c, d, e, f, g, i, j, k⟩ := q
  have e1 := h0.symm.trans k
  have e2 : cl = c9 := by
    have e3 := Sum.inr.inj (Option.some.inj e1)
    have e4 := (Prod.mk.inj e3).2
    simp only [List.cons.injEq, Value.int.injEq] at e4
    exact e4.2.2.2.2.2.2.2.2.1
  rw [← e2]
  exact ⟨_, _, _, _, _, _, _, _, _, h⟩, h1, h2⟩
set_option maxHeartbeats 4000000 in
set_option maxRecDepth 100000 in
theorem k_X6_begin {l : Launch} {X : hv_X} {V : hv_V} {x : Nat} {σ : hs_S} (hX : okX X V x σ) (hB : hs_b σ) {r k : Int32} : hv_Mi l X 6 yX6_begin cX6_begin 4 .int V [.ref x, .int r, .int k] (fun y V1 => y = (sp_begin σ r k).1 ∧ okX X V1 x (sp_begin σ r k).2 ∧ hv_out V V1 x (x + 92) ∧ hv_but V V1 (x + 53) (x + 57)) := by
  refine hv_enter (by decide) (Nat.le_of_ble_eq_true rfl) ?_
  intro p e s m below meth c ls C0 hr hlk hnm w hl
  have hl : lv_has ls 4 [(0, .ref x), (1, .int r), (2, .int k)] := hl
  obtain ⟨kk0, hX0, hPg, hKp, hTx, hTp, hSc⟩ := id hX
  obtain ⟨hP0, ⟨rf, hP1, hP2⟩, hP3, hP4, hP5, hP6⟩ := id hPg
  obtain ⟨⟨tf, hT1, hT2⟩, hT3⟩ := id hTp
  obtain ⟨⟨tk, tn, tg, hS1, hS2⟩, ⟨LF, hS3⟩, ⟨RF, hS4⟩, ⟨bf, hS5, hS6⟩, hS7, uf, hS8⟩ := id hSc
  have hbR := hB.1.1
  refine lv_iload_n C0.1 C0.2.1 dX6_begin_0 rfl (lv_at hl 1 rfl) ?_
  refine hv_cSi (As := [.int r]) C0 w kl_X6_60 ks_X6_isRow (c_X6_isRow) (by decide) (by decide) rfl hl.1 rfl (Nat.le_of_ble_eq_true rfl) dX6_begin_1 ⟨Nat.le_refl _, Nat.le_refl _⟩ (fun x1 V2 Hq lq hp3 w => ?_)
  obtain ⟨e9, hz9⟩ := hp3
  rw [e9] at w; clear e9
  rcases hz9 with ⟨rfl, hb4⟩ | ⟨rfl, hb4⟩
  · skip
    have ihb4 := hb4
    obtain ⟨j1, hj1, rfl⟩ := sp_inN (k := 5) (by decide) hb4
    have kj1 : (nI j1).toNatClampNeg = j1 := nI_clamp (by omega)
    have hR_j1 : V (x + 1 + 14 + 2 * j1) = some (rE (σ.1.1.1 j1) (σ.1.1.2.1 j1) (x + 1 + 14 + 2 * j1 + 1)) := (hP3 j1 hj1).1
    have hN_j1 : V (x + 1 + 14 + 2 * j1 + 1) = some (nE X (σ.1.1.2.2 j1)) := (hP3 j1 hj1).2
    have hn_j1 : σ.1.1.2.1 j1 ≤ 16 := (hbR j1 hj1).2.1
    refine lv_if_eq (tgt := 14) C0.1 C0.2.1 dX6_begin_4 (by decide) (fun h9 => absurd h9 (by decide)) (fun _ => ?_)
    refine lv_iload_n C0.1 C0.2.1 dX6_begin_7 rfl (lv_at hl 2 rfl) ?_
    refine hv_cSi (As := [.int k]) C0 w kl_X6_64 ks_X6_isKind (c_X6_isKind) (by decide) (by decide) rfl hl.1 rfl (Nat.le_of_ble_eq_true rfl) dX6_begin_8 ⟨Nat.le_refl _, Nat.le_refl _⟩ (fun x5 V6 Hq lq hp7 w => ?_)
    obtain ⟨e9, hz9⟩ := hp7
    rw [e9] at w; clear e9
    rcases hz9 with ⟨rfl, hb8⟩ | ⟨rfl, hb8⟩
    · skip
      refine lv_if_ne (tgt := 16) C0.1 C0.2.1 dX6_begin_11 (by decide) (fun _ => ?_) (fun h9 => absurd h9 (by decide))
      refine lv_aload_n C0.1 C0.2.1 dX6_begin_16 rfl (lv_at hl 0 rfl) ?_
      refine gf_X6_12 C0 w hX0 rfl dX6_begin_17 ?_
      refine gf_X6_76 C0 w hP0 rfl dX6_begin_20 ?_
      refine lv_iload_n C0.1 C0.2.1 dX6_begin_23 rfl (lv_at hl 1 rfl) ?_
      refine hv_aald 3 C0 w rfl hP1 (hn_in hj1 (by decide)) (by rw [kj1]; exact hP2 j1 hj1) dX6_begin_24 ?_
      refine gf_X6_88 C0 w hR_j1 rfl dX6_begin_25 ?_
      refine lv_istore_n (lv' := [(3, .int (nI (σ.1.1.2.1 j1))), (0, .ref x), (1, .int (nI j1)), (2, .int k)]) C0.1 C0.2.1 dX6_begin_28 rfl hl (by decide) rfl (fun ls hl => ?_)
      refine lv_aload_n C0.1 C0.2.1 dX6_begin_29 rfl (lv_at hl 1 rfl) ?_
      refine gf_X6_12 C0 w hX0 rfl dX6_begin_30 ?_
      refine gf_X6_76 C0 w hP0 rfl dX6_begin_33 ?_
      refine lv_iload_n C0.1 C0.2.1 dX6_begin_36 rfl (lv_at hl 2 rfl) ?_
      refine hv_aald 3 C0 w rfl hP1 (hn_in hj1 (by decide)) (by rw [kj1]; exact hP2 j1 hj1) dX6_begin_37 ?_
      refine lv_iload_n C0.1 C0.2.1 dX6_begin_38 rfl (lv_at hl 3 rfl) ?_
      refine hv_cVv C0 w kl_X6_92 kv_X3_clear rfl hR_j1 (c_X3_clear hR_j1 hN_j1) (by decide) (by decide) rfl hl.1 rfl (Nat.le_of_ble_eq_true rfl) dX6_begin_39 ⟨Nat.le_refl _, Nat.le_refl _⟩ (fun V10 Hq lq hp11 w => ?_)
      have hV12 : V10 x = some (.inr (6, [.ref (x + 1), .ref (x + 27), .int kk0, .ref (x + 53), .ref (x + 57), .ref (x + 58), .ref (x + 60), .ref (x + 61), .ref (x + 62), .ref (x + 63)])) := by rw [hp11, hv_un (by omega)]; exact hX0
      have hV13 : V10 (x + 1) = some (.inr (2, [.ref (x + 1 + 1), .ref (x + 1 + 2), .ref (x + 1 + 6), .ref (x + 1 + 10)])) := by rw [hp11, hv_un (by omega)]; exact hP0
      have hV14 : V10 (x + 1 + 1) = some (.inl (X.2.1 3, 6, .inr (.inr (.inr (.inr rf))))) := by rw [hp11, hv_un (by omega)]; exact hP1
      have hV15 : V10 (x + 57) = some (.inl (X.2.1 4, 6, .inr (.inr (.inr (.inr tf))))) := by rw [hp11, hv_un (by omega)]; exact hT1
      have hV16 : V10 (x + 60) = some (fE LF) := by rw [hp11, hv_un (by omega)]; exact hS3
      have hV17 : V10 (x + 61) = some (fE RF) := by rw [hp11, hv_un (by omega)]; exact hS4
      have hV18 : V10 (x + 58) = some (rE tk tn (x + 58 + 1)) := by rw [hp11, hv_un (by omega)]; exact hS1
      have hV19 : V10 (x + 58 + 1) = some (nE X tg) := by rw [hp11, hv_un (by omega)]; exact hS2
      have hV21 : V10 (x + 1 + 14 + 2 * j1 + 1) = some (nE X (σ.1.1.2.2 j1)) := by rw [hp11, hv_un (by omega)]; exact hN_j1
      have hV22 : V10 (x + 1 + 14 + 2 * j1) = some (rE k 0 (x + 1 + 14 + 2 * j1 + 1)) := by rw [hp11]; exact hv_us
      refine lv_iload_n C0.1 C0.2.1 dX6_begin_42 rfl (lv_at hl 0 rfl) ?_
      exact hv_iret C0 w hr hlk (by rw [sp_begin, if_pos ⟨ihb4, hb8⟩, kj1]; exact ⟨rfl, ⟨kk0, (by rw [hp11, hv_un (by omega)] : _ = V x).trans hX0, hPg.row hj1 ⟨by rw [hp11]; exact hv_us, (by rw [hp11, hv_un (by omega)] : _ = V (x + 1 + 14 + 2 * j1 + 1)).trans hN_j1⟩ (fun q h7 h8 => by rw [hp11, hv_un (by omega)]) (fun q h7 h8 => by rw [hp11, hv_un (by omega)]), hKp.fr (fun q h7 h8 => by rw [hp11, hv_un (by omega)]), hTx.fr (fun q h7 h8 => by rw [hp11, hv_un (by omega)]), hTp.fr (by rw [hp11, hv_un (by omega)]) (fun q h7 h8 => by rw [hp11, hv_un (by omega)]), hSc.fr (fun q h7 h8 => by rw [hp11, hv_un (by omega)]) (fun q h7 h8 => by rw [hp11, hv_un (by omega)])⟩, (fun q h7 => by rw [hp11, hv_un (by omega)]), (fun q h7 h8 => by rw [hp11, hv_un (by omega)])⟩) dX6_begin_43
    · skip
      refine lv_if_ne (tgt := 16) C0.1 C0.2.1 dX6_begin_11 (by decide) (fun h9 => absurd h9 (by decide)) (fun _ => ?_)
      refine lv_iconst (v := -1) C0.1 C0.2.1 dX6_begin_14 (by decide) ?_
      exact hv_iret C0 w hr hlk (by rw [sp_begin, if_neg (fun h9 => hb8 h9.2)]; exact ⟨rfl, hX, hv_out.rf, hv_but.rf⟩) dX6_begin_15
  · skip
    refine lv_if_eq (tgt := 14) C0.1 C0.2.1 dX6_begin_4 (by decide) (fun _ => ?_) (fun h9 => absurd h9 (by decide))
    refine lv_iconst (v := -1) C0.1 C0.2.1 dX6_begin_14 (by decide) ?_
    exact hv_iret C0 w hr hlk (by rw [sp_begin, if_neg (fun h9 => hb4 h9.1)]; exact ⟨rfl, hX, hv_out.rf, hv_but.rf⟩) dX6_begin_15

set_option maxHeartbeats 4000000 in
set_option maxRecDepth 100000 in
theorem k_X6_add {l : Launch} {X : hv_X} {V : hv_V} {x : Nat} {σ : hs_S} (hX : okX X V x σ) (hB : hs_b σ) {r v : Int32} : hv_Mi l X 6 yX6_add cX6_add 3 .int V [.ref x, .int r, .int v] (fun y V1 => y = (sp_add σ r v).1 ∧ okX X V1 x (sp_add σ r v).2 ∧ hv_out V V1 x (x + 92) ∧ hv_but V V1 (x + 53) (x + 57)) := by
  refine hv_enter (by decide) (Nat.le_of_ble_eq_true rfl) ?_
  intro p e s m below meth c ls C0 hr hlk hnm w hl
  have hl : lv_has ls 3 [(0, .ref x), (1, .int r), (2, .int v)] := hl
  obtain ⟨kk0, hX0, hPg, hKp, hTx, hTp, hSc⟩ := id hX
  obtain ⟨hP0, ⟨rf, hP1, hP2⟩, hP3, hP4, hP5, hP6⟩ := id hPg
  obtain ⟨⟨tf, hT1, hT2⟩, hT3⟩ := id hTp
  obtain ⟨⟨tk, tn, tg, hS1, hS2⟩, ⟨LF, hS3⟩, ⟨RF, hS4⟩, ⟨bf, hS5, hS6⟩, hS7, uf, hS8⟩ := id hSc
  have hbR := hB.1.1
  refine lv_iload_n C0.1 C0.2.1 dX6_add_0 rfl (lv_at hl 1 rfl) ?_
  refine hv_cSi (As := [.int r]) C0 w kl_X6_60 ks_X6_isRow (c_X6_isRow) (by decide) (by decide) rfl hl.1 rfl (Nat.le_of_ble_eq_true rfl) dX6_add_1 ⟨Nat.le_refl _, Nat.le_refl _⟩ (fun x1 V2 Hq lq hp3 w => ?_)
  obtain ⟨e9, hz9⟩ := hp3
  rw [e9] at w; clear e9
  rcases hz9 with ⟨rfl, hb4⟩ | ⟨rfl, hb4⟩
  · skip
    have ihb4 := hb4
    obtain ⟨j1, hj1, rfl⟩ := sp_inN (k := 5) (by decide) hb4
    have kj1 : (nI j1).toNatClampNeg = j1 := nI_clamp (by omega)
    have hR_j1 : V (x + 1 + 14 + 2 * j1) = some (rE (σ.1.1.1 j1) (σ.1.1.2.1 j1) (x + 1 + 14 + 2 * j1 + 1)) := (hP3 j1 hj1).1
    have hN_j1 : V (x + 1 + 14 + 2 * j1 + 1) = some (nE X (σ.1.1.2.2 j1)) := (hP3 j1 hj1).2
    have hn_j1 : σ.1.1.2.1 j1 ≤ 16 := (hbR j1 hj1).2.1
    refine lv_if_ne (tgt := 9) C0.1 C0.2.1 dX6_add_4 (by decide) (fun _ => ?_) (fun h9 => absurd h9 (by decide))
    refine lv_iload_n C0.1 C0.2.1 dX6_add_9 rfl (lv_at hl 2 rfl) ?_
    refine hv_cSi (As := [.int v]) C0 w kl_X6_96 ks_X6_isNumber (c_X6_isNumber) (by decide) (by decide) rfl hl.1 rfl (Nat.le_of_ble_eq_true rfl) dX6_add_10 ⟨Nat.le_refl _, Nat.le_refl _⟩ (fun x5 V6 Hq lq hp7 w => ?_)
    obtain ⟨e9, hz9⟩ := hp7
    rw [e9] at w; clear e9
    rcases hz9 with ⟨rfl, hb8⟩ | ⟨rfl, hb8⟩
    · skip
      refine lv_if_ne (tgt := 19) C0.1 C0.2.1 dX6_add_13 (by decide) (fun _ => ?_) (fun h9 => absurd h9 (by decide))
      refine lv_aload_n C0.1 C0.2.1 dX6_add_19 rfl (lv_at hl 0 rfl) ?_
      refine gf_X6_12 C0 w hX0 rfl dX6_add_20 ?_
      refine gf_X6_76 C0 w hP0 rfl dX6_add_23 ?_
      refine lv_iload_n C0.1 C0.2.1 dX6_add_26 rfl (lv_at hl 1 rfl) ?_
      refine hv_aald 3 C0 w rfl hP1 (hn_in hj1 (by decide)) (by rw [kj1]; exact hP2 j1 hj1) dX6_add_27 ?_
      refine lv_iload_n C0.1 C0.2.1 dX6_add_28 rfl (lv_at hl 2 rfl) ?_
      refine hv_cVi C0 w kl_X6_99 kv_X3_append rfl hR_j1 (c_X3_append hR_j1 hN_j1 (by omega)) (by decide) (by decide) rfl hl.1 rfl (Nat.le_of_ble_eq_true rfl) dX6_add_29 ⟨Nat.le_refl _, Nat.le_refl _⟩ (fun x9 V10 Hq lq hp11 w => ?_)
      obtain ⟨hlt9, ex9, hp11b⟩ | ⟨hge9, ex9, hp11b⟩ := hp11
      · skip
        rw [ex9]; clear ex9
        have hV12 : V10 x = some (.inr (6, [.ref (x + 1), .ref (x + 27), .int kk0, .ref (x + 53), .ref (x + 57), .ref (x + 58), .ref (x + 60), .ref (x + 61), .ref (x + 62), .ref (x + 63)])) := by rw [hp11b, hv_un (by omega), hv_un (by omega)]; exact hX0
        have hV13 : V10 (x + 1) = some (.inr (2, [.ref (x + 1 + 1), .ref (x + 1 + 2), .ref (x + 1 + 6), .ref (x + 1 + 10)])) := by rw [hp11b, hv_un (by omega), hv_un (by omega)]; exact hP0
        have hV14 : V10 (x + 1 + 1) = some (.inl (X.2.1 3, 6, .inr (.inr (.inr (.inr rf))))) := by rw [hp11b, hv_un (by omega), hv_un (by omega)]; exact hP1
        have hV15 : V10 (x + 57) = some (.inl (X.2.1 4, 6, .inr (.inr (.inr (.inr tf))))) := by rw [hp11b, hv_un (by omega), hv_un (by omega)]; exact hT1
        have hV16 : V10 (x + 60) = some (fE LF) := by rw [hp11b, hv_un (by omega), hv_un (by omega)]; exact hS3
        have hV17 : V10 (x + 61) = some (fE RF) := by rw [hp11b, hv_un (by omega), hv_un (by omega)]; exact hS4
        have hV18 : V10 (x + 58) = some (rE tk tn (x + 58 + 1)) := by rw [hp11b, hv_un (by omega), hv_un (by omega)]; exact hS1
        have hV19 : V10 (x + 58 + 1) = some (nE X tg) := by rw [hp11b, hv_un (by omega), hv_un (by omega)]; exact hS2
        have hV20 : V10 (x + 1 + 14 + 2 * j1) = some (rE (σ.1.1.1 j1) ((σ.1.1.2.1 j1) + 1) (x + 1 + 14 + 2 * j1 + 1)) := by rw [hp11b]; exact hv_us
        have hV21 : V10 (x + 1 + 14 + 2 * j1 + 1) = some (nE X (upd (σ.1.1.2.2 j1) (σ.1.1.2.1 j1) v)) := by rw [hp11b, hv_un (by omega)]; exact hv_us
        refine lv_if_eq (tgt := 50) C0.1 C0.2.1 dX6_add_32 (by decide) (fun h9 => absurd h9 (by decide)) (fun _ => ?_)
        refine lv_aload_n C0.1 C0.2.1 dX6_add_35 rfl (lv_at hl 0 rfl) ?_
        refine gf_X6_12 C0 w hV12 rfl dX6_add_36 ?_
        refine gf_X6_76 C0 w hV13 rfl dX6_add_39 ?_
        refine lv_iload_n C0.1 C0.2.1 dX6_add_42 rfl (lv_at hl 1 rfl) ?_
        refine hv_aald 3 C0 w rfl hV14 (hn_in hj1 (by decide)) (by rw [kj1]; exact hP2 j1 hj1) dX6_add_43 ?_
        refine gf_X6_88 C0 w hV20 rfl dX6_add_44 ?_
        refine lv_goto (tgt := 52) C0.1 C0.2.1 dX6_add_47 (by decide) ?_
        exact hv_iret C0 w hr hlk (by rw [sp_add, if_pos ihb4, if_pos hb8, kj1, if_pos hlt9]; exact ⟨rfl, ⟨kk0, (by rw [hp11b, hv_un (by omega), hv_un (by omega)] : _ = V x).trans hX0, hPg.row hj1 ⟨by rw [hp11b]; exact hv_us, by rw [hp11b, hv_un (by omega)]; exact hv_us⟩ (fun q h7 h8 => by rw [hp11b, hv_un (by omega), hv_un (by omega)]) (fun q h7 h8 => by rw [hp11b, hv_un (by omega), hv_un (by omega)]), hKp.fr (fun q h7 h8 => by rw [hp11b, hv_un (by omega), hv_un (by omega)]), hTx.fr (fun q h7 h8 => by rw [hp11b, hv_un (by omega), hv_un (by omega)]), hTp.fr (by rw [hp11b, hv_un (by omega), hv_un (by omega)]) (fun q h7 h8 => by rw [hp11b, hv_un (by omega), hv_un (by omega)]), hSc.fr (fun q h7 h8 => by rw [hp11b, hv_un (by omega), hv_un (by omega)]) (fun q h7 h8 => by rw [hp11b, hv_un (by omega), hv_un (by omega)])⟩, (fun q h7 => by rw [hp11b, hv_un (by omega), hv_un (by omega)]), (fun q h7 h8 => by rw [hp11b, hv_un (by omega), hv_un (by omega)])⟩) dX6_add_52
      · skip
        rw [hp11b] at w; rw [ex9]; clear ex9
        refine lv_if_eq (tgt := 50) C0.1 C0.2.1 dX6_add_32 (by decide) (fun _ => ?_) (fun h9 => absurd h9 (by decide))
        refine lv_bipush (v := -4) C0.1 C0.2.1 dX6_add_50 (by decide) ?_
        exact hv_iret C0 w hr hlk (by rw [sp_add, if_pos ihb4, if_pos hb8, kj1, if_neg hge9]; exact ⟨rfl, hX, hv_out.rf, hv_but.rf⟩) dX6_add_52
    · skip
      refine lv_if_ne (tgt := 19) C0.1 C0.2.1 dX6_add_13 (by decide) (fun h9 => absurd h9 (by decide)) (fun _ => ?_)
      refine lv_bipush (v := -2) C0.1 C0.2.1 dX6_add_16 (by decide) ?_
      exact hv_iret C0 w hr hlk (by rw [sp_add, if_pos ihb4, if_neg hb8]; exact ⟨rfl, hX, hv_out.rf, hv_but.rf⟩) dX6_add_18
  · skip
    refine lv_if_ne (tgt := 9) C0.1 C0.2.1 dX6_add_4 (by decide) (fun h9 => absurd h9 (by decide)) (fun _ => ?_)
    refine lv_iconst (v := -1) C0.1 C0.2.1 dX6_add_7 (by decide) ?_
    exact hv_iret C0 w hr hlk (by rw [sp_add, if_neg hb4]; exact ⟨rfl, hX, hv_out.rf, hv_but.rf⟩) dX6_add_8

set_option maxHeartbeats 4000000 in
set_option maxRecDepth 100000 in
theorem k_X6_cut {l : Launch} {X : hv_X} {V : hv_V} {x : Nat} {σ : hs_S} (hX : okX X V x σ) (hB : hs_b σ) {r n : Int32} : hv_Mi l X 6 yX6_cut cX6_cut 4 .int V [.ref x, .int r, .int n] (fun y V1 => y = (sp_cut σ r n).1 ∧ okX X V1 x (sp_cut σ r n).2 ∧ hv_out V V1 x (x + 92) ∧ hv_but V V1 (x + 53) (x + 57)) := by
  refine hv_enter (by decide) (Nat.le_of_ble_eq_true rfl) ?_
  intro p e s m below meth c ls C0 hr hlk hnm w hl
  have hl : lv_has ls 4 [(0, .ref x), (1, .int r), (2, .int n)] := hl
  obtain ⟨kk0, hX0, hPg, hKp, hTx, hTp, hSc⟩ := id hX
  obtain ⟨hP0, ⟨rf, hP1, hP2⟩, hP3, hP4, hP5, hP6⟩ := id hPg
  obtain ⟨⟨tf, hT1, hT2⟩, hT3⟩ := id hTp
  obtain ⟨⟨tk, tn, tg, hS1, hS2⟩, ⟨LF, hS3⟩, ⟨RF, hS4⟩, ⟨bf, hS5, hS6⟩, hS7, uf, hS8⟩ := id hSc
  have hbR := hB.1.1
  refine lv_iload_n C0.1 C0.2.1 dX6_cut_0 rfl (lv_at hl 1 rfl) ?_
  refine hv_cSi (As := [.int r]) C0 w kl_X6_60 ks_X6_isRow (c_X6_isRow) (by decide) (by decide) rfl hl.1 rfl (Nat.le_of_ble_eq_true rfl) dX6_cut_1 ⟨Nat.le_refl _, Nat.le_refl _⟩ (fun x1 V2 Hq lq hp3 w => ?_)
  obtain ⟨e9, hz9⟩ := hp3
  rw [e9] at w; clear e9
  rcases hz9 with ⟨rfl, hb4⟩ | ⟨rfl, hb4⟩
  · skip
    have ihb4 := hb4
    obtain ⟨j1, hj1, rfl⟩ := sp_inN (k := 5) (by decide) hb4
    have kj1 : (nI j1).toNatClampNeg = j1 := nI_clamp (by omega)
    have hR_j1 : V (x + 1 + 14 + 2 * j1) = some (rE (σ.1.1.1 j1) (σ.1.1.2.1 j1) (x + 1 + 14 + 2 * j1 + 1)) := (hP3 j1 hj1).1
    have hN_j1 : V (x + 1 + 14 + 2 * j1 + 1) = some (nE X (σ.1.1.2.2 j1)) := (hP3 j1 hj1).2
    have hn_j1 : σ.1.1.2.1 j1 ≤ 16 := (hbR j1 hj1).2.1
    refine lv_if_ne (tgt := 9) C0.1 C0.2.1 dX6_cut_4 (by decide) (fun _ => ?_) (fun h9 => absurd h9 (by decide))
    refine lv_aload_n C0.1 C0.2.1 dX6_cut_9 rfl (lv_at hl 0 rfl) ?_
    refine gf_X6_12 C0 w hX0 rfl dX6_cut_10 ?_
    refine gf_X6_76 C0 w hP0 rfl dX6_cut_13 ?_
    refine lv_iload_n C0.1 C0.2.1 dX6_cut_16 rfl (lv_at hl 1 rfl) ?_
    refine hv_aald 3 C0 w rfl hP1 (hn_in hj1 (by decide)) (by rw [kj1]; exact hP2 j1 hj1) dX6_cut_17 ?_
    refine gf_X6_88 C0 w hR_j1 rfl dX6_cut_18 ?_
    refine lv_istore_n (lv' := [(3, .int (nI (σ.1.1.2.1 j1))), (0, .ref x), (1, .int (nI j1)), (2, .int n)]) C0.1 C0.2.1 dX6_cut_21 rfl hl (by decide) rfl (fun ls hl => ?_)
    refine lv_iload_n C0.1 C0.2.1 dX6_cut_22 rfl (lv_at hl 3 rfl) ?_
    refine lv_iconst (v := 0) C0.1 C0.2.1 dX6_cut_23 (by decide) ?_
    refine lv_iload_n C0.1 C0.2.1 dX6_cut_24 rfl (lv_at hl 0 rfl) ?_
    refine hv_cSi (As := [.int n, .int 0, .int (nI (σ.1.1.2.1 j1))]) C0 w kl_X6_68 ks_X6_within (c_X6_within) (by decide) (by decide) rfl hl.1 rfl (Nat.le_of_ble_eq_true rfl) dX6_cut_25 ⟨Nat.le_refl _, Nat.le_refl _⟩ (fun x5 V6 Hq lq hp7 w => ?_)
    obtain ⟨e9, hz9⟩ := hp7
    rw [e9] at w; clear e9
    rcases hz9 with ⟨rfl, hb8⟩ | ⟨rfl, hb8⟩
    · skip
      refine lv_if_ne (tgt := 34) C0.1 C0.2.1 dX6_cut_28 (by decide) (fun _ => ?_) (fun h9 => absurd h9 (by decide))
      have hb8x := hb8
      obtain ⟨n1, hn1, rfl⟩ := sp_inN (by omega) hb8
      have kn1 : (nI n1).toNatClampNeg = n1 := nI_clamp (by omega)
      refine lv_aload_n C0.1 C0.2.1 dX6_cut_34 rfl (lv_at hl 1 rfl) ?_
      refine gf_X6_12 C0 w hX0 rfl dX6_cut_35 ?_
      refine gf_X6_76 C0 w hP0 rfl dX6_cut_38 ?_
      refine lv_iload_n C0.1 C0.2.1 dX6_cut_41 rfl (lv_at hl 2 rfl) ?_
      refine hv_aald 3 C0 w rfl hP1 (hn_in hj1 (by decide)) (by rw [kj1]; exact hP2 j1 hj1) dX6_cut_42 ?_
      refine lv_iload_n C0.1 C0.2.1 dX6_cut_43 rfl (lv_at hl 3 rfl) ?_
      refine pf_X6_88 C0 w hR_j1 (by simp) dX6_cut_44 (fun Hq lq w => ?_)
      obtain ⟨V9, eV10⟩ : ∃ V9, V9 = hv_up V (x + 1 + 14 + 2 * j1) (.inr (3, [.int (σ.1.1.1 j1), .int (nI n1), .ref (x + 1 + 14 + 2 * j1 + 1)])) := ⟨_, rfl⟩
      have w : hv_w X s V9 Hq lq := by rw [eV10]; exact w
      have hV11 : V9 x = some (.inr (6, [.ref (x + 1), .ref (x + 27), .int kk0, .ref (x + 53), .ref (x + 57), .ref (x + 58), .ref (x + 60), .ref (x + 61), .ref (x + 62), .ref (x + 63)])) := by rw [eV10, hv_un (by omega)]; exact hX0
      have hV12 : V9 (x + 1) = some (.inr (2, [.ref (x + 1 + 1), .ref (x + 1 + 2), .ref (x + 1 + 6), .ref (x + 1 + 10)])) := by rw [eV10, hv_un (by omega)]; exact hP0
      have hV13 : V9 (x + 1 + 1) = some (.inl (X.2.1 3, 6, .inr (.inr (.inr (.inr rf))))) := by rw [eV10, hv_un (by omega)]; exact hP1
      have hV14 : V9 (x + 57) = some (.inl (X.2.1 4, 6, .inr (.inr (.inr (.inr tf))))) := by rw [eV10, hv_un (by omega)]; exact hT1
      have hV15 : V9 (x + 60) = some (fE LF) := by rw [eV10, hv_un (by omega)]; exact hS3
      have hV16 : V9 (x + 61) = some (fE RF) := by rw [eV10, hv_un (by omega)]; exact hS4
      have hV17 : V9 (x + 58) = some (rE tk tn (x + 58 + 1)) := by rw [eV10, hv_un (by omega)]; exact hS1
      have hV18 : V9 (x + 58 + 1) = some (nE X tg) := by rw [eV10, hv_un (by omega)]; exact hS2
      have hV20 : V9 (x + 1 + 14 + 2 * j1 + 1) = some (nE X (σ.1.1.2.2 j1)) := by rw [eV10, hv_un (by omega)]; exact hN_j1
      have hV21 : V9 (x + 1 + 14 + 2 * j1) = some (.inr (3, [.int (σ.1.1.1 j1), .int (nI n1), .ref (x + 1 + 14 + 2 * j1 + 1)])) := by rw [eV10]; exact hv_us
      refine lv_iload_n C0.1 C0.2.1 dX6_cut_47 rfl (lv_at hl 0 rfl) ?_
      refine lv_iload_n C0.1 C0.2.1 dX6_cut_48 rfl (lv_at hl 3 rfl) ?_
      refine lv_isub C0.1 C0.2.1 dX6_cut_49 ?_
      exact hv_iret C0 w hr hlk (by rw [sp_cut, if_pos ihb4, kj1, if_pos hb8x, kn1]; exact ⟨rfl, ⟨kk0, (by rw [eV10, hv_un (by omega)] : _ = V x).trans hX0, hPg.row hj1 ⟨by rw [eV10]; exact hv_us, (by rw [eV10, hv_un (by omega)] : _ = V (x + 1 + 14 + 2 * j1 + 1)).trans hN_j1⟩ (fun q h7 h8 => by rw [eV10, hv_un (by omega)]) (fun q h7 h8 => by rw [eV10, hv_un (by omega)]), hKp.fr (fun q h7 h8 => by rw [eV10, hv_un (by omega)]), hTx.fr (fun q h7 h8 => by rw [eV10, hv_un (by omega)]), hTp.fr (by rw [eV10, hv_un (by omega)]) (fun q h7 h8 => by rw [eV10, hv_un (by omega)]), hSc.fr (fun q h7 h8 => by rw [eV10, hv_un (by omega)]) (fun q h7 h8 => by rw [eV10, hv_un (by omega)])⟩, (fun q h7 => by rw [eV10, hv_un (by omega)]), (fun q h7 h8 => by rw [eV10, hv_un (by omega)])⟩) dX6_cut_50
    · skip
      refine lv_if_ne (tgt := 34) C0.1 C0.2.1 dX6_cut_28 (by decide) (fun h9 => absurd h9 (by decide)) (fun _ => ?_)
      refine lv_bipush (v := -2) C0.1 C0.2.1 dX6_cut_31 (by decide) ?_
      exact hv_iret C0 w hr hlk (by rw [sp_cut, if_pos ihb4, kj1, if_neg hb8]; exact ⟨rfl, hX, hv_out.rf, hv_but.rf⟩) dX6_cut_33
  · skip
    refine lv_if_ne (tgt := 9) C0.1 C0.2.1 dX6_cut_4 (by decide) (fun h9 => absurd h9 (by decide)) (fun _ => ?_)
    refine lv_iconst (v := -1) C0.1 C0.2.1 dX6_cut_7 (by decide) ?_
    exact hv_iret C0 w hr hlk (by rw [sp_cut, if_neg hb4]; exact ⟨rfl, hX, hv_out.rf, hv_but.rf⟩) dX6_cut_8

set_option maxHeartbeats 4000000 in
set_option maxRecDepth 100000 in
theorem k_X6_copies {l : Launch} {X : hv_X} {V : hv_V} {x : Nat} {σ : hs_S} (hX : okX X V x σ) (hB : hs_b σ) {r f : Int32} : hv_Mi l X 6 yX6_copies cX6_copies 3 .int V [.ref x, .int r, .int f] (fun y V1 => y = (sp_copies σ r f).1 ∧ okX X V1 x (sp_copies σ r f).2 ∧ hv_out V V1 x (x + 92) ∧ hv_but V V1 (x + 53) (x + 57)) := by
  refine hv_enter (by decide) (Nat.le_of_ble_eq_true rfl) ?_
  intro p e s m below meth c ls C0 hr hlk hnm w hl
  have hl : lv_has ls 3 [(0, .ref x), (1, .int r), (2, .int f)] := hl
  obtain ⟨kk0, hX0, hPg, hKp, hTx, hTp, hSc⟩ := id hX
  obtain ⟨hP0, ⟨rf, hP1, hP2⟩, hP3, hP4, hP5, hP6⟩ := id hPg
  obtain ⟨⟨tf, hT1, hT2⟩, hT3⟩ := id hTp
  obtain ⟨⟨tk, tn, tg, hS1, hS2⟩, ⟨LF, hS3⟩, ⟨RF, hS4⟩, ⟨bf, hS5, hS6⟩, hS7, uf, hS8⟩ := id hSc
  have hbR := hB.1.1
  obtain ⟨sf, sg, sh, hL0, hL1, hL2, hL3, hLa⟩ := id hP4
  obtain ⟨ef, eg, eh, hM0, hM1, hM2, hM3, hMa⟩ := id hP5
  obtain ⟨kf, kg, kh, hK0, hK1, hK2, hK3, hKa⟩ := id hP6
  obtain ⟨pl, cl, wd, vl, hQ0, hQ1, hQ2, hQ3⟩ := id hTx
  refine lv_iload_n C0.1 C0.2.1 dX6_copies_0 rfl (lv_at hl 1 rfl) ?_
  refine hv_cSi (As := [.int r]) C0 w kl_X6_60 ks_X6_isRow (c_X6_isRow) (by decide) (by decide) rfl hl.1 rfl (Nat.le_of_ble_eq_true rfl) dX6_copies_1 ⟨Nat.le_refl _, Nat.le_refl _⟩ (fun x1 V2 Hq lq hp3 w => ?_)
  obtain ⟨e9, hz9⟩ := hp3
  rw [e9] at w; clear e9
  rcases hz9 with ⟨rfl, hb4⟩ | ⟨rfl, hb4⟩
  · skip
    have ihb4 := hb4
    obtain ⟨j1, hj1, rfl⟩ := sp_inN (k := 5) (by decide) hb4
    have kj1 : (nI j1).toNatClampNeg = j1 := nI_clamp (by omega)
    have hR_j1 : V (x + 1 + 14 + 2 * j1) = some (rE (σ.1.1.1 j1) (σ.1.1.2.1 j1) (x + 1 + 14 + 2 * j1 + 1)) := (hP3 j1 hj1).1
    have hN_j1 : V (x + 1 + 14 + 2 * j1 + 1) = some (nE X (σ.1.1.2.2 j1)) := (hP3 j1 hj1).2
    have hn_j1 : σ.1.1.2.1 j1 ≤ 16 := (hbR j1 hj1).2.1
    refine lv_if_eq (tgt := 14) C0.1 C0.2.1 dX6_copies_4 (by decide) (fun h9 => absurd h9 (by decide)) (fun _ => ?_)
    refine lv_iload_n C0.1 C0.2.1 dX6_copies_7 rfl (lv_at hl 2 rfl) ?_
    refine hv_cSi (As := [.int f]) C0 w kl_X6_60 ks_X6_isRow (c_X6_isRow) (by decide) (by decide) rfl hl.1 rfl (Nat.le_of_ble_eq_true rfl) dX6_copies_8 ⟨Nat.le_refl _, Nat.le_refl _⟩ (fun x5 V6 Hq lq hp7 w => ?_)
    obtain ⟨e9, hz9⟩ := hp7
    rw [e9] at w; clear e9
    rcases hz9 with ⟨rfl, hb8⟩ | ⟨rfl, hb8⟩
    · skip
      have ihb8 := hb8
      obtain ⟨j2, hj2, rfl⟩ := sp_inN (k := 5) (by decide) hb8
      have kj2 : (nI j2).toNatClampNeg = j2 := nI_clamp (by omega)
      have hR_j2 : V (x + 1 + 14 + 2 * j2) = some (rE (σ.1.1.1 j2) (σ.1.1.2.1 j2) (x + 1 + 14 + 2 * j2 + 1)) := (hP3 j2 hj2).1
      have hN_j2 : V (x + 1 + 14 + 2 * j2 + 1) = some (nE X (σ.1.1.2.2 j2)) := (hP3 j2 hj2).2
      have hn_j2 : σ.1.1.2.1 j2 ≤ 16 := (hbR j2 hj2).2.1
      refine lv_if_ne (tgt := 16) C0.1 C0.2.1 dX6_copies_11 (by decide) (fun _ => ?_) (fun h9 => absurd h9 (by decide))
      refine lv_aload_n C0.1 C0.2.1 dX6_copies_16 rfl (lv_at hl 0 rfl) ?_
      refine gf_X6_12 C0 w hX0 rfl dX6_copies_17 ?_
      refine gf_X6_76 C0 w hP0 rfl dX6_copies_20 ?_
      refine lv_iload_n C0.1 C0.2.1 dX6_copies_23 rfl (lv_at hl 1 rfl) ?_
      refine hv_aald 3 C0 w rfl hP1 (hn_in hj1 (by decide)) (by rw [kj1]; exact hP2 j1 hj1) dX6_copies_24 ?_
      refine lv_aload_n C0.1 C0.2.1 dX6_copies_25 rfl (lv_at hl 0 rfl) ?_
      refine gf_X6_12 C0 w hX0 rfl dX6_copies_26 ?_
      refine gf_X6_76 C0 w hP0 rfl dX6_copies_29 ?_
      refine lv_iload_n C0.1 C0.2.1 dX6_copies_32 rfl (lv_at hl 2 rfl) ?_
      refine hv_aald 3 C0 w rfl hP1 (hn_in hj2 (by decide)) (by rw [kj2]; exact hP2 j2 hj2) dX6_copies_33 ?_
      by_cases hjj : j1 = j2
      · subst hjj
        refine hv_cVv C0 w kl_X6_102 kv_X3_becomeAs rfl hR_j1 (c_X3_becomeAs_self hR_j1 hN_j1) (by decide) (by decide) rfl hl.1 rfl (Nat.le_of_ble_eq_true rfl) dX6_copies_34 ⟨Nat.le_refl _, Nat.le_refl _⟩ (fun V10 Hq lq hp11 w => ?_)
        rw [hp11] at w
        refine lv_aload_n C0.1 C0.2.1 dX6_copies_37 rfl (lv_at hl 0 rfl) ?_
        refine gf_X6_12 C0 w hX0 rfl dX6_copies_38 ?_
        refine gf_X6_76 C0 w hP0 rfl dX6_copies_41 ?_
        refine lv_iload_n C0.1 C0.2.1 dX6_copies_44 rfl (lv_at hl 1 rfl) ?_
        refine hv_aald 3 C0 w rfl hP1 (hn_in hj1 (by decide)) (by rw [kj1]; exact hP2 j1 hj1) dX6_copies_45 ?_
        refine gf_X6_88 C0 w hR_j1 rfl dX6_copies_46 ?_
        exact hv_iret C0 w hr hlk (by rw [sp_copies, if_pos ⟨ihb4, ihb8⟩, kj1]; exact ⟨rfl, by rw [show hs_row σ.1 j1 (σ.1.1.1 j1) (σ.1.1.2.1 j1) (σ.1.1.2.2 j1) = σ.1 from by simp only [hs_row, hs_id]]; exact hX, hv_out.rf, hv_but.rf⟩) dX6_copies_49
      · skip
        refine hv_cVv C0 w kl_X6_102 kv_X3_becomeAs rfl hR_j1 (c_X3_becomeAs hR_j1 hN_j1 hR_j2 hN_j2 (by omega) (by omega)) (by decide) (by decide) rfl hl.1 rfl (Nat.le_of_ble_eq_true rfl) dX6_copies_34 ⟨Nat.le_refl _, Nat.le_refl _⟩ (fun V13 Hq lq hp14 w => ?_)
        have hN9 : V13 (x + 1 + 14 + 2 * j1 + 1) = some (nE X (va_cpy (σ.1.1.2.2 j2) (σ.1.1.2.2 j1) 0 0 16)) := by rw [hp14]; exact hv_us
        have w := w.as hN9 (g := σ.1.1.2.2 j2) (fun i9 hi9 => by simp [va_cpy, hi9])
        obtain ⟨V9, eV9⟩ : ∃ V9, V9 = hv_up V13 (x + 1 + 14 + 2 * j1 + 1) (nE X (σ.1.1.2.2 j2)) := ⟨_, rfl⟩
        rw [← eV9] at w
        have hV15 : V9 x = some (.inr (6, [.ref (x + 1), .ref (x + 27), .int kk0, .ref (x + 53), .ref (x + 57), .ref (x + 58), .ref (x + 60), .ref (x + 61), .ref (x + 62), .ref (x + 63)])) := by rw [eV9, hv_un (by omega), hp14, hv_un (by omega), hv_un (by omega)]; exact hX0
        have hV16 : V9 (x + 1) = some (.inr (2, [.ref (x + 1 + 1), .ref (x + 1 + 2), .ref (x + 1 + 6), .ref (x + 1 + 10)])) := by rw [eV9, hv_un (by omega), hp14, hv_un (by omega), hv_un (by omega)]; exact hP0
        have hV17 : V9 (x + 1 + 1) = some (.inl (X.2.1 3, 6, .inr (.inr (.inr (.inr rf))))) := by rw [eV9, hv_un (by omega), hp14, hv_un (by omega), hv_un (by omega)]; exact hP1
        have hV18 : V9 (x + 1 + 14 + 2 * j1) = some (rE (σ.1.1.1 j2) (σ.1.1.2.1 j2) (x + 1 + 14 + 2 * j1 + 1)) := by rw [eV9, hv_un (by omega), hp14, hv_un (by omega)]; exact hv_us
        refine lv_aload_n C0.1 C0.2.1 dX6_copies_37 rfl (lv_at hl 0 rfl) ?_
        refine gf_X6_12 C0 w hV15 rfl dX6_copies_38 ?_
        refine gf_X6_76 C0 w hV16 rfl dX6_copies_41 ?_
        refine lv_iload_n C0.1 C0.2.1 dX6_copies_44 rfl (lv_at hl 1 rfl) ?_
        refine hv_aald 3 C0 w rfl hV17 (hn_in hj1 (by decide)) (by rw [kj1]; exact hP2 j1 hj1) dX6_copies_45 ?_
        refine gf_X6_88 C0 w hV18 rfl dX6_copies_46 ?_
        exact hv_iret C0 w hr hlk (by rw [sp_copies, if_pos ⟨ihb4, ihb8⟩, kj1, kj2]; exact ⟨rfl, ⟨kk0, (by rw [eV9, hv_un (by omega), hp14, hv_un (by omega), hv_un (by omega)] : _ = V x).trans hX0, hPg.row hj1 ⟨by rw [eV9, hv_un (by omega), hp14, hv_un (by omega)]; exact hv_us, by rw [eV9]; exact hv_us⟩ (fun q h7 h8 => by rw [eV9, hv_un (by omega), hp14, hv_un (by omega), hv_un (by omega)]) (fun q h7 h8 => by rw [eV9, hv_un (by omega), hp14, hv_un (by omega), hv_un (by omega)]), hKp.fr (fun q h7 h8 => by rw [eV9, hv_un (by omega), hp14, hv_un (by omega), hv_un (by omega)]), hTx.fr (fun q h7 h8 => by rw [eV9, hv_un (by omega), hp14, hv_un (by omega), hv_un (by omega)]), hTp.fr (by rw [eV9, hv_un (by omega), hp14, hv_un (by omega), hv_un (by omega)]) (fun q h7 h8 => by rw [eV9, hv_un (by omega), hp14, hv_un (by omega), hv_un (by omega)]), hSc.fr (fun q h7 h8 => by rw [eV9, hv_un (by omega), hp14, hv_un (by omega), hv_un (by omega)]) (fun q h7 h8 => by rw [eV9, hv_un (by omega), hp14, hv_un (by omega), hv_un (by omega)])⟩, (fun q h7 => by rw [eV9, hv_un (by omega), hp14, hv_un (by omega), hv_un (by omega)]), (fun q h7 h8 => by rw [eV9, hv_un (by omega), hp14, hv_un (by omega), hv_un (by omega)])⟩) dX6_copies_49
    · skip
      refine lv_if_ne (tgt := 16) C0.1 C0.2.1 dX6_copies_11 (by decide) (fun h9 => absurd h9 (by decide)) (fun _ => ?_)
      refine lv_iconst (v := -1) C0.1 C0.2.1 dX6_copies_14 (by decide) ?_
      exact hv_iret C0 w hr hlk (by rw [sp_copies, if_neg (fun h9 => hb8 h9.2)]; exact ⟨rfl, hX, hv_out.rf, hv_but.rf⟩) dX6_copies_15
  · skip
    refine lv_if_eq (tgt := 14) C0.1 C0.2.1 dX6_copies_4 (by decide) (fun _ => ?_) (fun h9 => absurd h9 (by decide))
    refine lv_iconst (v := -1) C0.1 C0.2.1 dX6_copies_14 (by decide) ?_
    exact hv_iret C0 w hr hlk (by rw [sp_copies, if_neg (fun h9 => hb4 h9.1)]; exact ⟨rfl, hX, hv_out.rf, hv_but.rf⟩) dX6_copies_15

set_option maxHeartbeats 4000000 in
set_option maxRecDepth 100000 in
theorem k_X6_spread {l : Launch} {X : hv_X} {V : hv_V} {x : Nat} {σ : hs_S} (hX : okX X V x σ) (hB : hs_b σ) {r k u lo : Int32} : hv_Mi l X 6 yX6_spread cX6_spread 5 .int V [.ref x, .int r, .int k, .int u, .int lo] (fun y V1 => y = (sp_spread σ r k u lo).1 ∧ okX X V1 x (sp_spread σ r k u lo).2 ∧ hv_out V V1 x (x + 92) ∧ hv_but V V1 (x + 53) (x + 57)) := by
  refine hv_enter (by decide) (Nat.le_of_ble_eq_true rfl) ?_
  intro p e s m below meth c ls C0 hr hlk hnm w hl
  have hl : lv_has ls 5 [(0, .ref x), (1, .int r), (2, .int k), (3, .int u), (4, .int lo)] := hl
  obtain ⟨kk0, hX0, hPg, hKp, hTx, hTp, hSc⟩ := id hX
  obtain ⟨hP0, ⟨rf, hP1, hP2⟩, hP3, hP4, hP5, hP6⟩ := id hPg
  obtain ⟨⟨tf, hT1, hT2⟩, hT3⟩ := id hTp
  obtain ⟨⟨tk, tn, tg, hS1, hS2⟩, ⟨LF, hS3⟩, ⟨RF, hS4⟩, ⟨bf, hS5, hS6⟩, hS7, uf, hS8⟩ := id hSc
  have hbR := hB.1.1
  obtain ⟨sf, sg, sh, hL0, hL1, hL2, hL3, hLa⟩ := id hP4
  obtain ⟨ef, eg, eh, hM0, hM1, hM2, hM3, hMa⟩ := id hP5
  obtain ⟨kf, kg, kh, hK0, hK1, hK2, hK3, hKa⟩ := id hP6
  obtain ⟨pl, cl, wd, vl, hQ0, hQ1, hQ2, hQ3⟩ := id hTx
  refine lv_iload_n C0.1 C0.2.1 dX6_spread_0 rfl (lv_at hl 1 rfl) ?_
  refine hv_cSi (As := [.int r]) C0 w kl_X6_60 ks_X6_isRow (c_X6_isRow) (by decide) (by decide) rfl hl.1 rfl (Nat.le_of_ble_eq_true rfl) dX6_spread_1 ⟨Nat.le_refl _, Nat.le_refl _⟩ (fun x1 V2 Hq lq hp3 w => ?_)
  obtain ⟨e9, hz9⟩ := hp3
  rw [e9] at w; clear e9
  rcases hz9 with ⟨rfl, hb4⟩ | ⟨rfl, hb4⟩
  · skip
    have ihb4 := hb4
    obtain ⟨j1, hj1, rfl⟩ := sp_inN (k := 5) (by decide) hb4
    have kj1 : (nI j1).toNatClampNeg = j1 := nI_clamp (by omega)
    have hR_j1 : V (x + 1 + 14 + 2 * j1) = some (rE (σ.1.1.1 j1) (σ.1.1.2.1 j1) (x + 1 + 14 + 2 * j1 + 1)) := (hP3 j1 hj1).1
    have hN_j1 : V (x + 1 + 14 + 2 * j1 + 1) = some (nE X (σ.1.1.2.2 j1)) := (hP3 j1 hj1).2
    have hn_j1 : σ.1.1.2.1 j1 ≤ 16 := (hbR j1 hj1).2.1
    refine lv_if_eq (tgt := 14) C0.1 C0.2.1 dX6_spread_4 (by decide) (fun h9 => absurd h9 (by decide)) (fun _ => ?_)
    refine lv_iload_n C0.1 C0.2.1 dX6_spread_7 rfl (lv_at hl 2 rfl) ?_
    refine hv_cSi (As := [.int k]) C0 w kl_X6_64 ks_X6_isKind (c_X6_isKind) (by decide) (by decide) rfl hl.1 rfl (Nat.le_of_ble_eq_true rfl) dX6_spread_8 ⟨Nat.le_refl _, Nat.le_refl _⟩ (fun x5 V6 Hq lq hp7 w => ?_)
    obtain ⟨e9, hz9⟩ := hp7
    rw [e9] at w; clear e9
    rcases hz9 with ⟨rfl, hb8⟩ | ⟨rfl, hb8⟩
    · skip
      refine lv_if_ne (tgt := 16) C0.1 C0.2.1 dX6_spread_11 (by decide) (fun _ => ?_) (fun h9 => absurd h9 (by decide))
      refine lv_iload_n C0.1 C0.2.1 dX6_spread_16 rfl (lv_at hl 3 rfl) ?_
      refine lv_iconst (v := 1) C0.1 C0.2.1 dX6_spread_17 (by decide) ?_
      refine lv_ldc C0.1 C0.2.1 C0.2.2.2.1 (C0.2.2.2.2.1 _ kk_X6_67) dX6_spread_18 ?_
      refine hv_cSi (As := [.int u, .int 1, .int 999999]) C0 w kl_X6_68 ks_X6_within (c_X6_within) (by decide) (by decide) rfl hl.1 rfl (Nat.le_of_ble_eq_true rfl) dX6_spread_20 ⟨Nat.le_refl _, Nat.le_refl _⟩ (fun x9 V10 Hq lq hp11 w => ?_)
      obtain ⟨e9, hz9⟩ := hp11
      rw [e9] at w; clear e9
      rcases hz9 with ⟨rfl, hb12⟩ | ⟨rfl, hb12⟩
      · skip
        refine lv_if_eq (tgt := 43) C0.1 C0.2.1 dX6_spread_23 (by decide) (fun h9 => absurd h9 (by decide)) (fun _ => ?_)
        refine lv_iload C0.1 C0.2.1 dX6_spread_26 (lv_at hl 4 rfl) ?_
        refine lv_iconst (v := 1) C0.1 C0.2.1 dX6_spread_28 (by decide) ?_
        refine lv_ldc C0.1 C0.2.1 C0.2.2.2.1 (C0.2.2.2.2.1 _ kk_X6_67) dX6_spread_29 ?_
        refine hv_cSi (As := [.int lo, .int 1, .int 999999]) C0 w kl_X6_68 ks_X6_within (c_X6_within) (by decide) (by decide) rfl hl.1 rfl (Nat.le_of_ble_eq_true rfl) dX6_spread_31 ⟨Nat.le_refl _, Nat.le_refl _⟩ (fun x13 V14 Hq lq hp15 w => ?_)
        obtain ⟨e9, hz9⟩ := hp15
        rw [e9] at w; clear e9
        rcases hz9 with ⟨rfl, hb16⟩ | ⟨rfl, hb16⟩
        · skip
          refine lv_if_eq (tgt := 43) C0.1 C0.2.1 dX6_spread_34 (by decide) (fun h9 => absurd h9 (by decide)) (fun _ => ?_)
          refine lv_iload_n C0.1 C0.2.1 dX6_spread_37 rfl (lv_at hl 3 rfl) ?_
          refine lv_iload C0.1 C0.2.1 dX6_spread_38 (lv_at hl 4 rfl) ?_
          refine lv_icmp_lt (tgt := 46) C0.1 C0.2.1 dX6_spread_40 (by decide) (fun c_40 => ?_) (fun c_40 => ?_)
          · skip
            refine lv_aload_n C0.1 C0.2.1 dX6_spread_46 rfl (lv_at hl 0 rfl) ?_
            refine gf_X6_44 C0 w hX0 rfl dX6_spread_47 ?_
            refine lv_iload_n C0.1 C0.2.1 dX6_spread_50 rfl (lv_at hl 3 rfl) ?_
            refine lv_i2l (v := u.toInt64) C0.1 C0.2.1 dX6_spread_51 rfl ?_
            refine lv_iload C0.1 C0.2.1 dX6_spread_52 (lv_at hl 4 rfl) ?_
            refine lv_i2l (v := lo.toInt64) C0.1 C0.2.1 dX6_spread_54 rfl ?_
            refine hv_cVv C0 w kl_X6_72 kv_X0_become rfl hS3 (c_X0_become (F := LF) hS3) (by decide) (by decide) rfl hl.1 rfl (Nat.le_of_ble_eq_true rfl) dX6_spread_55 ⟨Nat.le_refl _, Nat.le_refl _⟩ (fun V18 Hq lq hp19 w => ?_)
            have hV20 : V18 x = some (.inr (6, [.ref (x + 1), .ref (x + 27), .int kk0, .ref (x + 53), .ref (x + 57), .ref (x + 58), .ref (x + 60), .ref (x + 61), .ref (x + 62), .ref (x + 63)])) := by rw [hp19, hv_un (by omega)]; exact hX0
            have hV21 : V18 (x + 1) = some (.inr (2, [.ref (x + 1 + 1), .ref (x + 1 + 2), .ref (x + 1 + 6), .ref (x + 1 + 10)])) := by rw [hp19, hv_un (by omega)]; exact hP0
            have hV22 : V18 (x + 1 + 1) = some (.inl (X.2.1 3, 6, .inr (.inr (.inr (.inr rf))))) := by rw [hp19, hv_un (by omega)]; exact hP1
            have hV23 : V18 (x + 57) = some (.inl (X.2.1 4, 6, .inr (.inr (.inr (.inr tf))))) := by rw [hp19, hv_un (by omega)]; exact hT1
            have hV25 : V18 (x + 61) = some (fE RF) := by rw [hp19, hv_un (by omega)]; exact hS4
            have hV26 : V18 (x + 58) = some (rE tk tn (x + 58 + 1)) := by rw [hp19, hv_un (by omega)]; exact hS1
            have hV27 : V18 (x + 58 + 1) = some (nE X tg) := by rw [hp19, hv_un (by omega)]; exact hS2
            have hV28 : V18 (x + 1 + 2) = some (.inr (1, [.ref (x + 1 + 2 + 1), .ref (x + 1 + 2 + 2), .ref (x + 1 + 2 + 3), .int (nI σ.1.2.1.1)])) := by rw [hp19, hv_un (by omega)]; exact hL0
            have hV29 : V18 (x + 1 + 2 + 1) = some (.inl (X.2.1 0, 4, .inl sf)) := by rw [hp19, hv_un (by omega)]; exact hL1
            have hV30 : V18 (x + 1 + 2 + 2) = some (.inl (X.2.1 0, 4, .inl sg)) := by rw [hp19, hv_un (by omega)]; exact hL2
            have hV31 : V18 (x + 1 + 2 + 3) = some (.inl (X.2.1 0, 4, .inl sh)) := by rw [hp19, hv_un (by omega)]; exact hL3
            have hV32 : V18 (x + 1 + 6) = some (.inr (1, [.ref (x + 1 + 6 + 1), .ref (x + 1 + 6 + 2), .ref (x + 1 + 6 + 3), .int (nI σ.1.2.2.1.1)])) := by rw [hp19, hv_un (by omega)]; exact hM0
            have hV33 : V18 (x + 1 + 6 + 1) = some (.inl (X.2.1 0, 8, .inl ef)) := by rw [hp19, hv_un (by omega)]; exact hM1
            have hV34 : V18 (x + 1 + 6 + 2) = some (.inl (X.2.1 0, 8, .inl eg)) := by rw [hp19, hv_un (by omega)]; exact hM2
            have hV35 : V18 (x + 1 + 6 + 3) = some (.inl (X.2.1 0, 8, .inl eh)) := by rw [hp19, hv_un (by omega)]; exact hM3
            have hV36 : V18 (x + 1 + 10) = some (.inr (1, [.ref (x + 1 + 10 + 1), .ref (x + 1 + 10 + 2), .ref (x + 1 + 10 + 3), .int (nI σ.1.2.2.2.1)])) := by rw [hp19, hv_un (by omega)]; exact hK0
            have hV37 : V18 (x + 1 + 10 + 1) = some (.inl (X.2.1 0, 8, .inl kf)) := by rw [hp19, hv_un (by omega)]; exact hK1
            have hV38 : V18 (x + 1 + 10 + 2) = some (.inl (X.2.1 0, 8, .inl kg)) := by rw [hp19, hv_un (by omega)]; exact hK2
            have hV39 : V18 (x + 1 + 10 + 3) = some (.inl (X.2.1 0, 8, .inl kh)) := by rw [hp19, hv_un (by omega)]; exact hK3
            have hV40 : V18 (x + 53) = some (.inr (4, [.ref (x + 53 + 1), .int (nI σ.2.2.1.1), .int pl, .int cl, .ref (x + 53 + 2), .ref (x + 53 + 3)])) := by rw [hp19, hv_un (by omega)]; exact hQ0
            have hV41 : V18 (x + 53 + 1) = some (.inl (X.2.1 2, 100, .inl σ.2.2.1.2)) := by rw [hp19, hv_un (by omega)]; exact hQ1
            have hV42 : V18 (x + 1 + 14 + 2 * j1) = some (rE (σ.1.1.1 j1) (σ.1.1.2.1 j1) (x + 1 + 14 + 2 * j1 + 1)) := by rw [hp19, hv_un (by omega)]; exact hR_j1
            have hV43 : V18 (x + 1 + 14 + 2 * j1 + 1) = some (nE X (σ.1.1.2.2 j1)) := by rw [hp19, hv_un (by omega)]; exact hN_j1
            have hV44 : V18 (x + 60) = some (fE (fx_become (u.toInt64) (lo.toInt64))) := by rw [hp19]; exact hv_us
            refine lv_aload_n C0.1 C0.2.1 dX6_spread_58 rfl (lv_at hl 0 rfl) ?_
            refine gf_X6_12 C0 w hV20 rfl dX6_spread_59 ?_
            refine gf_X6_76 C0 w hV21 rfl dX6_spread_62 ?_
            refine lv_iload_n C0.1 C0.2.1 dX6_spread_65 rfl (lv_at hl 1 rfl) ?_
            refine hv_aald 3 C0 w rfl hV22 (hn_in hj1 (by decide)) (by rw [kj1]; exact hP2 j1 hj1) dX6_spread_66 ?_
            refine lv_iload_n C0.1 C0.2.1 dX6_spread_67 rfl (lv_at hl 2 rfl) ?_
            refine lv_aload_n C0.1 C0.2.1 dX6_spread_68 rfl (lv_at hl 0 rfl) ?_
            refine gf_X6_44 C0 w hV20 rfl dX6_spread_69 ?_
            refine hv_cVv C0 w kl_X6_80 kv_X3_unfold rfl hV42 (c_X3_unfold hV42 hV43 (G0 := (fx_become (u.toInt64) (lo.toInt64))) hV44) (by decide) (by decide) rfl hl.1 rfl (Nat.le_of_ble_eq_true rfl) dX6_spread_72 ⟨Nat.le_refl _, Nat.le_refl _⟩ (fun V46 Hq lq hp47 w => ?_)
            have hV48 : V46 x = some (.inr (6, [.ref (x + 1), .ref (x + 27), .int kk0, .ref (x + 53), .ref (x + 57), .ref (x + 58), .ref (x + 60), .ref (x + 61), .ref (x + 62), .ref (x + 63)])) := by rw [hp47, hv_un (by omega), hv_un (by omega), hv_un (by omega)]; exact hV20
            have hV49 : V46 (x + 60) = some (fE (fx_unf k 16 0 (σ.1.1.2.2 j1) (fx_become (u.toInt64) (lo.toInt64))).2.2) := by rw [hp47]; exact hv_us
            refine lv_aload_n C0.1 C0.2.1 dX6_spread_75 rfl (lv_at hl 0 rfl) ?_
            refine gf_X6_44 C0 w hV48 rfl dX6_spread_76 ?_
            refine hv_cVi C0 w kl_X6_84 kv_X0_isNought rfl hV49 (c_X0_isNought (F := ((fx_unf k 16 0 (σ.1.1.2.2 j1) (fx_become (u.toInt64) (lo.toInt64))).2.2)) hV49) (by decide) (by decide) rfl hl.1 rfl (Nat.le_of_ble_eq_true rfl) dX6_spread_79 ⟨Nat.le_refl _, Nat.le_refl _⟩ (fun x50 V51 Hq lq hp52 w => ?_)
            obtain ⟨e9, hz9⟩ := hp52
            rw [e9] at w; clear e9
            rcases hz9 with ⟨rfl, hn53⟩ | ⟨rfl, hn53⟩
            · skip
              refine lv_if_eq (tgt := 89) C0.1 C0.2.1 dX6_spread_82 (by decide) (fun h9 => absurd h9 (by decide)) (fun _ => ?_)
              refine lv_iconst (v := 1) C0.1 C0.2.1 dX6_spread_85 (by decide) ?_
              refine lv_goto (tgt := 90) C0.1 C0.2.1 dX6_spread_86 (by decide) ?_
              exact hv_iret C0 w hr hlk (by rw [sp_spread, if_pos ⟨ihb4, hb8⟩, if_pos ⟨hb12, hb16, c_40⟩, kj1, sp_sprd, if_pos hn53]; exact ⟨rfl, ⟨kk0, (by rw [hp47, hv_un (by omega), hv_un (by omega), hv_un (by omega), hp19, hv_un (by omega)] : _ = V x).trans hX0, hPg.row hj1 ⟨by rw [hp47, hv_un (by omega), hv_un (by omega)]; exact hv_us, by rw [hp47, hv_un (by omega)]; exact hv_us⟩ (fun q h7 h8 => by rw [hp47, hv_un (by omega), hv_un (by omega), hv_un (by omega), hp19, hv_un (by omega)]) (fun q h7 h8 => by rw [hp47, hv_un (by omega), hv_un (by omega), hv_un (by omega), hp19, hv_un (by omega)]), hKp.fr (fun q h7 h8 => by rw [hp47, hv_un (by omega), hv_un (by omega), hv_un (by omega), hp19, hv_un (by omega)]), hTx.fr (fun q h7 h8 => by rw [hp47, hv_un (by omega), hv_un (by omega), hv_un (by omega), hp19, hv_un (by omega)]), hTp.fr (by rw [hp47, hv_un (by omega), hv_un (by omega), hv_un (by omega), hp19, hv_un (by omega)]) (fun q h7 h8 => by rw [hp47, hv_un (by omega), hv_un (by omega), hv_un (by omega), hp19, hv_un (by omega)]), hSc.gen ⟨tk, tn, tg, (by rw [hp47, hv_un (by omega), hv_un (by omega), hv_un (by omega), hp19, hv_un (by omega)] : _ = V (x + 58)).trans hS1, (by rw [hp47, hv_un (by omega), hv_un (by omega), hv_un (by omega), hp19, hv_un (by omega)] : _ = V (x + 58 + 1)).trans hS2⟩ ⟨_, by rw [hp47]; exact hv_us⟩ ⟨RF, (by rw [hp47, hv_un (by omega), hv_un (by omega), hv_un (by omega), hp19, hv_un (by omega)] : _ = V (x + 61)).trans hS4⟩ (fun q h7 h8 => by rw [hp47, hv_un (by omega), hv_un (by omega), hv_un (by omega), hp19, hv_un (by omega)]) (fun q h7 h8 => by rw [hp47, hv_un (by omega), hv_un (by omega), hv_un (by omega), hp19, hv_un (by omega)])⟩, (fun q h7 => by rw [hp47, hv_un (by omega), hv_un (by omega), hv_un (by omega), hp19, hv_un (by omega)]), (fun q h7 h8 => by rw [hp47, hv_un (by omega), hv_un (by omega), hv_un (by omega), hp19, hv_un (by omega)])⟩) dX6_spread_90
            · skip
              refine lv_if_eq (tgt := 89) C0.1 C0.2.1 dX6_spread_82 (by decide) (fun _ => ?_) (fun h9 => absurd h9 (by decide))
              refine lv_iconst (v := 0) C0.1 C0.2.1 dX6_spread_89 (by decide) ?_
              exact hv_iret C0 w hr hlk (by rw [sp_spread, if_pos ⟨ihb4, hb8⟩, if_pos ⟨hb12, hb16, c_40⟩, kj1, sp_sprd, if_neg hn53]; exact ⟨rfl, ⟨kk0, (by rw [hp47, hv_un (by omega), hv_un (by omega), hv_un (by omega), hp19, hv_un (by omega)] : _ = V x).trans hX0, hPg.row hj1 ⟨by rw [hp47, hv_un (by omega), hv_un (by omega)]; exact hv_us, by rw [hp47, hv_un (by omega)]; exact hv_us⟩ (fun q h7 h8 => by rw [hp47, hv_un (by omega), hv_un (by omega), hv_un (by omega), hp19, hv_un (by omega)]) (fun q h7 h8 => by rw [hp47, hv_un (by omega), hv_un (by omega), hv_un (by omega), hp19, hv_un (by omega)]), hKp.fr (fun q h7 h8 => by rw [hp47, hv_un (by omega), hv_un (by omega), hv_un (by omega), hp19, hv_un (by omega)]), hTx.fr (fun q h7 h8 => by rw [hp47, hv_un (by omega), hv_un (by omega), hv_un (by omega), hp19, hv_un (by omega)]), hTp.fr (by rw [hp47, hv_un (by omega), hv_un (by omega), hv_un (by omega), hp19, hv_un (by omega)]) (fun q h7 h8 => by rw [hp47, hv_un (by omega), hv_un (by omega), hv_un (by omega), hp19, hv_un (by omega)]), hSc.gen ⟨tk, tn, tg, (by rw [hp47, hv_un (by omega), hv_un (by omega), hv_un (by omega), hp19, hv_un (by omega)] : _ = V (x + 58)).trans hS1, (by rw [hp47, hv_un (by omega), hv_un (by omega), hv_un (by omega), hp19, hv_un (by omega)] : _ = V (x + 58 + 1)).trans hS2⟩ ⟨_, by rw [hp47]; exact hv_us⟩ ⟨RF, (by rw [hp47, hv_un (by omega), hv_un (by omega), hv_un (by omega), hp19, hv_un (by omega)] : _ = V (x + 61)).trans hS4⟩ (fun q h7 h8 => by rw [hp47, hv_un (by omega), hv_un (by omega), hv_un (by omega), hp19, hv_un (by omega)]) (fun q h7 h8 => by rw [hp47, hv_un (by omega), hv_un (by omega), hv_un (by omega), hp19, hv_un (by omega)])⟩, (fun q h7 => by rw [hp47, hv_un (by omega), hv_un (by omega), hv_un (by omega), hp19, hv_un (by omega)]), (fun q h7 h8 => by rw [hp47, hv_un (by omega), hv_un (by omega), hv_un (by omega), hp19, hv_un (by omega)])⟩) dX6_spread_90
          · skip
            refine lv_bipush (v := -2) C0.1 C0.2.1 dX6_spread_43 (by decide) ?_
            exact hv_iret C0 w hr hlk (by rw [sp_spread, if_pos ⟨ihb4, hb8⟩, if_neg (fun h9 => c_40 h9.2.2)]; exact ⟨rfl, hX, hv_out.rf, hv_but.rf⟩) dX6_spread_45
        · skip
          refine lv_if_eq (tgt := 43) C0.1 C0.2.1 dX6_spread_34 (by decide) (fun _ => ?_) (fun h9 => absurd h9 (by decide))
          refine lv_bipush (v := -2) C0.1 C0.2.1 dX6_spread_43 (by decide) ?_
          exact hv_iret C0 w hr hlk (by rw [sp_spread, if_pos ⟨ihb4, hb8⟩, if_neg (fun h9 => hb16 h9.2.1)]; exact ⟨rfl, hX, hv_out.rf, hv_but.rf⟩) dX6_spread_45
      · skip
        refine lv_if_eq (tgt := 43) C0.1 C0.2.1 dX6_spread_23 (by decide) (fun _ => ?_) (fun h9 => absurd h9 (by decide))
        refine lv_bipush (v := -2) C0.1 C0.2.1 dX6_spread_43 (by decide) ?_
        exact hv_iret C0 w hr hlk (by rw [sp_spread, if_pos ⟨ihb4, hb8⟩, if_neg (fun h9 => hb12 h9.1)]; exact ⟨rfl, hX, hv_out.rf, hv_but.rf⟩) dX6_spread_45
    · skip
      refine lv_if_ne (tgt := 16) C0.1 C0.2.1 dX6_spread_11 (by decide) (fun h9 => absurd h9 (by decide)) (fun _ => ?_)
      refine lv_iconst (v := -1) C0.1 C0.2.1 dX6_spread_14 (by decide) ?_
      exact hv_iret C0 w hr hlk (by rw [sp_spread, if_neg (fun h9 => hb8 h9.2)]; exact ⟨rfl, hX, hv_out.rf, hv_but.rf⟩) dX6_spread_15
  · skip
    refine lv_if_eq (tgt := 14) C0.1 C0.2.1 dX6_spread_4 (by decide) (fun _ => ?_) (fun h9 => absurd h9 (by decide))
    refine lv_iconst (v := -1) C0.1 C0.2.1 dX6_spread_14 (by decide) ?_
    exact hv_iret C0 w hr hlk (by rw [sp_spread, if_neg (fun h9 => hb4 h9.1)]; exact ⟨rfl, hX, hv_out.rf, hv_but.rf⟩) dX6_spread_15

set_option maxHeartbeats 4000000 in
set_option maxRecDepth 100000 in
theorem k_X7_begin {l : Launch} {X : hv_X} {V : hv_V} {mo : Nat} {σ : hs_S} (hM : okM X V mo σ) (hB : hs_b σ) {r k : Int32} : hv_Mi l X 220 yX7_begin cX7_begin 4 .int V [.ref mo, .int r, .int k] (fun y V1 => y = (sp_begin σ r k).1 ∧ okM X V1 mo (sp_begin σ r k).2 ∧ hv_out V V1 mo (mo + 50) ∧ om_kp V V1 mo) := by
  refine hv_enter (by decide) (Nat.le_of_ble_eq_true rfl) ?_
  intro p e s m below meth c ls C0 hr hlk hnm w hl
  have hl : lv_has ls 4 [(0, .ref mo), (1, .int r), (2, .int k)] := hl
  obtain ⟨ab, be, pl, cl, sg, ik, hO, hRw, hTx, hSc, hSe, hEv, hBk, hIm, hTp⟩ := id hM
  obtain ⟨r1, r2, ⟨rf, r3, r4⟩, r5⟩ := id hRw
  obtain ⟨⟨wd, s1⟩, ⟨td, s2⟩, ⟨sn, s3⟩, ⟨ut, s4⟩, kn, s5⟩ := id hSc
  obtain ⟨sf, sg9, sh, e1, e2, e3, ea⟩ := id hSe
  obtain ⟨ef, eg, v1, v2, va⟩ := id hEv
  obtain ⟨bf, bg, b1, b2, ba⟩ := id hBk
  obtain ⟨t1, t2, ⟨tf, t3, t4⟩, t5⟩ := id hTp
  have hbR := hB.1.1
  refine lv_iload_n C0.1 C0.2.1 dX7_begin_0 rfl (lv_at hl 1 rfl) ?_
  refine hv_cSi (As := [.int r]) C0 w kl_X7_135 ks_X7_isRow (c_X7_isRow) (by decide) (by decide) rfl hl.1 rfl (Nat.le_of_ble_eq_true rfl) dX7_begin_1 ⟨Nat.le_refl _, Nat.le_refl _⟩ (fun x1 V2 Hq lq hp3 w => ?_)
  obtain ⟨e9, hz9⟩ := hp3
  rw [e9] at w; clear e9
  rcases hz9 with ⟨rfl, hb4⟩ | ⟨rfl, hb4⟩
  · skip
    have ihb4 := hb4
    obtain ⟨j1, hj1, rfl⟩ := sp_inN (k := 5) (by decide) hb4
    have kj1 : (nI j1).toNatClampNeg = j1 := nI_clamp (by omega)
    have hN_j1 : V (mo + 4 + j1) = some (nE X (σ.1.1.2.2 j1)) := r5 j1 hj1
    have hn_j1 : σ.1.1.2.1 j1 ≤ 16 := (hbR j1 hj1).2.1
    refine lv_if_eq (tgt := 14) C0.1 C0.2.1 dX7_begin_4 (by decide) (fun h9 => absurd h9 (by decide)) (fun _ => ?_)
    refine lv_iload_n C0.1 C0.2.1 dX7_begin_7 rfl (lv_at hl 2 rfl) ?_
    refine hv_cSi (As := [.int k]) C0 w kl_X7_139 ks_X7_isKind (c_X7_isKind) (by decide) (by decide) rfl hl.1 rfl (Nat.le_of_ble_eq_true rfl) dX7_begin_8 ⟨Nat.le_refl _, Nat.le_refl _⟩ (fun x5 V6 Hq lq hp7 w => ?_)
    obtain ⟨e9, hz9⟩ := hp7
    rw [e9] at w; clear e9
    rcases hz9 with ⟨rfl, hb8⟩ | ⟨rfl, hb8⟩
    · skip
      refine lv_if_ne (tgt := 16) C0.1 C0.2.1 dX7_begin_11 (by decide) (fun _ => ?_) (fun h9 => absurd h9 (by decide))
      refine lv_aload_n C0.1 C0.2.1 dX7_begin_16 rfl (lv_at hl 0 rfl) ?_
      refine gf_X7_15 C0 w hO rfl dX7_begin_17 ?_
      refine lv_iload_n C0.1 C0.2.1 dX7_begin_20 rfl (lv_at hl 1 rfl) ?_
      refine hv_iald C0 w r2 (hn_in hj1 (by decide)) dX7_begin_21 ?_
      have hc9 : (nI j1).toNatClampNeg = j1 := nI_clamp (by omega)
      rw [hc9]
      refine lv_istore_n (lv' := [(3, .int (nI (σ.1.1.2.1 j1))), (0, .ref mo), (1, .int (nI j1)), (2, .int k)]) C0.1 C0.2.1 dX7_begin_22 rfl hl (by decide) rfl (fun ls hl => ?_)
      refine lv_aload_n C0.1 C0.2.1 dX7_begin_23 rfl (lv_at hl 1 rfl) ?_
      refine gf_X7_11 C0 w hO rfl dX7_begin_24 ?_
      refine lv_iload_n C0.1 C0.2.1 dX7_begin_27 rfl (lv_at hl 2 rfl) ?_
      refine lv_iload_n C0.1 C0.2.1 dX7_begin_28 rfl (lv_at hl 3 rfl) ?_
      refine hv_iast C0 w r1 (hn_in hj1 (by decide)) dX7_begin_29 (fun Hq lq w => ?_)
      have hc10 : (nI j1).toNatClampNeg = j1 := nI_clamp (by omega)
      rw [hc10] at w
      obtain ⟨V11, eV12⟩ : ∃ V9, V9 = hv_up V (mo + 1) (.inl (X.2.1 0, 6, .inl (upd (σ.1.1.1) j1 k))) := ⟨_, rfl⟩
      have w : hv_w X s V11 Hq lq := by rw [eV12]; exact w
      have hV13 : V11 mo = some (.inr (7, [.ref (mo + 1), .ref (mo + 2), .ref (mo + 3), .long ab, .long be, .ref (mo + 10), .int (nI σ.2.2.1.1), .int pl, .int cl, .ref (mo + 11), .ref (mo + 12), .ref (mo + 13), .int sg, .ref (mo + 14), .ref (mo + 15), .ref (mo + 16), .ref (mo + 17), .int (nI σ.1.2.1.1), .ref (mo + 18), .ref (mo + 19), .int (nI σ.1.2.2.1.1), .ref (mo + 20), .ref (mo + 21), .ref (mo + 22), .int (nI σ.1.2.2.2.1), .int ik, .ref (mo + 23), .ref (mo + 24), .ref (mo + 25), .ref (mo + 26), .ref (mo + 33), .ref (mo + 41), .ref (mo + 42), .ref (mo + 43)])) := by rw [eV12, hv_un (by omega)]; exact hO
      have hV15 : V11 (mo + 2) = some (.inl (X.2.1 0, 6, .inl (fun j => nI (σ.1.1.2.1 j)))) := by rw [eV12, hv_un (by omega)]; exact r2
      have hV16 : V11 (mo + 3) = some (.inl (X.2.1 6, 6, .inr (.inr (.inr (.inr rf))))) := by rw [eV12, hv_un (by omega)]; exact r3
      have hV17 : V11 (mo + 10) = some (.inl (X.2.1 2, 100, .inl σ.2.2.1.2)) := by rw [eV12, hv_un (by omega)]; exact hTx
      have hV18 : V11 (mo + 11) = some (.inl (X.2.1 0, 12, .inl wd)) := by rw [eV12, hv_un (by omega)]; exact s1
      have hV19 : V11 (mo + 12) = some (.inl (X.2.1 0, 48, .inl td)) := by rw [eV12, hv_un (by omega)]; exact s2
      have hV20 : V11 (mo + 13) = some (.inl (X.2.1 2, 178, .inl sn)) := by rw [eV12, hv_un (by omega)]; exact s3
      have hV21 : V11 (mo + 14) = some (.inl (X.2.1 0, 3, .inl ut)) := by rw [eV12, hv_un (by omega)]; exact s4
      have hV22 : V11 (mo + 20) = some (.inl (X.2.1 0, 16, .inl kn)) := by rw [eV12, hv_un (by omega)]; exact s5
      have hV23 : V11 (mo + 15) = some (.inl (X.2.1 0, 4, .inl sf)) := by rw [eV12, hv_un (by omega)]; exact e1
      have hV24 : V11 (mo + 16) = some (.inl (X.2.1 0, 4, .inl sg9)) := by rw [eV12, hv_un (by omega)]; exact e2
      have hV25 : V11 (mo + 17) = some (.inl (X.2.1 0, 4, .inl sh)) := by rw [eV12, hv_un (by omega)]; exact e3
      have hV26 : V11 (mo + 18) = some (.inl (X.2.1 0, 8, .inl ef)) := by rw [eV12, hv_un (by omega)]; exact v1
      have hV27 : V11 (mo + 19) = some (.inl (X.2.1 0, 8, .inl eg)) := by rw [eV12, hv_un (by omega)]; exact v2
      have hV28 : V11 (mo + 21) = some (.inl (X.2.1 0, 8, .inl bf)) := by rw [eV12, hv_un (by omega)]; exact b1
      have hV29 : V11 (mo + 22) = some (.inl (X.2.1 0, 8, .inl bg)) := by rw [eV12, hv_un (by omega)]; exact b2
      have hV30 : V11 (mo + 41) = some (.inl (X.2.1 0, 6, .inl σ.2.2.2.1)) := by rw [eV12, hv_un (by omega)]; exact t1
      have hV31 : V11 (mo + 42) = some (.inl (X.2.1 0, 6, .inl (fun j => nI (σ.2.2.2.2.1 j)))) := by rw [eV12, hv_un (by omega)]; exact t2
      have hV32 : V11 (mo + 43) = some (.inl (X.2.1 7, 6, .inr (.inr (.inr (.inr tf))))) := by rw [eV12, hv_un (by omega)]; exact t3
      have hV33 : V11 (mo + 4 + j1) = some (.inl (X.2.1 0, 16, .inl (σ.1.1.2.2 j1))) := by rw [eV12, hv_un (by omega)]; exact hN_j1
      have hV34 : V11 (mo + 1) = some (.inl (X.2.1 0, 6, .inl (upd (σ.1.1.1) j1 k))) := by rw [eV12]; exact hv_us
      refine lv_aload_n C0.1 C0.2.1 dX7_begin_30 rfl (lv_at hl 1 rfl) ?_
      refine gf_X7_15 C0 w hV13 rfl dX7_begin_31 ?_
      refine lv_iload_n C0.1 C0.2.1 dX7_begin_34 rfl (lv_at hl 2 rfl) ?_
      refine lv_iconst (v := 0) C0.1 C0.2.1 dX7_begin_35 (by decide) ?_
      refine hv_iast C0 w hV15 (hn_in hj1 (by decide)) dX7_begin_36 (fun Hq lq w => ?_)
      have hc35 : (nI j1).toNatClampNeg = j1 := nI_clamp (by omega)
      rw [hc35] at w
      obtain ⟨V36, eV37⟩ : ∃ V9, V9 = hv_up V11 (mo + 2) (.inl (X.2.1 0, 6, .inl (upd (fun j => nI (σ.1.1.2.1 j)) j1 0))) := ⟨_, rfl⟩
      have w : hv_w X s V36 Hq lq := by rw [eV37]; exact w
      have hV38 : V36 mo = some (.inr (7, [.ref (mo + 1), .ref (mo + 2), .ref (mo + 3), .long ab, .long be, .ref (mo + 10), .int (nI σ.2.2.1.1), .int pl, .int cl, .ref (mo + 11), .ref (mo + 12), .ref (mo + 13), .int sg, .ref (mo + 14), .ref (mo + 15), .ref (mo + 16), .ref (mo + 17), .int (nI σ.1.2.1.1), .ref (mo + 18), .ref (mo + 19), .int (nI σ.1.2.2.1.1), .ref (mo + 20), .ref (mo + 21), .ref (mo + 22), .int (nI σ.1.2.2.2.1), .int ik, .ref (mo + 23), .ref (mo + 24), .ref (mo + 25), .ref (mo + 26), .ref (mo + 33), .ref (mo + 41), .ref (mo + 42), .ref (mo + 43)])) := by rw [eV37, hv_un (by omega)]; exact hV13
      have hV40 : V36 (mo + 3) = some (.inl (X.2.1 6, 6, .inr (.inr (.inr (.inr rf))))) := by rw [eV37, hv_un (by omega)]; exact hV16
      have hV41 : V36 (mo + 10) = some (.inl (X.2.1 2, 100, .inl σ.2.2.1.2)) := by rw [eV37, hv_un (by omega)]; exact hV17
      have hV42 : V36 (mo + 11) = some (.inl (X.2.1 0, 12, .inl wd)) := by rw [eV37, hv_un (by omega)]; exact hV18
      have hV43 : V36 (mo + 12) = some (.inl (X.2.1 0, 48, .inl td)) := by rw [eV37, hv_un (by omega)]; exact hV19
      have hV44 : V36 (mo + 13) = some (.inl (X.2.1 2, 178, .inl sn)) := by rw [eV37, hv_un (by omega)]; exact hV20
      have hV45 : V36 (mo + 14) = some (.inl (X.2.1 0, 3, .inl ut)) := by rw [eV37, hv_un (by omega)]; exact hV21
      have hV46 : V36 (mo + 20) = some (.inl (X.2.1 0, 16, .inl kn)) := by rw [eV37, hv_un (by omega)]; exact hV22
      have hV47 : V36 (mo + 15) = some (.inl (X.2.1 0, 4, .inl sf)) := by rw [eV37, hv_un (by omega)]; exact hV23
      have hV48 : V36 (mo + 16) = some (.inl (X.2.1 0, 4, .inl sg9)) := by rw [eV37, hv_un (by omega)]; exact hV24
      have hV49 : V36 (mo + 17) = some (.inl (X.2.1 0, 4, .inl sh)) := by rw [eV37, hv_un (by omega)]; exact hV25
      have hV50 : V36 (mo + 18) = some (.inl (X.2.1 0, 8, .inl ef)) := by rw [eV37, hv_un (by omega)]; exact hV26
      have hV51 : V36 (mo + 19) = some (.inl (X.2.1 0, 8, .inl eg)) := by rw [eV37, hv_un (by omega)]; exact hV27
      have hV52 : V36 (mo + 21) = some (.inl (X.2.1 0, 8, .inl bf)) := by rw [eV37, hv_un (by omega)]; exact hV28
      have hV53 : V36 (mo + 22) = some (.inl (X.2.1 0, 8, .inl bg)) := by rw [eV37, hv_un (by omega)]; exact hV29
      have hV54 : V36 (mo + 41) = some (.inl (X.2.1 0, 6, .inl σ.2.2.2.1)) := by rw [eV37, hv_un (by omega)]; exact hV30
      have hV55 : V36 (mo + 42) = some (.inl (X.2.1 0, 6, .inl (fun j => nI (σ.2.2.2.2.1 j)))) := by rw [eV37, hv_un (by omega)]; exact hV31
      have hV56 : V36 (mo + 43) = some (.inl (X.2.1 7, 6, .inr (.inr (.inr (.inr tf))))) := by rw [eV37, hv_un (by omega)]; exact hV32
      have hV57 : V36 (mo + 4 + j1) = some (.inl (X.2.1 0, 16, .inl (σ.1.1.2.2 j1))) := by rw [eV37, hv_un (by omega)]; exact hV33
      have hV58 : V36 (mo + 1) = some (.inl (X.2.1 0, 6, .inl (upd (σ.1.1.1) j1 k))) := by rw [eV37, hv_un (by omega)]; exact hV34
      have hV59 : V36 (mo + 2) = some (.inl (X.2.1 0, 6, .inl (upd (fun j => nI (σ.1.1.2.1 j)) j1 0))) := by rw [eV37]; exact hv_us
      refine lv_iload_n C0.1 C0.2.1 dX7_begin_37 rfl (lv_at hl 0 rfl) ?_
      exact hv_iret C0 w hr hlk (by rw [sp_begin, if_pos ⟨ihb4, hb8⟩, kj1]; exact ⟨rfl, ⟨ab, be, pl, cl, sg, ik, ((by rw [eV37, hv_un (by omega), eV12, hv_un (by omega)] : _ = V mo).trans hO), hRw.set hj1 (by rw [eV37, hv_un (by omega), eV12]; exact hv_us) (by rw [eV37]; exact hv_us) ((by rw [eV37, hv_un (by omega), eV12, hv_un (by omega)] : _ = V (mo + 4 + j1)).trans hN_j1) (by rw [eV37, hv_un (by omega), eV12, hv_un (by omega)]) (fun i9 hi9 hne9 => by rw [eV37, hv_un (by omega), eV12, hv_un (by omega)]), (by rw [eV37, hv_un (by omega), eV12, hv_un (by omega)] : _ = V (mo + 10)).trans hTx, hSc.fr (fun q h7 h8 => by rw [eV37, hv_un (by omega), eV12, hv_un (by omega)]) (fun q h7 h8 => by rw [eV37, hv_un (by omega), eV12, hv_un (by omega)]), hSe.fr (fun q h7 h8 => by rw [eV37, hv_un (by omega), eV12, hv_un (by omega)]), hEv.fr (by rw [eV37, hv_un (by omega), eV12, hv_un (by omega)]) (by rw [eV37, hv_un (by omega), eV12, hv_un (by omega)]), hBk.fr (by rw [eV37, hv_un (by omega), eV12, hv_un (by omega)]) (by rw [eV37, hv_un (by omega), eV12, hv_un (by omega)]), hIm.fr (fun q h7 h8 => by rw [eV37, hv_un (by omega), eV12, hv_un (by omega)]), hTp.fr (fun q h7 h8 => by rw [eV37, hv_un (by omega), eV12, hv_un (by omega)])⟩, (fun q h7 => by rw [eV37, hv_un (by omega), eV12, hv_un (by omega)]), om_kp.sm (by rw [eV37, hv_un (by omega), eV12, hv_un (by omega)]) (by rw [eV37, hv_un (by omega), eV12, hv_un (by omega)]) (by rw [eV37, hv_un (by omega), eV12, hv_un (by omega)])⟩) dX7_begin_38
    · skip
      refine lv_if_ne (tgt := 16) C0.1 C0.2.1 dX7_begin_11 (by decide) (fun h9 => absurd h9 (by decide)) (fun _ => ?_)
      refine lv_iconst (v := -1) C0.1 C0.2.1 dX7_begin_14 (by decide) ?_
      exact hv_iret C0 w hr hlk (by rw [sp_begin, if_neg (fun h9 => hb8 h9.2)]; exact ⟨rfl, hM, hv_out.rf, om_kp.rf⟩) dX7_begin_15
  · skip
    refine lv_if_eq (tgt := 14) C0.1 C0.2.1 dX7_begin_4 (by decide) (fun _ => ?_) (fun h9 => absurd h9 (by decide))
    refine lv_iconst (v := -1) C0.1 C0.2.1 dX7_begin_14 (by decide) ?_
    exact hv_iret C0 w hr hlk (by rw [sp_begin, if_neg (fun h9 => hb4 h9.1)]; exact ⟨rfl, hM, hv_out.rf, om_kp.rf⟩) dX7_begin_15

set_option maxHeartbeats 4000000 in
set_option maxRecDepth 100000 in
theorem k_X7_add {l : Launch} {X : hv_X} {V : hv_V} {mo : Nat} {σ : hs_S} (hM : okM X V mo σ) (hB : hs_b σ) {r v : Int32} : hv_Mi l X 220 yX7_add cX7_add 3 .int V [.ref mo, .int r, .int v] (fun y V1 => y = (sp_add σ r v).1 ∧ okM X V1 mo (sp_add σ r v).2 ∧ hv_out V V1 mo (mo + 50) ∧ om_kp V V1 mo) := by
  refine hv_enter (by decide) (Nat.le_of_ble_eq_true rfl) ?_
  intro p e s m below meth c ls C0 hr hlk hnm w hl
  have hl : lv_has ls 3 [(0, .ref mo), (1, .int r), (2, .int v)] := hl
  obtain ⟨ab, be, pl, cl, sg, ik, hO, hRw, hTx, hSc, hSe, hEv, hBk, hIm, hTp⟩ := id hM
  obtain ⟨r1, r2, ⟨rf, r3, r4⟩, r5⟩ := id hRw
  obtain ⟨⟨wd, s1⟩, ⟨td, s2⟩, ⟨sn, s3⟩, ⟨ut, s4⟩, kn, s5⟩ := id hSc
  obtain ⟨sf, sg9, sh, e1, e2, e3, ea⟩ := id hSe
  obtain ⟨ef, eg, v1, v2, va⟩ := id hEv
  obtain ⟨bf, bg, b1, b2, ba⟩ := id hBk
  obtain ⟨t1, t2, ⟨tf, t3, t4⟩, t5⟩ := id hTp
  have hbR := hB.1.1
  refine lv_iload_n C0.1 C0.2.1 dX7_add_0 rfl (lv_at hl 1 rfl) ?_
  refine hv_cSi (As := [.int r]) C0 w kl_X7_135 ks_X7_isRow (c_X7_isRow) (by decide) (by decide) rfl hl.1 rfl (Nat.le_of_ble_eq_true rfl) dX7_add_1 ⟨Nat.le_refl _, Nat.le_refl _⟩ (fun x1 V2 Hq lq hp3 w => ?_)
  obtain ⟨e9, hz9⟩ := hp3
  rw [e9] at w; clear e9
  rcases hz9 with ⟨rfl, hb4⟩ | ⟨rfl, hb4⟩
  · skip
    have ihb4 := hb4
    obtain ⟨j1, hj1, rfl⟩ := sp_inN (k := 5) (by decide) hb4
    have kj1 : (nI j1).toNatClampNeg = j1 := nI_clamp (by omega)
    have hN_j1 : V (mo + 4 + j1) = some (nE X (σ.1.1.2.2 j1)) := r5 j1 hj1
    have hn_j1 : σ.1.1.2.1 j1 ≤ 16 := (hbR j1 hj1).2.1
    refine lv_if_ne (tgt := 9) C0.1 C0.2.1 dX7_add_4 (by decide) (fun _ => ?_) (fun h9 => absurd h9 (by decide))
    refine lv_iload_n C0.1 C0.2.1 dX7_add_9 rfl (lv_at hl 2 rfl) ?_
    refine lv_iconst (v := 0) C0.1 C0.2.1 dX7_add_10 (by decide) ?_
    refine lv_ldc C0.1 C0.2.1 C0.2.2.2.1 (C0.2.2.2.2.1 _ kk_X7_147) dX7_add_11 ?_
    refine hv_cSi (As := [.int v, .int 0, .int 1000000000]) C0 w kl_X7_89 ks_X7_in (c_X7_in) (by decide) (by decide) rfl hl.1 rfl (Nat.le_of_ble_eq_true rfl) dX7_add_13 ⟨Nat.le_refl _, Nat.le_refl _⟩ (fun x5 V6 Hq lq hp7 w => ?_)
    obtain ⟨e9, hz9⟩ := hp7
    rw [e9] at w; clear e9
    rcases hz9 with ⟨rfl, hb8⟩ | ⟨rfl, hb8⟩
    · skip
      refine lv_if_ne (tgt := 22) C0.1 C0.2.1 dX7_add_16 (by decide) (fun _ => ?_) (fun h9 => absurd h9 (by decide))
      refine lv_aload_n C0.1 C0.2.1 dX7_add_22 rfl (lv_at hl 0 rfl) ?_
      refine gf_X7_15 C0 w hO rfl dX7_add_23 ?_
      refine lv_iload_n C0.1 C0.2.1 dX7_add_26 rfl (lv_at hl 1 rfl) ?_
      refine hv_iald C0 w r2 (hn_in hj1 (by decide)) dX7_add_27 ?_
      have hc9 : (nI j1).toNatClampNeg = j1 := nI_clamp (by omega)
      rw [hc9]
      refine lv_bipush (v := 16) C0.1 C0.2.1 dX7_add_28 (by decide) ?_
      refine lv_icmp_ne (tgt := 36) C0.1 C0.2.1 dX7_add_30 (by decide) (fun c_30 => ?_) (fun c_30 => ?_)
      · skip
        have hlt : σ.1.1.2.1 j1 < 16 := by
          rcases Nat.lt_or_ge (σ.1.1.2.1 j1) 16 with h9 | h9
          · exact h9
          · exact absurd (show nI (σ.1.1.2.1 j1) = nI 16 from by rw [show σ.1.1.2.1 j1 = 16 by omega]) c_30
        refine lv_aload_n C0.1 C0.2.1 dX7_add_36 rfl (lv_at hl 0 rfl) ?_
        refine gf_X7_20 C0 w hO rfl dX7_add_37 ?_
        refine lv_iload_n C0.1 C0.2.1 dX7_add_40 rfl (lv_at hl 1 rfl) ?_
        refine hv_aalA 6 rfl C0 w rfl r3 (hn_in hj1 (by decide)) (by rw [kj1]; exact r4 j1 hj1) dX7_add_41 ?_
        refine lv_aload_n C0.1 C0.2.1 dX7_add_42 rfl (lv_at hl 0 rfl) ?_
        refine gf_X7_15 C0 w hO rfl dX7_add_43 ?_
        refine lv_iload_n C0.1 C0.2.1 dX7_add_46 rfl (lv_at hl 1 rfl) ?_
        refine hv_iald C0 w r2 (hn_in hj1 (by decide)) dX7_add_47 ?_
        have hc10 : (nI j1).toNatClampNeg = j1 := nI_clamp (by omega)
        rw [hc10]
        refine lv_iload_n C0.1 C0.2.1 dX7_add_48 rfl (lv_at hl 2 rfl) ?_
        refine hv_iast C0 w hN_j1 (hn_in hlt (by decide)) dX7_add_49 (fun Hq lq w => ?_)
        have hc11 : (nI (σ.1.1.2.1 j1)).toNatClampNeg = (σ.1.1.2.1 j1) := nI_clamp (by omega)
        rw [hc11] at w
        obtain ⟨V12, eV13⟩ : ∃ V9, V9 = hv_up V (mo + 4 + j1) (.inl (X.2.1 0, 16, .inl (upd (σ.1.1.2.2 j1) (σ.1.1.2.1 j1) v))) := ⟨_, rfl⟩
        have w : hv_w X s V12 Hq lq := by rw [eV13]; exact w
        have hV14 : V12 mo = some (.inr (7, [.ref (mo + 1), .ref (mo + 2), .ref (mo + 3), .long ab, .long be, .ref (mo + 10), .int (nI σ.2.2.1.1), .int pl, .int cl, .ref (mo + 11), .ref (mo + 12), .ref (mo + 13), .int sg, .ref (mo + 14), .ref (mo + 15), .ref (mo + 16), .ref (mo + 17), .int (nI σ.1.2.1.1), .ref (mo + 18), .ref (mo + 19), .int (nI σ.1.2.2.1.1), .ref (mo + 20), .ref (mo + 21), .ref (mo + 22), .int (nI σ.1.2.2.2.1), .int ik, .ref (mo + 23), .ref (mo + 24), .ref (mo + 25), .ref (mo + 26), .ref (mo + 33), .ref (mo + 41), .ref (mo + 42), .ref (mo + 43)])) := by rw [eV13, hv_un (by omega)]; exact hO
        have hV15 : V12 (mo + 1) = some (.inl (X.2.1 0, 6, .inl σ.1.1.1)) := by rw [eV13, hv_un (by omega)]; exact r1
        have hV16 : V12 (mo + 2) = some (.inl (X.2.1 0, 6, .inl (fun j => nI (σ.1.1.2.1 j)))) := by rw [eV13, hv_un (by omega)]; exact r2
        have hV17 : V12 (mo + 3) = some (.inl (X.2.1 6, 6, .inr (.inr (.inr (.inr rf))))) := by rw [eV13, hv_un (by omega)]; exact r3
        have hV18 : V12 (mo + 10) = some (.inl (X.2.1 2, 100, .inl σ.2.2.1.2)) := by rw [eV13, hv_un (by omega)]; exact hTx
        have hV19 : V12 (mo + 11) = some (.inl (X.2.1 0, 12, .inl wd)) := by rw [eV13, hv_un (by omega)]; exact s1
        have hV20 : V12 (mo + 12) = some (.inl (X.2.1 0, 48, .inl td)) := by rw [eV13, hv_un (by omega)]; exact s2
        have hV21 : V12 (mo + 13) = some (.inl (X.2.1 2, 178, .inl sn)) := by rw [eV13, hv_un (by omega)]; exact s3
        have hV22 : V12 (mo + 14) = some (.inl (X.2.1 0, 3, .inl ut)) := by rw [eV13, hv_un (by omega)]; exact s4
        have hV23 : V12 (mo + 20) = some (.inl (X.2.1 0, 16, .inl kn)) := by rw [eV13, hv_un (by omega)]; exact s5
        have hV24 : V12 (mo + 15) = some (.inl (X.2.1 0, 4, .inl sf)) := by rw [eV13, hv_un (by omega)]; exact e1
        have hV25 : V12 (mo + 16) = some (.inl (X.2.1 0, 4, .inl sg9)) := by rw [eV13, hv_un (by omega)]; exact e2
        have hV26 : V12 (mo + 17) = some (.inl (X.2.1 0, 4, .inl sh)) := by rw [eV13, hv_un (by omega)]; exact e3
        have hV27 : V12 (mo + 18) = some (.inl (X.2.1 0, 8, .inl ef)) := by rw [eV13, hv_un (by omega)]; exact v1
        have hV28 : V12 (mo + 19) = some (.inl (X.2.1 0, 8, .inl eg)) := by rw [eV13, hv_un (by omega)]; exact v2
        have hV29 : V12 (mo + 21) = some (.inl (X.2.1 0, 8, .inl bf)) := by rw [eV13, hv_un (by omega)]; exact b1
        have hV30 : V12 (mo + 22) = some (.inl (X.2.1 0, 8, .inl bg)) := by rw [eV13, hv_un (by omega)]; exact b2
        have hV31 : V12 (mo + 41) = some (.inl (X.2.1 0, 6, .inl σ.2.2.2.1)) := by rw [eV13, hv_un (by omega)]; exact t1
        have hV32 : V12 (mo + 42) = some (.inl (X.2.1 0, 6, .inl (fun j => nI (σ.2.2.2.2.1 j)))) := by rw [eV13, hv_un (by omega)]; exact t2
        have hV33 : V12 (mo + 43) = some (.inl (X.2.1 7, 6, .inr (.inr (.inr (.inr tf))))) := by rw [eV13, hv_un (by omega)]; exact t3
        have hV35 : V12 (mo + 4 + j1) = some (.inl (X.2.1 0, 16, .inl (upd (σ.1.1.2.2 j1) (σ.1.1.2.1 j1) v))) := by rw [eV13]; exact hv_us
        refine lv_aload_n C0.1 C0.2.1 dX7_add_50 rfl (lv_at hl 0 rfl) ?_
        refine gf_X7_15 C0 w hV14 rfl dX7_add_51 ?_
        refine lv_iload_n C0.1 C0.2.1 dX7_add_54 rfl (lv_at hl 1 rfl) ?_
        refine lv_dup2_11 C0.1 C0.2.1 dX7_add_55 rfl rfl ?_
        refine hv_iald C0 w hV16 (hn_in hj1 (by decide)) dX7_add_56 ?_
        have hc36 : (nI j1).toNatClampNeg = j1 := nI_clamp (by omega)
        rw [hc36]
        refine lv_iconst (v := 1) C0.1 C0.2.1 dX7_add_57 (by decide) ?_
        refine lv_iadd C0.1 C0.2.1 dX7_add_58 ?_
        rw [nI_1]
        refine hv_iast C0 w hV16 (hn_in hj1 (by decide)) dX7_add_59 (fun Hq lq w => ?_)
        have hc37 : (nI j1).toNatClampNeg = j1 := nI_clamp (by omega)
        rw [hc37] at w
        obtain ⟨V38, eV39⟩ : ∃ V9, V9 = hv_up V12 (mo + 2) (.inl (X.2.1 0, 6, .inl (upd (fun j => nI (σ.1.1.2.1 j)) j1 (nI (σ.1.1.2.1 j1 + 1))))) := ⟨_, rfl⟩
        have w : hv_w X s V38 Hq lq := by rw [eV39]; exact w
        have hV40 : V38 mo = some (.inr (7, [.ref (mo + 1), .ref (mo + 2), .ref (mo + 3), .long ab, .long be, .ref (mo + 10), .int (nI σ.2.2.1.1), .int pl, .int cl, .ref (mo + 11), .ref (mo + 12), .ref (mo + 13), .int sg, .ref (mo + 14), .ref (mo + 15), .ref (mo + 16), .ref (mo + 17), .int (nI σ.1.2.1.1), .ref (mo + 18), .ref (mo + 19), .int (nI σ.1.2.2.1.1), .ref (mo + 20), .ref (mo + 21), .ref (mo + 22), .int (nI σ.1.2.2.2.1), .int ik, .ref (mo + 23), .ref (mo + 24), .ref (mo + 25), .ref (mo + 26), .ref (mo + 33), .ref (mo + 41), .ref (mo + 42), .ref (mo + 43)])) := by rw [eV39, hv_un (by omega)]; exact hV14
        have hV41 : V38 (mo + 1) = some (.inl (X.2.1 0, 6, .inl σ.1.1.1)) := by rw [eV39, hv_un (by omega)]; exact hV15
        have hV43 : V38 (mo + 3) = some (.inl (X.2.1 6, 6, .inr (.inr (.inr (.inr rf))))) := by rw [eV39, hv_un (by omega)]; exact hV17
        have hV44 : V38 (mo + 10) = some (.inl (X.2.1 2, 100, .inl σ.2.2.1.2)) := by rw [eV39, hv_un (by omega)]; exact hV18
        have hV45 : V38 (mo + 11) = some (.inl (X.2.1 0, 12, .inl wd)) := by rw [eV39, hv_un (by omega)]; exact hV19
        have hV46 : V38 (mo + 12) = some (.inl (X.2.1 0, 48, .inl td)) := by rw [eV39, hv_un (by omega)]; exact hV20
        have hV47 : V38 (mo + 13) = some (.inl (X.2.1 2, 178, .inl sn)) := by rw [eV39, hv_un (by omega)]; exact hV21
        have hV48 : V38 (mo + 14) = some (.inl (X.2.1 0, 3, .inl ut)) := by rw [eV39, hv_un (by omega)]; exact hV22
        have hV49 : V38 (mo + 20) = some (.inl (X.2.1 0, 16, .inl kn)) := by rw [eV39, hv_un (by omega)]; exact hV23
        have hV50 : V38 (mo + 15) = some (.inl (X.2.1 0, 4, .inl sf)) := by rw [eV39, hv_un (by omega)]; exact hV24
        have hV51 : V38 (mo + 16) = some (.inl (X.2.1 0, 4, .inl sg9)) := by rw [eV39, hv_un (by omega)]; exact hV25
        have hV52 : V38 (mo + 17) = some (.inl (X.2.1 0, 4, .inl sh)) := by rw [eV39, hv_un (by omega)]; exact hV26
        have hV53 : V38 (mo + 18) = some (.inl (X.2.1 0, 8, .inl ef)) := by rw [eV39, hv_un (by omega)]; exact hV27
        have hV54 : V38 (mo + 19) = some (.inl (X.2.1 0, 8, .inl eg)) := by rw [eV39, hv_un (by omega)]; exact hV28
        have hV55 : V38 (mo + 21) = some (.inl (X.2.1 0, 8, .inl bf)) := by rw [eV39, hv_un (by omega)]; exact hV29
        have hV56 : V38 (mo + 22) = some (.inl (X.2.1 0, 8, .inl bg)) := by rw [eV39, hv_un (by omega)]; exact hV30
        have hV57 : V38 (mo + 41) = some (.inl (X.2.1 0, 6, .inl σ.2.2.2.1)) := by rw [eV39, hv_un (by omega)]; exact hV31
        have hV58 : V38 (mo + 42) = some (.inl (X.2.1 0, 6, .inl (fun j => nI (σ.2.2.2.2.1 j)))) := by rw [eV39, hv_un (by omega)]; exact hV32
        have hV59 : V38 (mo + 43) = some (.inl (X.2.1 7, 6, .inr (.inr (.inr (.inr tf))))) := by rw [eV39, hv_un (by omega)]; exact hV33
        have hV60 : V38 (mo + 4 + j1) = some (.inl (X.2.1 0, 16, .inl (upd (σ.1.1.2.2 j1) (σ.1.1.2.1 j1) v))) := by rw [eV39, hv_un (by omega)]; exact hV35
        have hV61 : V38 (mo + 2) = some (.inl (X.2.1 0, 6, .inl (upd (fun j => nI (σ.1.1.2.1 j)) j1 (nI (σ.1.1.2.1 j1 + 1))))) := by rw [eV39]; exact hv_us
        refine lv_aload_n C0.1 C0.2.1 dX7_add_60 rfl (lv_at hl 0 rfl) ?_
        refine gf_X7_15 C0 w hV40 rfl dX7_add_61 ?_
        refine lv_iload_n C0.1 C0.2.1 dX7_add_64 rfl (lv_at hl 1 rfl) ?_
        refine hv_iald C0 w hV61 (hn_in hj1 (by decide)) dX7_add_65 ?_
        have hc62 : (nI j1).toNatClampNeg = j1 := nI_clamp (by omega)
        rw [hc62]
        rw [hs_uself]
        exact hv_iret C0 w hr hlk (by rw [sp_add, if_pos ihb4, if_pos hb8, kj1, if_pos hlt]; exact ⟨rfl, ⟨ab, be, pl, cl, sg, ik, ((by rw [eV39, hv_un (by omega), eV13, hv_un (by omega)] : _ = V mo).trans hO), hRw.set hj1 (by rw [hs_uid, eV39, hv_un (by omega), eV13, hv_un (by omega)]; exact r1) (by rw [eV39]; exact hv_us) (by rw [eV39, hv_un (by omega), eV13]; exact hv_us) (by rw [eV39, hv_un (by omega), eV13, hv_un (by omega)]) (fun i9 hi9 hne9 => by rw [eV39, hv_un (by omega), eV13, hv_un (by omega)]), (by rw [eV39, hv_un (by omega), eV13, hv_un (by omega)] : _ = V (mo + 10)).trans hTx, hSc.fr (fun q h7 h8 => by rw [eV39, hv_un (by omega), eV13, hv_un (by omega)]) (fun q h7 h8 => by rw [eV39, hv_un (by omega), eV13, hv_un (by omega)]), hSe.fr (fun q h7 h8 => by rw [eV39, hv_un (by omega), eV13, hv_un (by omega)]), hEv.fr (by rw [eV39, hv_un (by omega), eV13, hv_un (by omega)]) (by rw [eV39, hv_un (by omega), eV13, hv_un (by omega)]), hBk.fr (by rw [eV39, hv_un (by omega), eV13, hv_un (by omega)]) (by rw [eV39, hv_un (by omega), eV13, hv_un (by omega)]), hIm.fr (fun q h7 h8 => by rw [eV39, hv_un (by omega), eV13, hv_un (by omega)]), hTp.fr (fun q h7 h8 => by rw [eV39, hv_un (by omega), eV13, hv_un (by omega)])⟩, (fun q h7 => by rw [eV39, hv_un (by omega), eV13, hv_un (by omega)]), om_kp.sm (by rw [eV39, hv_un (by omega), eV13, hv_un (by omega)]) (by rw [eV39, hv_un (by omega), eV13, hv_un (by omega)]) (by rw [eV39, hv_un (by omega), eV13, hv_un (by omega)])⟩) dX7_add_66
      · skip
        refine lv_bipush (v := -4) C0.1 C0.2.1 dX7_add_33 (by decide) ?_
        exact hv_iret C0 w hr hlk (by rw [sp_add, if_pos ihb4, if_pos hb8, kj1, if_neg (fun h9 => by have h8 := (nI_eq (a := σ.1.1.2.1 j1) (b := 16) (by omega) (by omega)).mp c_30; omega)]; exact ⟨rfl, hM, hv_out.rf, om_kp.rf⟩) dX7_add_35
    · skip
      refine lv_if_ne (tgt := 22) C0.1 C0.2.1 dX7_add_16 (by decide) (fun h9 => absurd h9 (by decide)) (fun _ => ?_)
      refine lv_bipush (v := -2) C0.1 C0.2.1 dX7_add_19 (by decide) ?_
      exact hv_iret C0 w hr hlk (by rw [sp_add, if_pos ihb4, if_neg hb8]; exact ⟨rfl, hM, hv_out.rf, om_kp.rf⟩) dX7_add_21
  · skip
    refine lv_if_ne (tgt := 9) C0.1 C0.2.1 dX7_add_4 (by decide) (fun h9 => absurd h9 (by decide)) (fun _ => ?_)
    refine lv_iconst (v := -1) C0.1 C0.2.1 dX7_add_7 (by decide) ?_
    exact hv_iret C0 w hr hlk (by rw [sp_add, if_neg hb4]; exact ⟨rfl, hM, hv_out.rf, om_kp.rf⟩) dX7_add_8

set_option maxHeartbeats 4000000 in
set_option maxRecDepth 100000 in
theorem k_X7_cut {l : Launch} {X : hv_X} {V : hv_V} {mo : Nat} {σ : hs_S} (hM : okM X V mo σ) (hB : hs_b σ) {r n : Int32} : hv_Mi l X 220 yX7_cut cX7_cut 4 .int V [.ref mo, .int r, .int n] (fun y V1 => y = (sp_cut σ r n).1 ∧ okM X V1 mo (sp_cut σ r n).2 ∧ hv_out V V1 mo (mo + 50) ∧ om_kp V V1 mo) := by
  refine hv_enter (by decide) (Nat.le_of_ble_eq_true rfl) ?_
  intro p e s m below meth c ls C0 hr hlk hnm w hl
  have hl : lv_has ls 4 [(0, .ref mo), (1, .int r), (2, .int n)] := hl
  obtain ⟨ab, be, pl, cl, sg, ik, hO, hRw, hTx, hSc, hSe, hEv, hBk, hIm, hTp⟩ := id hM
  obtain ⟨r1, r2, ⟨rf, r3, r4⟩, r5⟩ := id hRw
  obtain ⟨⟨wd, s1⟩, ⟨td, s2⟩, ⟨sn, s3⟩, ⟨ut, s4⟩, kn, s5⟩ := id hSc
  obtain ⟨sf, sg9, sh, e1, e2, e3, ea⟩ := id hSe
  obtain ⟨ef, eg, v1, v2, va⟩ := id hEv
  obtain ⟨bf, bg, b1, b2, ba⟩ := id hBk
  obtain ⟨t1, t2, ⟨tf, t3, t4⟩, t5⟩ := id hTp
  have hbR := hB.1.1
  refine lv_iload_n C0.1 C0.2.1 dX7_cut_0 rfl (lv_at hl 1 rfl) ?_
  refine hv_cSi (As := [.int r]) C0 w kl_X7_135 ks_X7_isRow (c_X7_isRow) (by decide) (by decide) rfl hl.1 rfl (Nat.le_of_ble_eq_true rfl) dX7_cut_1 ⟨Nat.le_refl _, Nat.le_refl _⟩ (fun x1 V2 Hq lq hp3 w => ?_)
  obtain ⟨e9, hz9⟩ := hp3
  rw [e9] at w; clear e9
  rcases hz9 with ⟨rfl, hb4⟩ | ⟨rfl, hb4⟩
  · skip
    have ihb4 := hb4
    obtain ⟨j1, hj1, rfl⟩ := sp_inN (k := 5) (by decide) hb4
    have kj1 : (nI j1).toNatClampNeg = j1 := nI_clamp (by omega)
    have hN_j1 : V (mo + 4 + j1) = some (nE X (σ.1.1.2.2 j1)) := r5 j1 hj1
    have hn_j1 : σ.1.1.2.1 j1 ≤ 16 := (hbR j1 hj1).2.1
    refine lv_if_ne (tgt := 9) C0.1 C0.2.1 dX7_cut_4 (by decide) (fun _ => ?_) (fun h9 => absurd h9 (by decide))
    refine lv_iload_n C0.1 C0.2.1 dX7_cut_9 rfl (lv_at hl 2 rfl) ?_
    refine lv_iconst (v := 0) C0.1 C0.2.1 dX7_cut_10 (by decide) ?_
    refine lv_aload_n C0.1 C0.2.1 dX7_cut_11 rfl (lv_at hl 0 rfl) ?_
    refine gf_X7_15 C0 w hO rfl dX7_cut_12 ?_
    refine lv_iload_n C0.1 C0.2.1 dX7_cut_15 rfl (lv_at hl 1 rfl) ?_
    refine hv_iald C0 w r2 (hn_in hj1 (by decide)) dX7_cut_16 ?_
    have hc5 : (nI j1).toNatClampNeg = j1 := nI_clamp (by omega)
    rw [hc5]
    refine hv_cSi (As := [.int n, .int 0, .int (nI (σ.1.1.2.1 j1))]) C0 w kl_X7_89 ks_X7_in (c_X7_in) (by decide) (by decide) rfl hl.1 rfl (Nat.le_of_ble_eq_true rfl) dX7_cut_17 ⟨Nat.le_refl _, Nat.le_refl _⟩ (fun x6 V7 Hq lq hp8 w => ?_)
    obtain ⟨e9, hz9⟩ := hp8
    rw [e9] at w; clear e9
    rcases hz9 with ⟨rfl, hb9⟩ | ⟨rfl, hb9⟩
    · skip
      refine lv_if_ne (tgt := 26) C0.1 C0.2.1 dX7_cut_20 (by decide) (fun _ => ?_) (fun h9 => absurd h9 (by decide))
      have hb9x := hb9
      obtain ⟨n1, hn1, rfl⟩ := sp_inN (by omega) hb9
      have kn1 : (nI n1).toNatClampNeg = n1 := nI_clamp (by omega)
      refine lv_aload_n C0.1 C0.2.1 dX7_cut_26 rfl (lv_at hl 0 rfl) ?_
      refine gf_X7_15 C0 w hO rfl dX7_cut_27 ?_
      refine lv_iload_n C0.1 C0.2.1 dX7_cut_30 rfl (lv_at hl 1 rfl) ?_
      refine hv_iald C0 w r2 (hn_in hj1 (by decide)) dX7_cut_31 ?_
      have hc10 : (nI j1).toNatClampNeg = j1 := nI_clamp (by omega)
      rw [hc10]
      refine lv_iload_n C0.1 C0.2.1 dX7_cut_32 rfl (lv_at hl 2 rfl) ?_
      refine lv_isub C0.1 C0.2.1 dX7_cut_33 ?_
      refine lv_istore_n (lv' := [(3, .int ((nI (σ.1.1.2.1 j1)) - (nI n1))), (0, .ref mo), (1, .int (nI j1)), (2, .int (nI n1))]) C0.1 C0.2.1 dX7_cut_34 rfl hl (by decide) rfl (fun ls hl => ?_)
      refine lv_aload_n C0.1 C0.2.1 dX7_cut_35 rfl (lv_at hl 1 rfl) ?_
      refine gf_X7_15 C0 w hO rfl dX7_cut_36 ?_
      refine lv_iload_n C0.1 C0.2.1 dX7_cut_39 rfl (lv_at hl 2 rfl) ?_
      refine lv_iload_n C0.1 C0.2.1 dX7_cut_40 rfl (lv_at hl 3 rfl) ?_
      refine hv_iast C0 w r2 (hn_in hj1 (by decide)) dX7_cut_41 (fun Hq lq w => ?_)
      have hc11 : (nI j1).toNatClampNeg = j1 := nI_clamp (by omega)
      rw [hc11] at w
      obtain ⟨V12, eV13⟩ : ∃ V9, V9 = hv_up V (mo + 2) (.inl (X.2.1 0, 6, .inl (upd (fun j => nI (σ.1.1.2.1 j)) j1 (nI n1)))) := ⟨_, rfl⟩
      have w : hv_w X s V12 Hq lq := by rw [eV13]; exact w
      have hV14 : V12 mo = some (.inr (7, [.ref (mo + 1), .ref (mo + 2), .ref (mo + 3), .long ab, .long be, .ref (mo + 10), .int (nI σ.2.2.1.1), .int pl, .int cl, .ref (mo + 11), .ref (mo + 12), .ref (mo + 13), .int sg, .ref (mo + 14), .ref (mo + 15), .ref (mo + 16), .ref (mo + 17), .int (nI σ.1.2.1.1), .ref (mo + 18), .ref (mo + 19), .int (nI σ.1.2.2.1.1), .ref (mo + 20), .ref (mo + 21), .ref (mo + 22), .int (nI σ.1.2.2.2.1), .int ik, .ref (mo + 23), .ref (mo + 24), .ref (mo + 25), .ref (mo + 26), .ref (mo + 33), .ref (mo + 41), .ref (mo + 42), .ref (mo + 43)])) := by rw [eV13, hv_un (by omega)]; exact hO
      have hV15 : V12 (mo + 1) = some (.inl (X.2.1 0, 6, .inl σ.1.1.1)) := by rw [eV13, hv_un (by omega)]; exact r1
      have hV17 : V12 (mo + 3) = some (.inl (X.2.1 6, 6, .inr (.inr (.inr (.inr rf))))) := by rw [eV13, hv_un (by omega)]; exact r3
      have hV18 : V12 (mo + 10) = some (.inl (X.2.1 2, 100, .inl σ.2.2.1.2)) := by rw [eV13, hv_un (by omega)]; exact hTx
      have hV19 : V12 (mo + 11) = some (.inl (X.2.1 0, 12, .inl wd)) := by rw [eV13, hv_un (by omega)]; exact s1
      have hV20 : V12 (mo + 12) = some (.inl (X.2.1 0, 48, .inl td)) := by rw [eV13, hv_un (by omega)]; exact s2
      have hV21 : V12 (mo + 13) = some (.inl (X.2.1 2, 178, .inl sn)) := by rw [eV13, hv_un (by omega)]; exact s3
      have hV22 : V12 (mo + 14) = some (.inl (X.2.1 0, 3, .inl ut)) := by rw [eV13, hv_un (by omega)]; exact s4
      have hV23 : V12 (mo + 20) = some (.inl (X.2.1 0, 16, .inl kn)) := by rw [eV13, hv_un (by omega)]; exact s5
      have hV24 : V12 (mo + 15) = some (.inl (X.2.1 0, 4, .inl sf)) := by rw [eV13, hv_un (by omega)]; exact e1
      have hV25 : V12 (mo + 16) = some (.inl (X.2.1 0, 4, .inl sg9)) := by rw [eV13, hv_un (by omega)]; exact e2
      have hV26 : V12 (mo + 17) = some (.inl (X.2.1 0, 4, .inl sh)) := by rw [eV13, hv_un (by omega)]; exact e3
      have hV27 : V12 (mo + 18) = some (.inl (X.2.1 0, 8, .inl ef)) := by rw [eV13, hv_un (by omega)]; exact v1
      have hV28 : V12 (mo + 19) = some (.inl (X.2.1 0, 8, .inl eg)) := by rw [eV13, hv_un (by omega)]; exact v2
      have hV29 : V12 (mo + 21) = some (.inl (X.2.1 0, 8, .inl bf)) := by rw [eV13, hv_un (by omega)]; exact b1
      have hV30 : V12 (mo + 22) = some (.inl (X.2.1 0, 8, .inl bg)) := by rw [eV13, hv_un (by omega)]; exact b2
      have hV31 : V12 (mo + 41) = some (.inl (X.2.1 0, 6, .inl σ.2.2.2.1)) := by rw [eV13, hv_un (by omega)]; exact t1
      have hV32 : V12 (mo + 42) = some (.inl (X.2.1 0, 6, .inl (fun j => nI (σ.2.2.2.2.1 j)))) := by rw [eV13, hv_un (by omega)]; exact t2
      have hV33 : V12 (mo + 43) = some (.inl (X.2.1 7, 6, .inr (.inr (.inr (.inr tf))))) := by rw [eV13, hv_un (by omega)]; exact t3
      have hV34 : V12 (mo + 4 + j1) = some (.inl (X.2.1 0, 16, .inl (σ.1.1.2.2 j1))) := by rw [eV13, hv_un (by omega)]; exact hN_j1
      have hV35 : V12 (mo + 2) = some (.inl (X.2.1 0, 6, .inl (upd (fun j => nI (σ.1.1.2.1 j)) j1 (nI n1)))) := by rw [eV13]; exact hv_us
      refine lv_iload_n C0.1 C0.2.1 dX7_cut_42 rfl (lv_at hl 0 rfl) ?_
      exact hv_iret C0 w hr hlk (by rw [sp_cut, if_pos ihb4, kj1, if_pos hb9x, kn1]; exact ⟨rfl, ⟨ab, be, pl, cl, sg, ik, ((by rw [eV13, hv_un (by omega)] : _ = V mo).trans hO), hRw.set hj1 (by rw [hs_uid, eV13, hv_un (by omega)]; exact r1) (by rw [eV13]; exact hv_us) ((by rw [eV13, hv_un (by omega)] : _ = V (mo + 4 + j1)).trans hN_j1) (by rw [eV13, hv_un (by omega)]) (fun i9 hi9 hne9 => by rw [eV13, hv_un (by omega)]), (by rw [eV13, hv_un (by omega)] : _ = V (mo + 10)).trans hTx, hSc.fr (fun q h7 h8 => by rw [eV13, hv_un (by omega)]) (fun q h7 h8 => by rw [eV13, hv_un (by omega)]), hSe.fr (fun q h7 h8 => by rw [eV13, hv_un (by omega)]), hEv.fr (by rw [eV13, hv_un (by omega)]) (by rw [eV13, hv_un (by omega)]), hBk.fr (by rw [eV13, hv_un (by omega)]) (by rw [eV13, hv_un (by omega)]), hIm.fr (fun q h7 h8 => by rw [eV13, hv_un (by omega)]), hTp.fr (fun q h7 h8 => by rw [eV13, hv_un (by omega)])⟩, (fun q h7 => by rw [eV13, hv_un (by omega)]), om_kp.sm (by rw [eV13, hv_un (by omega)]) (by rw [eV13, hv_un (by omega)]) (by rw [eV13, hv_un (by omega)])⟩) dX7_cut_43
    · skip
      refine lv_if_ne (tgt := 26) C0.1 C0.2.1 dX7_cut_20 (by decide) (fun h9 => absurd h9 (by decide)) (fun _ => ?_)
      refine lv_bipush (v := -2) C0.1 C0.2.1 dX7_cut_23 (by decide) ?_
      exact hv_iret C0 w hr hlk (by rw [sp_cut, if_pos ihb4, kj1, if_neg hb9]; exact ⟨rfl, hM, hv_out.rf, om_kp.rf⟩) dX7_cut_25
  · skip
    refine lv_if_ne (tgt := 9) C0.1 C0.2.1 dX7_cut_4 (by decide) (fun h9 => absurd h9 (by decide)) (fun _ => ?_)
    refine lv_iconst (v := -1) C0.1 C0.2.1 dX7_cut_7 (by decide) ?_
    exact hv_iret C0 w hr hlk (by rw [sp_cut, if_neg hb4]; exact ⟨rfl, hM, hv_out.rf, om_kp.rf⟩) dX7_cut_8

set_option maxHeartbeats 4000000 in
set_option maxRecDepth 100000 in
theorem k_X7_copies {l : Launch} {X : hv_X} {V : hv_V} {mo : Nat} {σ : hs_S} (hM : okM X V mo σ) (hB : hs_b σ) {r f : Int32} : hv_Mi l X 220 yX7_copies cX7_copies 3 .int V [.ref mo, .int r, .int f] (fun y V1 => y = (sp_copies σ r f).1 ∧ okM X V1 mo (sp_copies σ r f).2 ∧ hv_out V V1 mo (mo + 50) ∧ om_kp V V1 mo) := by
  refine hv_enter (by decide) (Nat.le_of_ble_eq_true rfl) ?_
  intro p e s m below meth c ls C0 hr hlk hnm w hl
  have hl : lv_has ls 3 [(0, .ref mo), (1, .int r), (2, .int f)] := hl
  obtain ⟨ab, be, pl, cl, sg, ik, hO, hRw, hTx, hSc, hSe, hEv, hBk, hIm, hTp⟩ := id hM
  obtain ⟨r1, r2, ⟨rf, r3, r4⟩, r5⟩ := id hRw
  obtain ⟨⟨wd, s1⟩, ⟨td, s2⟩, ⟨sn, s3⟩, ⟨ut, s4⟩, kn, s5⟩ := id hSc
  obtain ⟨sf, sg9, sh, e1, e2, e3, ea⟩ := id hSe
  obtain ⟨ef, eg, v1, v2, va⟩ := id hEv
  obtain ⟨bf, bg, b1, b2, ba⟩ := id hBk
  obtain ⟨t1, t2, ⟨tf, t3, t4⟩, t5⟩ := id hTp
  have hbR := hB.1.1
  refine lv_iload_n C0.1 C0.2.1 dX7_copies_0 rfl (lv_at hl 1 rfl) ?_
  refine hv_cSi (As := [.int r]) C0 w kl_X7_135 ks_X7_isRow (c_X7_isRow) (by decide) (by decide) rfl hl.1 rfl (Nat.le_of_ble_eq_true rfl) dX7_copies_1 ⟨Nat.le_refl _, Nat.le_refl _⟩ (fun x1 V2 Hq lq hp3 w => ?_)
  obtain ⟨e9, hz9⟩ := hp3
  rw [e9] at w; clear e9
  rcases hz9 with ⟨rfl, hb4⟩ | ⟨rfl, hb4⟩
  · skip
    have ihb4 := hb4
    obtain ⟨j1, hj1, rfl⟩ := sp_inN (k := 5) (by decide) hb4
    have kj1 : (nI j1).toNatClampNeg = j1 := nI_clamp (by omega)
    have hN_j1 : V (mo + 4 + j1) = some (nE X (σ.1.1.2.2 j1)) := r5 j1 hj1
    have hn_j1 : σ.1.1.2.1 j1 ≤ 16 := (hbR j1 hj1).2.1
    refine lv_if_eq (tgt := 14) C0.1 C0.2.1 dX7_copies_4 (by decide) (fun h9 => absurd h9 (by decide)) (fun _ => ?_)
    refine lv_iload_n C0.1 C0.2.1 dX7_copies_7 rfl (lv_at hl 2 rfl) ?_
    refine hv_cSi (As := [.int f]) C0 w kl_X7_135 ks_X7_isRow (c_X7_isRow) (by decide) (by decide) rfl hl.1 rfl (Nat.le_of_ble_eq_true rfl) dX7_copies_8 ⟨Nat.le_refl _, Nat.le_refl _⟩ (fun x5 V6 Hq lq hp7 w => ?_)
    obtain ⟨e9, hz9⟩ := hp7
    rw [e9] at w; clear e9
    rcases hz9 with ⟨rfl, hb8⟩ | ⟨rfl, hb8⟩
    · skip
      have ihb8 := hb8
      obtain ⟨j2, hj2, rfl⟩ := sp_inN (k := 5) (by decide) hb8
      have kj2 : (nI j2).toNatClampNeg = j2 := nI_clamp (by omega)
      have hN_j2 : V (mo + 4 + j2) = some (nE X (σ.1.1.2.2 j2)) := r5 j2 hj2
      have hn_j2 : σ.1.1.2.1 j2 ≤ 16 := (hbR j2 hj2).2.1
      refine lv_if_ne (tgt := 16) C0.1 C0.2.1 dX7_copies_11 (by decide) (fun _ => ?_) (fun h9 => absurd h9 (by decide))
      by_cases hjj : j1 = j2
      · subst hjj
        refine lv_aload_n C0.1 C0.2.1 dX7_copies_16 rfl (lv_at hl 0 rfl) ?_
        refine gf_X7_11 C0 w hO rfl dX7_copies_17 ?_
        refine lv_iload_n C0.1 C0.2.1 dX7_copies_20 rfl (lv_at hl 1 rfl) ?_
        refine lv_aload_n C0.1 C0.2.1 dX7_copies_21 rfl (lv_at hl 0 rfl) ?_
        refine gf_X7_11 C0 w hO rfl dX7_copies_22 ?_
        refine lv_iload_n C0.1 C0.2.1 dX7_copies_25 rfl (lv_at hl 2 rfl) ?_
        refine hv_iald C0 w r1 (hn_in (by omega) (by decide)) dX7_copies_26 ?_
        have hc9 : (nI j1).toNatClampNeg = j1 := nI_clamp (by omega)
        rw [hc9]
        refine hv_iast C0 w r1 (hn_in hj1 (by decide)) dX7_copies_27 (fun Hq lq w => ?_)
        have hc10 : (nI j1).toNatClampNeg = j1 := nI_clamp (by omega)
        rw [hc10] at w
        obtain ⟨V11, eV12⟩ : ∃ V9, V9 = hv_up V (mo + 1) (.inl (X.2.1 0, 6, .inl (upd (σ.1.1.1) j1 ((σ.1.1.1) j1)))) := ⟨_, rfl⟩
        have w : hv_w X s V11 Hq lq := by rw [eV12]; exact w
        have hV13 : V11 mo = some (.inr (7, [.ref (mo + 1), .ref (mo + 2), .ref (mo + 3), .long ab, .long be, .ref (mo + 10), .int (nI σ.2.2.1.1), .int pl, .int cl, .ref (mo + 11), .ref (mo + 12), .ref (mo + 13), .int sg, .ref (mo + 14), .ref (mo + 15), .ref (mo + 16), .ref (mo + 17), .int (nI σ.1.2.1.1), .ref (mo + 18), .ref (mo + 19), .int (nI σ.1.2.2.1.1), .ref (mo + 20), .ref (mo + 21), .ref (mo + 22), .int (nI σ.1.2.2.2.1), .int ik, .ref (mo + 23), .ref (mo + 24), .ref (mo + 25), .ref (mo + 26), .ref (mo + 33), .ref (mo + 41), .ref (mo + 42), .ref (mo + 43)])) := by rw [eV12, hv_un (by omega)]; exact hO
        have hV15 : V11 (mo + 2) = some (.inl (X.2.1 0, 6, .inl (fun j => nI (σ.1.1.2.1 j)))) := by rw [eV12, hv_un (by omega)]; exact r2
        have hV16 : V11 (mo + 3) = some (.inl (X.2.1 6, 6, .inr (.inr (.inr (.inr rf))))) := by rw [eV12, hv_un (by omega)]; exact r3
        have hV17 : V11 (mo + 10) = some (.inl (X.2.1 2, 100, .inl σ.2.2.1.2)) := by rw [eV12, hv_un (by omega)]; exact hTx
        have hV18 : V11 (mo + 11) = some (.inl (X.2.1 0, 12, .inl wd)) := by rw [eV12, hv_un (by omega)]; exact s1
        have hV19 : V11 (mo + 12) = some (.inl (X.2.1 0, 48, .inl td)) := by rw [eV12, hv_un (by omega)]; exact s2
        have hV20 : V11 (mo + 13) = some (.inl (X.2.1 2, 178, .inl sn)) := by rw [eV12, hv_un (by omega)]; exact s3
        have hV21 : V11 (mo + 14) = some (.inl (X.2.1 0, 3, .inl ut)) := by rw [eV12, hv_un (by omega)]; exact s4
        have hV22 : V11 (mo + 20) = some (.inl (X.2.1 0, 16, .inl kn)) := by rw [eV12, hv_un (by omega)]; exact s5
        have hV23 : V11 (mo + 15) = some (.inl (X.2.1 0, 4, .inl sf)) := by rw [eV12, hv_un (by omega)]; exact e1
        have hV24 : V11 (mo + 16) = some (.inl (X.2.1 0, 4, .inl sg9)) := by rw [eV12, hv_un (by omega)]; exact e2
        have hV25 : V11 (mo + 17) = some (.inl (X.2.1 0, 4, .inl sh)) := by rw [eV12, hv_un (by omega)]; exact e3
        have hV26 : V11 (mo + 18) = some (.inl (X.2.1 0, 8, .inl ef)) := by rw [eV12, hv_un (by omega)]; exact v1
        have hV27 : V11 (mo + 19) = some (.inl (X.2.1 0, 8, .inl eg)) := by rw [eV12, hv_un (by omega)]; exact v2
        have hV28 : V11 (mo + 21) = some (.inl (X.2.1 0, 8, .inl bf)) := by rw [eV12, hv_un (by omega)]; exact b1
        have hV29 : V11 (mo + 22) = some (.inl (X.2.1 0, 8, .inl bg)) := by rw [eV12, hv_un (by omega)]; exact b2
        have hV30 : V11 (mo + 41) = some (.inl (X.2.1 0, 6, .inl σ.2.2.2.1)) := by rw [eV12, hv_un (by omega)]; exact t1
        have hV31 : V11 (mo + 42) = some (.inl (X.2.1 0, 6, .inl (fun j => nI (σ.2.2.2.2.1 j)))) := by rw [eV12, hv_un (by omega)]; exact t2
        have hV32 : V11 (mo + 43) = some (.inl (X.2.1 7, 6, .inr (.inr (.inr (.inr tf))))) := by rw [eV12, hv_un (by omega)]; exact t3
        have hV33 : V11 (mo + 4 + j1) = some (.inl (X.2.1 0, 16, .inl (σ.1.1.2.2 j1))) := by rw [eV12, hv_un (by omega)]; exact hN_j1
        have hV34 : V11 (mo + 1) = some (.inl (X.2.1 0, 6, .inl (upd (σ.1.1.1) j1 ((σ.1.1.1) j1)))) := by rw [eV12]; exact hv_us
        refine lv_aload_n C0.1 C0.2.1 dX7_copies_28 rfl (lv_at hl 0 rfl) ?_
        refine gf_X7_15 C0 w hV13 rfl dX7_copies_29 ?_
        refine lv_iload_n C0.1 C0.2.1 dX7_copies_32 rfl (lv_at hl 1 rfl) ?_
        refine lv_aload_n C0.1 C0.2.1 dX7_copies_33 rfl (lv_at hl 0 rfl) ?_
        refine gf_X7_15 C0 w hV13 rfl dX7_copies_34 ?_
        refine lv_iload_n C0.1 C0.2.1 dX7_copies_37 rfl (lv_at hl 2 rfl) ?_
        refine hv_iald C0 w hV15 (hn_in (by omega) (by decide)) dX7_copies_38 ?_
        have hc35 : (nI j1).toNatClampNeg = j1 := nI_clamp (by omega)
        rw [hc35]
        refine hv_iast C0 w hV15 (hn_in hj1 (by decide)) dX7_copies_39 (fun Hq lq w => ?_)
        have hc36 : (nI j1).toNatClampNeg = j1 := nI_clamp (by omega)
        rw [hc36] at w
        obtain ⟨V37, eV38⟩ : ∃ V9, V9 = hv_up V11 (mo + 2) (.inl (X.2.1 0, 6, .inl (upd (fun j => nI (σ.1.1.2.1 j)) j1 (nI (σ.1.1.2.1 j1))))) := ⟨_, rfl⟩
        have w : hv_w X s V37 Hq lq := by rw [eV38]; exact w
        have hV39 : V37 mo = some (.inr (7, [.ref (mo + 1), .ref (mo + 2), .ref (mo + 3), .long ab, .long be, .ref (mo + 10), .int (nI σ.2.2.1.1), .int pl, .int cl, .ref (mo + 11), .ref (mo + 12), .ref (mo + 13), .int sg, .ref (mo + 14), .ref (mo + 15), .ref (mo + 16), .ref (mo + 17), .int (nI σ.1.2.1.1), .ref (mo + 18), .ref (mo + 19), .int (nI σ.1.2.2.1.1), .ref (mo + 20), .ref (mo + 21), .ref (mo + 22), .int (nI σ.1.2.2.2.1), .int ik, .ref (mo + 23), .ref (mo + 24), .ref (mo + 25), .ref (mo + 26), .ref (mo + 33), .ref (mo + 41), .ref (mo + 42), .ref (mo + 43)])) := by rw [eV38, hv_un (by omega)]; exact hV13
        have hV41 : V37 (mo + 3) = some (.inl (X.2.1 6, 6, .inr (.inr (.inr (.inr rf))))) := by rw [eV38, hv_un (by omega)]; exact hV16
        have hV42 : V37 (mo + 10) = some (.inl (X.2.1 2, 100, .inl σ.2.2.1.2)) := by rw [eV38, hv_un (by omega)]; exact hV17
        have hV43 : V37 (mo + 11) = some (.inl (X.2.1 0, 12, .inl wd)) := by rw [eV38, hv_un (by omega)]; exact hV18
        have hV44 : V37 (mo + 12) = some (.inl (X.2.1 0, 48, .inl td)) := by rw [eV38, hv_un (by omega)]; exact hV19
        have hV45 : V37 (mo + 13) = some (.inl (X.2.1 2, 178, .inl sn)) := by rw [eV38, hv_un (by omega)]; exact hV20
        have hV46 : V37 (mo + 14) = some (.inl (X.2.1 0, 3, .inl ut)) := by rw [eV38, hv_un (by omega)]; exact hV21
        have hV47 : V37 (mo + 20) = some (.inl (X.2.1 0, 16, .inl kn)) := by rw [eV38, hv_un (by omega)]; exact hV22
        have hV48 : V37 (mo + 15) = some (.inl (X.2.1 0, 4, .inl sf)) := by rw [eV38, hv_un (by omega)]; exact hV23
        have hV49 : V37 (mo + 16) = some (.inl (X.2.1 0, 4, .inl sg9)) := by rw [eV38, hv_un (by omega)]; exact hV24
        have hV50 : V37 (mo + 17) = some (.inl (X.2.1 0, 4, .inl sh)) := by rw [eV38, hv_un (by omega)]; exact hV25
        have hV51 : V37 (mo + 18) = some (.inl (X.2.1 0, 8, .inl ef)) := by rw [eV38, hv_un (by omega)]; exact hV26
        have hV52 : V37 (mo + 19) = some (.inl (X.2.1 0, 8, .inl eg)) := by rw [eV38, hv_un (by omega)]; exact hV27
        have hV53 : V37 (mo + 21) = some (.inl (X.2.1 0, 8, .inl bf)) := by rw [eV38, hv_un (by omega)]; exact hV28
        have hV54 : V37 (mo + 22) = some (.inl (X.2.1 0, 8, .inl bg)) := by rw [eV38, hv_un (by omega)]; exact hV29
        have hV55 : V37 (mo + 41) = some (.inl (X.2.1 0, 6, .inl σ.2.2.2.1)) := by rw [eV38, hv_un (by omega)]; exact hV30
        have hV56 : V37 (mo + 42) = some (.inl (X.2.1 0, 6, .inl (fun j => nI (σ.2.2.2.2.1 j)))) := by rw [eV38, hv_un (by omega)]; exact hV31
        have hV57 : V37 (mo + 43) = some (.inl (X.2.1 7, 6, .inr (.inr (.inr (.inr tf))))) := by rw [eV38, hv_un (by omega)]; exact hV32
        have hV58 : V37 (mo + 4 + j1) = some (.inl (X.2.1 0, 16, .inl (σ.1.1.2.2 j1))) := by rw [eV38, hv_un (by omega)]; exact hV33
        have hV59 : V37 (mo + 1) = some (.inl (X.2.1 0, 6, .inl (upd (σ.1.1.1) j1 ((σ.1.1.1) j1)))) := by rw [eV38, hv_un (by omega)]; exact hV34
        have hV60 : V37 (mo + 2) = some (.inl (X.2.1 0, 6, .inl (upd (fun j => nI (σ.1.1.2.1 j)) j1 (nI (σ.1.1.2.1 j1))))) := by rw [eV38]; exact hv_us
        refine lv_aload_n C0.1 C0.2.1 dX7_copies_40 rfl (lv_at hl 0 rfl) ?_
        refine gf_X7_20 C0 w hV39 rfl dX7_copies_41 ?_
        refine lv_iload_n C0.1 C0.2.1 dX7_copies_44 rfl (lv_at hl 2 rfl) ?_
        refine hv_aalA 6 rfl C0 w rfl hV41 (hn_in hj1 (by decide)) (by rw [kj1]; exact r4 j1 hj1) dX7_copies_45 ?_
        refine lv_iconst (v := 0) C0.1 C0.2.1 dX7_copies_46 (by decide) ?_
        refine lv_aload_n C0.1 C0.2.1 dX7_copies_47 rfl (lv_at hl 0 rfl) ?_
        refine gf_X7_20 C0 w hV39 rfl dX7_copies_48 ?_
        refine lv_iload_n C0.1 C0.2.1 dX7_copies_51 rfl (lv_at hl 1 rfl) ?_
        refine hv_aalA 6 rfl C0 w rfl hV41 (hn_in hj1 (by decide)) (by rw [kj1]; exact r4 j1 hj1) dX7_copies_52 ?_
        refine lv_iconst (v := 0) C0.1 C0.2.1 dX7_copies_53 (by decide) ?_
        refine lv_bipush (v := 16) C0.1 C0.2.1 dX7_copies_54 (by decide) ?_
        refine hv_copyi C0 w hl.1 kj_X7_148 hV58 hV58 (by decide) (by decide) (by decide) (by decide) (by decide) (by decide) (Nat.le_of_ble_eq_true rfl) dX7_copies_56 (fun Hq lq w => ?_)
        have w := hv_w.as (a := mo + 4 + j1) (n := 16) (f := va_cpy (σ.1.1.2.2 j1) (σ.1.1.2.2 j1) 0 0 16) (g := (σ.1.1.2.2 j1)) w hv_us (fun i9 hi9 => by simp [va_cpy, hi9])
        rw [hv_uu] at w
        obtain ⟨V61, eV62⟩ : ∃ V9, V9 = hv_up V37 (mo + 4 + j1) (.inl (X.2.1 0, 16, .inl (σ.1.1.2.2 j1))) := ⟨_, rfl⟩
        have w : hv_w X s V61 Hq lq := by rw [eV62]; exact w
        have hV63 : V61 mo = some (.inr (7, [.ref (mo + 1), .ref (mo + 2), .ref (mo + 3), .long ab, .long be, .ref (mo + 10), .int (nI σ.2.2.1.1), .int pl, .int cl, .ref (mo + 11), .ref (mo + 12), .ref (mo + 13), .int sg, .ref (mo + 14), .ref (mo + 15), .ref (mo + 16), .ref (mo + 17), .int (nI σ.1.2.1.1), .ref (mo + 18), .ref (mo + 19), .int (nI σ.1.2.2.1.1), .ref (mo + 20), .ref (mo + 21), .ref (mo + 22), .int (nI σ.1.2.2.2.1), .int ik, .ref (mo + 23), .ref (mo + 24), .ref (mo + 25), .ref (mo + 26), .ref (mo + 33), .ref (mo + 41), .ref (mo + 42), .ref (mo + 43)])) := by rw [eV62, hv_un (by omega)]; exact hV39
        have hV64 : V61 (mo + 3) = some (.inl (X.2.1 6, 6, .inr (.inr (.inr (.inr rf))))) := by rw [eV62, hv_un (by omega)]; exact hV41
        have hV65 : V61 (mo + 10) = some (.inl (X.2.1 2, 100, .inl σ.2.2.1.2)) := by rw [eV62, hv_un (by omega)]; exact hV42
        have hV66 : V61 (mo + 11) = some (.inl (X.2.1 0, 12, .inl wd)) := by rw [eV62, hv_un (by omega)]; exact hV43
        have hV67 : V61 (mo + 12) = some (.inl (X.2.1 0, 48, .inl td)) := by rw [eV62, hv_un (by omega)]; exact hV44
        have hV68 : V61 (mo + 13) = some (.inl (X.2.1 2, 178, .inl sn)) := by rw [eV62, hv_un (by omega)]; exact hV45
        have hV69 : V61 (mo + 14) = some (.inl (X.2.1 0, 3, .inl ut)) := by rw [eV62, hv_un (by omega)]; exact hV46
        have hV70 : V61 (mo + 20) = some (.inl (X.2.1 0, 16, .inl kn)) := by rw [eV62, hv_un (by omega)]; exact hV47
        have hV71 : V61 (mo + 15) = some (.inl (X.2.1 0, 4, .inl sf)) := by rw [eV62, hv_un (by omega)]; exact hV48
        have hV72 : V61 (mo + 16) = some (.inl (X.2.1 0, 4, .inl sg9)) := by rw [eV62, hv_un (by omega)]; exact hV49
        have hV73 : V61 (mo + 17) = some (.inl (X.2.1 0, 4, .inl sh)) := by rw [eV62, hv_un (by omega)]; exact hV50
        have hV74 : V61 (mo + 18) = some (.inl (X.2.1 0, 8, .inl ef)) := by rw [eV62, hv_un (by omega)]; exact hV51
        have hV75 : V61 (mo + 19) = some (.inl (X.2.1 0, 8, .inl eg)) := by rw [eV62, hv_un (by omega)]; exact hV52
        have hV76 : V61 (mo + 21) = some (.inl (X.2.1 0, 8, .inl bf)) := by rw [eV62, hv_un (by omega)]; exact hV53
        have hV77 : V61 (mo + 22) = some (.inl (X.2.1 0, 8, .inl bg)) := by rw [eV62, hv_un (by omega)]; exact hV54
        have hV78 : V61 (mo + 41) = some (.inl (X.2.1 0, 6, .inl σ.2.2.2.1)) := by rw [eV62, hv_un (by omega)]; exact hV55
        have hV79 : V61 (mo + 42) = some (.inl (X.2.1 0, 6, .inl (fun j => nI (σ.2.2.2.2.1 j)))) := by rw [eV62, hv_un (by omega)]; exact hV56
        have hV80 : V61 (mo + 43) = some (.inl (X.2.1 7, 6, .inr (.inr (.inr (.inr tf))))) := by rw [eV62, hv_un (by omega)]; exact hV57
        have hV82 : V61 (mo + 1) = some (.inl (X.2.1 0, 6, .inl (upd (σ.1.1.1) j1 ((σ.1.1.1) j1)))) := by rw [eV62, hv_un (by omega)]; exact hV59
        have hV83 : V61 (mo + 2) = some (.inl (X.2.1 0, 6, .inl (upd (fun j => nI (σ.1.1.2.1 j)) j1 (nI (σ.1.1.2.1 j1))))) := by rw [eV62, hv_un (by omega)]; exact hV60
        have hV84 : V61 (mo + 4 + j1) = some (.inl (X.2.1 0, 16, .inl (σ.1.1.2.2 j1))) := by rw [eV62]; exact hv_us
        refine lv_aload_n C0.1 C0.2.1 dX7_copies_59 rfl (lv_at hl 0 rfl) ?_
        refine gf_X7_15 C0 w hV63 rfl dX7_copies_60 ?_
        refine lv_iload_n C0.1 C0.2.1 dX7_copies_63 rfl (lv_at hl 1 rfl) ?_
        refine hv_iald C0 w hV83 (hn_in hj1 (by decide)) dX7_copies_64 ?_
        have hc85 : (nI j1).toNatClampNeg = j1 := nI_clamp (by omega)
        rw [hc85]
        rw [hs_uself]
        exact hv_iret C0 w hr hlk (by rw [sp_copies, if_pos ⟨ihb4, ihb8⟩, kj1]; exact ⟨rfl, ⟨ab, be, pl, cl, sg, ik, ((by rw [eV62, hv_un (by omega), eV38, hv_un (by omega), eV12, hv_un (by omega)] : _ = V mo).trans hO), hRw.set hj1 (by rw [eV62, hv_un (by omega), eV38, hv_un (by omega), eV12]; exact hv_us) (by rw [eV62, hv_un (by omega), eV38]; exact hv_us) (by rw [eV62]; exact hv_us) (by rw [eV62, hv_un (by omega), eV38, hv_un (by omega), eV12, hv_un (by omega)]) (fun i9 hi9 hne9 => by rw [eV62, hv_un (by omega), eV38, hv_un (by omega), eV12, hv_un (by omega)]), (by rw [eV62, hv_un (by omega), eV38, hv_un (by omega), eV12, hv_un (by omega)] : _ = V (mo + 10)).trans hTx, hSc.fr (fun q h7 h8 => by rw [eV62, hv_un (by omega), eV38, hv_un (by omega), eV12, hv_un (by omega)]) (fun q h7 h8 => by rw [eV62, hv_un (by omega), eV38, hv_un (by omega), eV12, hv_un (by omega)]), hSe.fr (fun q h7 h8 => by rw [eV62, hv_un (by omega), eV38, hv_un (by omega), eV12, hv_un (by omega)]), hEv.fr (by rw [eV62, hv_un (by omega), eV38, hv_un (by omega), eV12, hv_un (by omega)]) (by rw [eV62, hv_un (by omega), eV38, hv_un (by omega), eV12, hv_un (by omega)]), hBk.fr (by rw [eV62, hv_un (by omega), eV38, hv_un (by omega), eV12, hv_un (by omega)]) (by rw [eV62, hv_un (by omega), eV38, hv_un (by omega), eV12, hv_un (by omega)]), hIm.fr (fun q h7 h8 => by rw [eV62, hv_un (by omega), eV38, hv_un (by omega), eV12, hv_un (by omega)]), hTp.fr (fun q h7 h8 => by rw [eV62, hv_un (by omega), eV38, hv_un (by omega), eV12, hv_un (by omega)])⟩, (fun q h7 => by rw [eV62, hv_un (by omega), eV38, hv_un (by omega), eV12, hv_un (by omega)]), om_kp.sm (by rw [eV62, hv_un (by omega), eV38, hv_un (by omega), eV12, hv_un (by omega)]) (by rw [eV62, hv_un (by omega), eV38, hv_un (by omega), eV12, hv_un (by omega)]) (by rw [eV62, hv_un (by omega), eV38, hv_un (by omega), eV12, hv_un (by omega)])⟩) dX7_copies_65
      · skip
        refine lv_aload_n C0.1 C0.2.1 dX7_copies_16 rfl (lv_at hl 0 rfl) ?_
        refine gf_X7_11 C0 w hO rfl dX7_copies_17 ?_
        refine lv_iload_n C0.1 C0.2.1 dX7_copies_20 rfl (lv_at hl 1 rfl) ?_
        refine lv_aload_n C0.1 C0.2.1 dX7_copies_21 rfl (lv_at hl 0 rfl) ?_
        refine gf_X7_11 C0 w hO rfl dX7_copies_22 ?_
        refine lv_iload_n C0.1 C0.2.1 dX7_copies_25 rfl (lv_at hl 2 rfl) ?_
        refine hv_iald C0 w r1 (hn_in (by omega) (by decide)) dX7_copies_26 ?_
        have hc86 : (nI j2).toNatClampNeg = j2 := nI_clamp (by omega)
        rw [hc86]
        refine hv_iast C0 w r1 (hn_in hj1 (by decide)) dX7_copies_27 (fun Hq lq w => ?_)
        have hc87 : (nI j1).toNatClampNeg = j1 := nI_clamp (by omega)
        rw [hc87] at w
        obtain ⟨V88, eV89⟩ : ∃ V9, V9 = hv_up V (mo + 1) (.inl (X.2.1 0, 6, .inl (upd (σ.1.1.1) j1 ((σ.1.1.1) j2)))) := ⟨_, rfl⟩
        have w : hv_w X s V88 Hq lq := by rw [eV89]; exact w
        have hV90 : V88 mo = some (.inr (7, [.ref (mo + 1), .ref (mo + 2), .ref (mo + 3), .long ab, .long be, .ref (mo + 10), .int (nI σ.2.2.1.1), .int pl, .int cl, .ref (mo + 11), .ref (mo + 12), .ref (mo + 13), .int sg, .ref (mo + 14), .ref (mo + 15), .ref (mo + 16), .ref (mo + 17), .int (nI σ.1.2.1.1), .ref (mo + 18), .ref (mo + 19), .int (nI σ.1.2.2.1.1), .ref (mo + 20), .ref (mo + 21), .ref (mo + 22), .int (nI σ.1.2.2.2.1), .int ik, .ref (mo + 23), .ref (mo + 24), .ref (mo + 25), .ref (mo + 26), .ref (mo + 33), .ref (mo + 41), .ref (mo + 42), .ref (mo + 43)])) := by rw [eV89, hv_un (by omega)]; exact hO
        have hV92 : V88 (mo + 2) = some (.inl (X.2.1 0, 6, .inl (fun j => nI (σ.1.1.2.1 j)))) := by rw [eV89, hv_un (by omega)]; exact r2
        have hV93 : V88 (mo + 3) = some (.inl (X.2.1 6, 6, .inr (.inr (.inr (.inr rf))))) := by rw [eV89, hv_un (by omega)]; exact r3
        have hV94 : V88 (mo + 10) = some (.inl (X.2.1 2, 100, .inl σ.2.2.1.2)) := by rw [eV89, hv_un (by omega)]; exact hTx
        have hV95 : V88 (mo + 11) = some (.inl (X.2.1 0, 12, .inl wd)) := by rw [eV89, hv_un (by omega)]; exact s1
        have hV96 : V88 (mo + 12) = some (.inl (X.2.1 0, 48, .inl td)) := by rw [eV89, hv_un (by omega)]; exact s2
        have hV97 : V88 (mo + 13) = some (.inl (X.2.1 2, 178, .inl sn)) := by rw [eV89, hv_un (by omega)]; exact s3
        have hV98 : V88 (mo + 14) = some (.inl (X.2.1 0, 3, .inl ut)) := by rw [eV89, hv_un (by omega)]; exact s4
        have hV99 : V88 (mo + 20) = some (.inl (X.2.1 0, 16, .inl kn)) := by rw [eV89, hv_un (by omega)]; exact s5
        have hV100 : V88 (mo + 15) = some (.inl (X.2.1 0, 4, .inl sf)) := by rw [eV89, hv_un (by omega)]; exact e1
        have hV101 : V88 (mo + 16) = some (.inl (X.2.1 0, 4, .inl sg9)) := by rw [eV89, hv_un (by omega)]; exact e2
        have hV102 : V88 (mo + 17) = some (.inl (X.2.1 0, 4, .inl sh)) := by rw [eV89, hv_un (by omega)]; exact e3
        have hV103 : V88 (mo + 18) = some (.inl (X.2.1 0, 8, .inl ef)) := by rw [eV89, hv_un (by omega)]; exact v1
        have hV104 : V88 (mo + 19) = some (.inl (X.2.1 0, 8, .inl eg)) := by rw [eV89, hv_un (by omega)]; exact v2
        have hV105 : V88 (mo + 21) = some (.inl (X.2.1 0, 8, .inl bf)) := by rw [eV89, hv_un (by omega)]; exact b1
        have hV106 : V88 (mo + 22) = some (.inl (X.2.1 0, 8, .inl bg)) := by rw [eV89, hv_un (by omega)]; exact b2
        have hV107 : V88 (mo + 41) = some (.inl (X.2.1 0, 6, .inl σ.2.2.2.1)) := by rw [eV89, hv_un (by omega)]; exact t1
        have hV108 : V88 (mo + 42) = some (.inl (X.2.1 0, 6, .inl (fun j => nI (σ.2.2.2.2.1 j)))) := by rw [eV89, hv_un (by omega)]; exact t2
        have hV109 : V88 (mo + 43) = some (.inl (X.2.1 7, 6, .inr (.inr (.inr (.inr tf))))) := by rw [eV89, hv_un (by omega)]; exact t3
        have hV110 : V88 (mo + 4 + j1) = some (.inl (X.2.1 0, 16, .inl (σ.1.1.2.2 j1))) := by rw [eV89, hv_un (by omega)]; exact hN_j1
        have hV111 : V88 (mo + 4 + j2) = some (.inl (X.2.1 0, 16, .inl (σ.1.1.2.2 j2))) := by rw [eV89, hv_un (by omega)]; exact hN_j2
        have hV112 : V88 (mo + 1) = some (.inl (X.2.1 0, 6, .inl (upd (σ.1.1.1) j1 ((σ.1.1.1) j2)))) := by rw [eV89]; exact hv_us
        refine lv_aload_n C0.1 C0.2.1 dX7_copies_28 rfl (lv_at hl 0 rfl) ?_
        refine gf_X7_15 C0 w hV90 rfl dX7_copies_29 ?_
        refine lv_iload_n C0.1 C0.2.1 dX7_copies_32 rfl (lv_at hl 1 rfl) ?_
        refine lv_aload_n C0.1 C0.2.1 dX7_copies_33 rfl (lv_at hl 0 rfl) ?_
        refine gf_X7_15 C0 w hV90 rfl dX7_copies_34 ?_
        refine lv_iload_n C0.1 C0.2.1 dX7_copies_37 rfl (lv_at hl 2 rfl) ?_
        refine hv_iald C0 w hV92 (hn_in (by omega) (by decide)) dX7_copies_38 ?_
        have hc113 : (nI j2).toNatClampNeg = j2 := nI_clamp (by omega)
        rw [hc113]
        refine hv_iast C0 w hV92 (hn_in hj1 (by decide)) dX7_copies_39 (fun Hq lq w => ?_)
        have hc114 : (nI j1).toNatClampNeg = j1 := nI_clamp (by omega)
        rw [hc114] at w
        obtain ⟨V115, eV116⟩ : ∃ V9, V9 = hv_up V88 (mo + 2) (.inl (X.2.1 0, 6, .inl (upd (fun j => nI (σ.1.1.2.1 j)) j1 (nI (σ.1.1.2.1 j2))))) := ⟨_, rfl⟩
        have w : hv_w X s V115 Hq lq := by rw [eV116]; exact w
        have hV117 : V115 mo = some (.inr (7, [.ref (mo + 1), .ref (mo + 2), .ref (mo + 3), .long ab, .long be, .ref (mo + 10), .int (nI σ.2.2.1.1), .int pl, .int cl, .ref (mo + 11), .ref (mo + 12), .ref (mo + 13), .int sg, .ref (mo + 14), .ref (mo + 15), .ref (mo + 16), .ref (mo + 17), .int (nI σ.1.2.1.1), .ref (mo + 18), .ref (mo + 19), .int (nI σ.1.2.2.1.1), .ref (mo + 20), .ref (mo + 21), .ref (mo + 22), .int (nI σ.1.2.2.2.1), .int ik, .ref (mo + 23), .ref (mo + 24), .ref (mo + 25), .ref (mo + 26), .ref (mo + 33), .ref (mo + 41), .ref (mo + 42), .ref (mo + 43)])) := by rw [eV116, hv_un (by omega)]; exact hV90
        have hV119 : V115 (mo + 3) = some (.inl (X.2.1 6, 6, .inr (.inr (.inr (.inr rf))))) := by rw [eV116, hv_un (by omega)]; exact hV93
        have hV120 : V115 (mo + 10) = some (.inl (X.2.1 2, 100, .inl σ.2.2.1.2)) := by rw [eV116, hv_un (by omega)]; exact hV94
        have hV121 : V115 (mo + 11) = some (.inl (X.2.1 0, 12, .inl wd)) := by rw [eV116, hv_un (by omega)]; exact hV95
        have hV122 : V115 (mo + 12) = some (.inl (X.2.1 0, 48, .inl td)) := by rw [eV116, hv_un (by omega)]; exact hV96
        have hV123 : V115 (mo + 13) = some (.inl (X.2.1 2, 178, .inl sn)) := by rw [eV116, hv_un (by omega)]; exact hV97
        have hV124 : V115 (mo + 14) = some (.inl (X.2.1 0, 3, .inl ut)) := by rw [eV116, hv_un (by omega)]; exact hV98
        have hV125 : V115 (mo + 20) = some (.inl (X.2.1 0, 16, .inl kn)) := by rw [eV116, hv_un (by omega)]; exact hV99
        have hV126 : V115 (mo + 15) = some (.inl (X.2.1 0, 4, .inl sf)) := by rw [eV116, hv_un (by omega)]; exact hV100
        have hV127 : V115 (mo + 16) = some (.inl (X.2.1 0, 4, .inl sg9)) := by rw [eV116, hv_un (by omega)]; exact hV101
        have hV128 : V115 (mo + 17) = some (.inl (X.2.1 0, 4, .inl sh)) := by rw [eV116, hv_un (by omega)]; exact hV102
        have hV129 : V115 (mo + 18) = some (.inl (X.2.1 0, 8, .inl ef)) := by rw [eV116, hv_un (by omega)]; exact hV103
        have hV130 : V115 (mo + 19) = some (.inl (X.2.1 0, 8, .inl eg)) := by rw [eV116, hv_un (by omega)]; exact hV104
        have hV131 : V115 (mo + 21) = some (.inl (X.2.1 0, 8, .inl bf)) := by rw [eV116, hv_un (by omega)]; exact hV105
        have hV132 : V115 (mo + 22) = some (.inl (X.2.1 0, 8, .inl bg)) := by rw [eV116, hv_un (by omega)]; exact hV106
        have hV133 : V115 (mo + 41) = some (.inl (X.2.1 0, 6, .inl σ.2.2.2.1)) := by rw [eV116, hv_un (by omega)]; exact hV107
        have hV134 : V115 (mo + 42) = some (.inl (X.2.1 0, 6, .inl (fun j => nI (σ.2.2.2.2.1 j)))) := by rw [eV116, hv_un (by omega)]; exact hV108
        have hV135 : V115 (mo + 43) = some (.inl (X.2.1 7, 6, .inr (.inr (.inr (.inr tf))))) := by rw [eV116, hv_un (by omega)]; exact hV109
        have hV136 : V115 (mo + 4 + j1) = some (.inl (X.2.1 0, 16, .inl (σ.1.1.2.2 j1))) := by rw [eV116, hv_un (by omega)]; exact hV110
        have hV137 : V115 (mo + 4 + j2) = some (.inl (X.2.1 0, 16, .inl (σ.1.1.2.2 j2))) := by rw [eV116, hv_un (by omega)]; exact hV111
        have hV138 : V115 (mo + 1) = some (.inl (X.2.1 0, 6, .inl (upd (σ.1.1.1) j1 ((σ.1.1.1) j2)))) := by rw [eV116, hv_un (by omega)]; exact hV112
        have hV139 : V115 (mo + 2) = some (.inl (X.2.1 0, 6, .inl (upd (fun j => nI (σ.1.1.2.1 j)) j1 (nI (σ.1.1.2.1 j2))))) := by rw [eV116]; exact hv_us
        refine lv_aload_n C0.1 C0.2.1 dX7_copies_40 rfl (lv_at hl 0 rfl) ?_
        refine gf_X7_20 C0 w hV117 rfl dX7_copies_41 ?_
        refine lv_iload_n C0.1 C0.2.1 dX7_copies_44 rfl (lv_at hl 2 rfl) ?_
        refine hv_aalA 6 rfl C0 w rfl hV119 (hn_in hj2 (by decide)) (by rw [kj2]; exact r4 j2 hj2) dX7_copies_45 ?_
        refine lv_iconst (v := 0) C0.1 C0.2.1 dX7_copies_46 (by decide) ?_
        refine lv_aload_n C0.1 C0.2.1 dX7_copies_47 rfl (lv_at hl 0 rfl) ?_
        refine gf_X7_20 C0 w hV117 rfl dX7_copies_48 ?_
        refine lv_iload_n C0.1 C0.2.1 dX7_copies_51 rfl (lv_at hl 1 rfl) ?_
        refine hv_aalA 6 rfl C0 w rfl hV119 (hn_in hj1 (by decide)) (by rw [kj1]; exact r4 j1 hj1) dX7_copies_52 ?_
        refine lv_iconst (v := 0) C0.1 C0.2.1 dX7_copies_53 (by decide) ?_
        refine lv_bipush (v := 16) C0.1 C0.2.1 dX7_copies_54 (by decide) ?_
        refine hv_copyi C0 w hl.1 kj_X7_148 hV137 hV136 (by decide) (by decide) (by decide) (by decide) (by decide) (by decide) (Nat.le_of_ble_eq_true rfl) dX7_copies_56 (fun Hq lq w => ?_)
        have w := hv_w.as (a := mo + 4 + j1) (n := 16) (f := va_cpy (σ.1.1.2.2 j2) (σ.1.1.2.2 j1) 0 0 16) (g := (σ.1.1.2.2 j2)) w hv_us (fun i9 hi9 => by simp [va_cpy, hi9])
        rw [hv_uu] at w
        obtain ⟨V140, eV141⟩ : ∃ V9, V9 = hv_up V115 (mo + 4 + j1) (.inl (X.2.1 0, 16, .inl (σ.1.1.2.2 j2))) := ⟨_, rfl⟩
        have w : hv_w X s V140 Hq lq := by rw [eV141]; exact w
        have hV142 : V140 mo = some (.inr (7, [.ref (mo + 1), .ref (mo + 2), .ref (mo + 3), .long ab, .long be, .ref (mo + 10), .int (nI σ.2.2.1.1), .int pl, .int cl, .ref (mo + 11), .ref (mo + 12), .ref (mo + 13), .int sg, .ref (mo + 14), .ref (mo + 15), .ref (mo + 16), .ref (mo + 17), .int (nI σ.1.2.1.1), .ref (mo + 18), .ref (mo + 19), .int (nI σ.1.2.2.1.1), .ref (mo + 20), .ref (mo + 21), .ref (mo + 22), .int (nI σ.1.2.2.2.1), .int ik, .ref (mo + 23), .ref (mo + 24), .ref (mo + 25), .ref (mo + 26), .ref (mo + 33), .ref (mo + 41), .ref (mo + 42), .ref (mo + 43)])) := by rw [eV141, hv_un (by omega)]; exact hV117
        have hV143 : V140 (mo + 3) = some (.inl (X.2.1 6, 6, .inr (.inr (.inr (.inr rf))))) := by rw [eV141, hv_un (by omega)]; exact hV119
        have hV144 : V140 (mo + 10) = some (.inl (X.2.1 2, 100, .inl σ.2.2.1.2)) := by rw [eV141, hv_un (by omega)]; exact hV120
        have hV145 : V140 (mo + 11) = some (.inl (X.2.1 0, 12, .inl wd)) := by rw [eV141, hv_un (by omega)]; exact hV121
        have hV146 : V140 (mo + 12) = some (.inl (X.2.1 0, 48, .inl td)) := by rw [eV141, hv_un (by omega)]; exact hV122
        have hV147 : V140 (mo + 13) = some (.inl (X.2.1 2, 178, .inl sn)) := by rw [eV141, hv_un (by omega)]; exact hV123
        have hV148 : V140 (mo + 14) = some (.inl (X.2.1 0, 3, .inl ut)) := by rw [eV141, hv_un (by omega)]; exact hV124
        have hV149 : V140 (mo + 20) = some (.inl (X.2.1 0, 16, .inl kn)) := by rw [eV141, hv_un (by omega)]; exact hV125
        have hV150 : V140 (mo + 15) = some (.inl (X.2.1 0, 4, .inl sf)) := by rw [eV141, hv_un (by omega)]; exact hV126
        have hV151 : V140 (mo + 16) = some (.inl (X.2.1 0, 4, .inl sg9)) := by rw [eV141, hv_un (by omega)]; exact hV127
        have hV152 : V140 (mo + 17) = some (.inl (X.2.1 0, 4, .inl sh)) := by rw [eV141, hv_un (by omega)]; exact hV128
        have hV153 : V140 (mo + 18) = some (.inl (X.2.1 0, 8, .inl ef)) := by rw [eV141, hv_un (by omega)]; exact hV129
        have hV154 : V140 (mo + 19) = some (.inl (X.2.1 0, 8, .inl eg)) := by rw [eV141, hv_un (by omega)]; exact hV130
        have hV155 : V140 (mo + 21) = some (.inl (X.2.1 0, 8, .inl bf)) := by rw [eV141, hv_un (by omega)]; exact hV131
        have hV156 : V140 (mo + 22) = some (.inl (X.2.1 0, 8, .inl bg)) := by rw [eV141, hv_un (by omega)]; exact hV132
        have hV157 : V140 (mo + 41) = some (.inl (X.2.1 0, 6, .inl σ.2.2.2.1)) := by rw [eV141, hv_un (by omega)]; exact hV133
        have hV158 : V140 (mo + 42) = some (.inl (X.2.1 0, 6, .inl (fun j => nI (σ.2.2.2.2.1 j)))) := by rw [eV141, hv_un (by omega)]; exact hV134
        have hV159 : V140 (mo + 43) = some (.inl (X.2.1 7, 6, .inr (.inr (.inr (.inr tf))))) := by rw [eV141, hv_un (by omega)]; exact hV135
        have hV161 : V140 (mo + 4 + j2) = some (.inl (X.2.1 0, 16, .inl (σ.1.1.2.2 j2))) := by rw [eV141, hv_un (by omega)]; exact hV137
        have hV162 : V140 (mo + 1) = some (.inl (X.2.1 0, 6, .inl (upd (σ.1.1.1) j1 ((σ.1.1.1) j2)))) := by rw [eV141, hv_un (by omega)]; exact hV138
        have hV163 : V140 (mo + 2) = some (.inl (X.2.1 0, 6, .inl (upd (fun j => nI (σ.1.1.2.1 j)) j1 (nI (σ.1.1.2.1 j2))))) := by rw [eV141, hv_un (by omega)]; exact hV139
        have hV164 : V140 (mo + 4 + j1) = some (.inl (X.2.1 0, 16, .inl (σ.1.1.2.2 j2))) := by rw [eV141]; exact hv_us
        refine lv_aload_n C0.1 C0.2.1 dX7_copies_59 rfl (lv_at hl 0 rfl) ?_
        refine gf_X7_15 C0 w hV142 rfl dX7_copies_60 ?_
        refine lv_iload_n C0.1 C0.2.1 dX7_copies_63 rfl (lv_at hl 1 rfl) ?_
        refine hv_iald C0 w hV163 (hn_in hj1 (by decide)) dX7_copies_64 ?_
        have hc165 : (nI j1).toNatClampNeg = j1 := nI_clamp (by omega)
        rw [hc165]
        rw [hs_uself]
        exact hv_iret C0 w hr hlk (by rw [sp_copies, if_pos ⟨ihb4, ihb8⟩, kj1, kj2]; exact ⟨rfl, ⟨ab, be, pl, cl, sg, ik, ((by rw [eV141, hv_un (by omega), eV116, hv_un (by omega), eV89, hv_un (by omega)] : _ = V mo).trans hO), hRw.set hj1 (by rw [eV141, hv_un (by omega), eV116, hv_un (by omega), eV89]; exact hv_us) (by rw [eV141, hv_un (by omega), eV116]; exact hv_us) (by rw [eV141]; exact hv_us) (by rw [eV141, hv_un (by omega), eV116, hv_un (by omega), eV89, hv_un (by omega)]) (fun i9 hi9 hne9 => by rw [eV141, hv_un (by omega), eV116, hv_un (by omega), eV89, hv_un (by omega)]), (by rw [eV141, hv_un (by omega), eV116, hv_un (by omega), eV89, hv_un (by omega)] : _ = V (mo + 10)).trans hTx, hSc.fr (fun q h7 h8 => by rw [eV141, hv_un (by omega), eV116, hv_un (by omega), eV89, hv_un (by omega)]) (fun q h7 h8 => by rw [eV141, hv_un (by omega), eV116, hv_un (by omega), eV89, hv_un (by omega)]), hSe.fr (fun q h7 h8 => by rw [eV141, hv_un (by omega), eV116, hv_un (by omega), eV89, hv_un (by omega)]), hEv.fr (by rw [eV141, hv_un (by omega), eV116, hv_un (by omega), eV89, hv_un (by omega)]) (by rw [eV141, hv_un (by omega), eV116, hv_un (by omega), eV89, hv_un (by omega)]), hBk.fr (by rw [eV141, hv_un (by omega), eV116, hv_un (by omega), eV89, hv_un (by omega)]) (by rw [eV141, hv_un (by omega), eV116, hv_un (by omega), eV89, hv_un (by omega)]), hIm.fr (fun q h7 h8 => by rw [eV141, hv_un (by omega), eV116, hv_un (by omega), eV89, hv_un (by omega)]), hTp.fr (fun q h7 h8 => by rw [eV141, hv_un (by omega), eV116, hv_un (by omega), eV89, hv_un (by omega)])⟩, (fun q h7 => by rw [eV141, hv_un (by omega), eV116, hv_un (by omega), eV89, hv_un (by omega)]), om_kp.sm (by rw [eV141, hv_un (by omega), eV116, hv_un (by omega), eV89, hv_un (by omega)]) (by rw [eV141, hv_un (by omega), eV116, hv_un (by omega), eV89, hv_un (by omega)]) (by rw [eV141, hv_un (by omega), eV116, hv_un (by omega), eV89, hv_un (by omega)])⟩) dX7_copies_65
    · skip
      refine lv_if_ne (tgt := 16) C0.1 C0.2.1 dX7_copies_11 (by decide) (fun h9 => absurd h9 (by decide)) (fun _ => ?_)
      refine lv_iconst (v := -1) C0.1 C0.2.1 dX7_copies_14 (by decide) ?_
      exact hv_iret C0 w hr hlk (by rw [sp_copies, if_neg (fun h9 => hb8 h9.2)]; exact ⟨rfl, hM, hv_out.rf, om_kp.rf⟩) dX7_copies_15
  · skip
    refine lv_if_eq (tgt := 14) C0.1 C0.2.1 dX7_copies_4 (by decide) (fun _ => ?_) (fun h9 => absurd h9 (by decide))
    refine lv_iconst (v := -1) C0.1 C0.2.1 dX7_copies_14 (by decide) ?_
    exact hv_iret C0 w hr hlk (by rw [sp_copies, if_neg (fun h9 => hb4 h9.1)]; exact ⟨rfl, hM, hv_out.rf, om_kp.rf⟩) dX7_copies_15

set_option maxHeartbeats 4000000 in
set_option maxRecDepth 100000 in
theorem k_X7_spread {l : Launch} {X : hv_X} {V : hv_V} {mo : Nat} {σ : hs_S} (hM : okM X V mo σ) (hB : hs_b σ) {r k u lo : Int32} : hv_Mi l X 220 yX7_spread cX7_spread 5 .int V [.ref mo, .int r, .int k, .int u, .int lo] (fun y V1 => y = (sp_spread σ r k u lo).1 ∧ okM X V1 mo (sp_spread σ r k u lo).2 ∧ hv_out V V1 mo (mo + 50) ∧ om_kp V V1 mo) := by
  refine hv_enter (by decide) (Nat.le_of_ble_eq_true rfl) ?_
  intro p e s m below meth c ls C0 hr hlk hnm w hl
  have hl : lv_has ls 5 [(0, .ref mo), (1, .int r), (2, .int k), (3, .int u), (4, .int lo)] := hl
  obtain ⟨ab, be, pl, cl, sg, ik, hO, hRw, hTx, hSc, hSe, hEv, hBk, hIm, hTp⟩ := id hM
  obtain ⟨r1, r2, ⟨rf, r3, r4⟩, r5⟩ := id hRw
  obtain ⟨⟨wd, s1⟩, ⟨td, s2⟩, ⟨sn, s3⟩, ⟨ut, s4⟩, kn, s5⟩ := id hSc
  obtain ⟨sf, sg9, sh, e1, e2, e3, ea⟩ := id hSe
  obtain ⟨ef, eg, v1, v2, va⟩ := id hEv
  obtain ⟨bf, bg, b1, b2, ba⟩ := id hBk
  obtain ⟨t1, t2, ⟨tf, t3, t4⟩, t5⟩ := id hTp
  have hbR := hB.1.1
  refine lv_iload_n C0.1 C0.2.1 dX7_spread_0 rfl (lv_at hl 1 rfl) ?_
  refine hv_cSi (As := [.int r]) C0 w kl_X7_135 ks_X7_isRow (c_X7_isRow) (by decide) (by decide) rfl hl.1 rfl (Nat.le_of_ble_eq_true rfl) dX7_spread_1 ⟨Nat.le_refl _, Nat.le_refl _⟩ (fun x1 V2 Hq lq hp3 w => ?_)
  obtain ⟨e9, hz9⟩ := hp3
  rw [e9] at w; clear e9
  rcases hz9 with ⟨rfl, hb4⟩ | ⟨rfl, hb4⟩
  · skip
    have ihb4 := hb4
    obtain ⟨j1, hj1, rfl⟩ := sp_inN (k := 5) (by decide) hb4
    have kj1 : (nI j1).toNatClampNeg = j1 := nI_clamp (by omega)
    have hN_j1 : V (mo + 4 + j1) = some (nE X (σ.1.1.2.2 j1)) := r5 j1 hj1
    have hn_j1 : σ.1.1.2.1 j1 ≤ 16 := (hbR j1 hj1).2.1
    refine lv_if_eq (tgt := 14) C0.1 C0.2.1 dX7_spread_4 (by decide) (fun h9 => absurd h9 (by decide)) (fun _ => ?_)
    refine lv_iload_n C0.1 C0.2.1 dX7_spread_7 rfl (lv_at hl 2 rfl) ?_
    refine hv_cSi (As := [.int k]) C0 w kl_X7_139 ks_X7_isKind (c_X7_isKind) (by decide) (by decide) rfl hl.1 rfl (Nat.le_of_ble_eq_true rfl) dX7_spread_8 ⟨Nat.le_refl _, Nat.le_refl _⟩ (fun x5 V6 Hq lq hp7 w => ?_)
    obtain ⟨e9, hz9⟩ := hp7
    rw [e9] at w; clear e9
    rcases hz9 with ⟨rfl, hb8⟩ | ⟨rfl, hb8⟩
    · skip
      refine lv_if_ne (tgt := 16) C0.1 C0.2.1 dX7_spread_11 (by decide) (fun _ => ?_) (fun h9 => absurd h9 (by decide))
      refine lv_iload_n C0.1 C0.2.1 dX7_spread_16 rfl (lv_at hl 3 rfl) ?_
      refine lv_iconst (v := 1) C0.1 C0.2.1 dX7_spread_17 (by decide) ?_
      refine lv_ldc C0.1 C0.2.1 C0.2.2.2.1 (C0.2.2.2.2.1 _ kk_X7_142) dX7_spread_18 ?_
      refine hv_cSi (As := [.int u, .int 1, .int 999999]) C0 w kl_X7_89 ks_X7_in (c_X7_in) (by decide) (by decide) rfl hl.1 rfl (Nat.le_of_ble_eq_true rfl) dX7_spread_20 ⟨Nat.le_refl _, Nat.le_refl _⟩ (fun x9 V10 Hq lq hp11 w => ?_)
      obtain ⟨e9, hz9⟩ := hp11
      rw [e9] at w; clear e9
      rcases hz9 with ⟨rfl, hb12⟩ | ⟨rfl, hb12⟩
      · skip
        refine lv_if_eq (tgt := 43) C0.1 C0.2.1 dX7_spread_23 (by decide) (fun h9 => absurd h9 (by decide)) (fun _ => ?_)
        refine lv_iload C0.1 C0.2.1 dX7_spread_26 (lv_at hl 4 rfl) ?_
        refine lv_iconst (v := 1) C0.1 C0.2.1 dX7_spread_28 (by decide) ?_
        refine lv_ldc C0.1 C0.2.1 C0.2.2.2.1 (C0.2.2.2.2.1 _ kk_X7_142) dX7_spread_29 ?_
        refine hv_cSi (As := [.int lo, .int 1, .int 999999]) C0 w kl_X7_89 ks_X7_in (c_X7_in) (by decide) (by decide) rfl hl.1 rfl (Nat.le_of_ble_eq_true rfl) dX7_spread_31 ⟨Nat.le_refl _, Nat.le_refl _⟩ (fun x13 V14 Hq lq hp15 w => ?_)
        obtain ⟨e9, hz9⟩ := hp15
        rw [e9] at w; clear e9
        rcases hz9 with ⟨rfl, hb16⟩ | ⟨rfl, hb16⟩
        · skip
          refine lv_if_eq (tgt := 43) C0.1 C0.2.1 dX7_spread_34 (by decide) (fun h9 => absurd h9 (by decide)) (fun _ => ?_)
          refine lv_iload_n C0.1 C0.2.1 dX7_spread_37 rfl (lv_at hl 3 rfl) ?_
          refine lv_iload C0.1 C0.2.1 dX7_spread_38 (lv_at hl 4 rfl) ?_
          refine lv_icmp_lt (tgt := 46) C0.1 C0.2.1 dX7_spread_40 (by decide) (fun c_40 => ?_) (fun c_40 => ?_)
          · skip
            have hbU := hb12
            have hbL := hb16
            have hlt9 := c_40
            refine lv_aload_n C0.1 C0.2.1 dX7_spread_46 rfl (lv_at hl 0 rfl) ?_
            refine gf_X7_11 C0 w hO rfl dX7_spread_47 ?_
            refine lv_iload_n C0.1 C0.2.1 dX7_spread_50 rfl (lv_at hl 1 rfl) ?_
            refine lv_iload_n C0.1 C0.2.1 dX7_spread_51 rfl (lv_at hl 2 rfl) ?_
            refine hv_iast C0 w r1 (hn_in hj1 (by decide)) dX7_spread_52 (fun Hq lq w => ?_)
            have hc17 : (nI j1).toNatClampNeg = j1 := nI_clamp (by omega)
            rw [hc17] at w
            obtain ⟨V18, eV19⟩ : ∃ W9, W9 = hv_up V (mo + 1) (.inl (X.2.1 0, 6, .inl (upd (σ.1.1.1) j1 k))) := ⟨_, rfl⟩
            have w : hv_w X s V18 Hq lq := by rw [eV19]; exact w
            have hV20 : V18 mo = some (.inr (7, [.ref (mo + 1), .ref (mo + 2), .ref (mo + 3), .long ab, .long be, .ref (mo + 10), .int (nI σ.2.2.1.1), .int pl, .int cl, .ref (mo + 11), .ref (mo + 12), .ref (mo + 13), .int sg, .ref (mo + 14), .ref (mo + 15), .ref (mo + 16), .ref (mo + 17), .int (nI σ.1.2.1.1), .ref (mo + 18), .ref (mo + 19), .int (nI σ.1.2.2.1.1), .ref (mo + 20), .ref (mo + 21), .ref (mo + 22), .int (nI σ.1.2.2.2.1), .int ik, .ref (mo + 23), .ref (mo + 24), .ref (mo + 25), .ref (mo + 26), .ref (mo + 33), .ref (mo + 41), .ref (mo + 42), .ref (mo + 43)])) := by rw [eV19, hv_un (by omega)]; exact hO
            have hV22 : V18 (mo + 2) = some (.inl (X.2.1 0, 6, .inl (fun j => nI (σ.1.1.2.1 j)))) := by rw [eV19, hv_un (by omega)]; exact r2
            have hV23 : V18 (mo + 3) = some (.inl (X.2.1 6, 6, .inr (.inr (.inr (.inr rf))))) := by rw [eV19, hv_un (by omega)]; exact r3
            have hV24 : V18 (mo + 10) = some (.inl (X.2.1 2, 100, .inl σ.2.2.1.2)) := by rw [eV19, hv_un (by omega)]; exact hTx
            have hV25 : V18 (mo + 11) = some (.inl (X.2.1 0, 12, .inl wd)) := by rw [eV19, hv_un (by omega)]; exact s1
            have hV26 : V18 (mo + 12) = some (.inl (X.2.1 0, 48, .inl td)) := by rw [eV19, hv_un (by omega)]; exact s2
            have hV27 : V18 (mo + 13) = some (.inl (X.2.1 2, 178, .inl sn)) := by rw [eV19, hv_un (by omega)]; exact s3
            have hV28 : V18 (mo + 14) = some (.inl (X.2.1 0, 3, .inl ut)) := by rw [eV19, hv_un (by omega)]; exact s4
            have hV29 : V18 (mo + 20) = some (.inl (X.2.1 0, 16, .inl kn)) := by rw [eV19, hv_un (by omega)]; exact s5
            have hV30 : V18 (mo + 15) = some (.inl (X.2.1 0, 4, .inl sf)) := by rw [eV19, hv_un (by omega)]; exact e1
            have hV31 : V18 (mo + 16) = some (.inl (X.2.1 0, 4, .inl sg9)) := by rw [eV19, hv_un (by omega)]; exact e2
            have hV32 : V18 (mo + 17) = some (.inl (X.2.1 0, 4, .inl sh)) := by rw [eV19, hv_un (by omega)]; exact e3
            have hV33 : V18 (mo + 18) = some (.inl (X.2.1 0, 8, .inl ef)) := by rw [eV19, hv_un (by omega)]; exact v1
            have hV34 : V18 (mo + 19) = some (.inl (X.2.1 0, 8, .inl eg)) := by rw [eV19, hv_un (by omega)]; exact v2
            have hV35 : V18 (mo + 21) = some (.inl (X.2.1 0, 8, .inl bf)) := by rw [eV19, hv_un (by omega)]; exact b1
            have hV36 : V18 (mo + 22) = some (.inl (X.2.1 0, 8, .inl bg)) := by rw [eV19, hv_un (by omega)]; exact b2
            have hV37 : V18 (mo + 41) = some (.inl (X.2.1 0, 6, .inl σ.2.2.2.1)) := by rw [eV19, hv_un (by omega)]; exact t1
            have hV38 : V18 (mo + 42) = some (.inl (X.2.1 0, 6, .inl (fun j => nI (σ.2.2.2.2.1 j)))) := by rw [eV19, hv_un (by omega)]; exact t2
            have hV39 : V18 (mo + 43) = some (.inl (X.2.1 7, 6, .inr (.inr (.inr (.inr tf))))) := by rw [eV19, hv_un (by omega)]; exact t3
            have hV40 : V18 (mo + 4 + j1) = some (.inl (X.2.1 0, 16, .inl (σ.1.1.2.2 j1))) := by rw [eV19, hv_un (by omega)]; exact hN_j1
            have hV41 : V18 (mo + 1) = some (.inl (X.2.1 0, 6, .inl (upd (σ.1.1.1) j1 k))) := by rw [eV19]; exact hv_us
            refine lv_aload_n C0.1 C0.2.1 dX7_spread_53 rfl (lv_at hl 0 rfl) ?_
            refine lv_iload_n C0.1 C0.2.1 dX7_spread_54 rfl (lv_at hl 3 rfl) ?_
            refine lv_i2l (v := u.toInt64) C0.1 C0.2.1 dX7_spread_55 rfl ?_
            refine lv_iload C0.1 C0.2.1 dX7_spread_56 (lv_at hl 4 rfl) ?_
            refine lv_i2l (v := lo.toInt64) C0.1 C0.2.1 dX7_spread_58 rfl ?_
            have bd9 := hs_ul hbU hbL hlt9
            refine hv_cVv C0 w kl_X7_116 kv_X7_lay rfl hV20 (c_X7_lay hV20 (a := u.toInt64) (b := lo.toInt64) bd9.1 bd9.2.1) (by decide) (by decide) rfl hl.1 rfl (Nat.le_of_ble_eq_true rfl) dX7_spread_59 ⟨Nat.le_refl _, Nat.le_refl _⟩ (fun V43 Hq lq hp44 w => ?_)
            have hV46 : V43 (mo + 2) = some (.inl (X.2.1 0, 6, .inl (fun j => nI (σ.1.1.2.1 j)))) := by rw [hp44, hv_un (by omega)]; exact hV22
            have hV47 : V43 (mo + 3) = some (.inl (X.2.1 6, 6, .inr (.inr (.inr (.inr rf))))) := by rw [hp44, hv_un (by omega)]; exact hV23
            have hV48 : V43 (mo + 10) = some (.inl (X.2.1 2, 100, .inl σ.2.2.1.2)) := by rw [hp44, hv_un (by omega)]; exact hV24
            have hV49 : V43 (mo + 11) = some (.inl (X.2.1 0, 12, .inl wd)) := by rw [hp44, hv_un (by omega)]; exact hV25
            have hV50 : V43 (mo + 12) = some (.inl (X.2.1 0, 48, .inl td)) := by rw [hp44, hv_un (by omega)]; exact hV26
            have hV51 : V43 (mo + 13) = some (.inl (X.2.1 2, 178, .inl sn)) := by rw [hp44, hv_un (by omega)]; exact hV27
            have hV52 : V43 (mo + 14) = some (.inl (X.2.1 0, 3, .inl ut)) := by rw [hp44, hv_un (by omega)]; exact hV28
            have hV53 : V43 (mo + 20) = some (.inl (X.2.1 0, 16, .inl kn)) := by rw [hp44, hv_un (by omega)]; exact hV29
            have hV54 : V43 (mo + 15) = some (.inl (X.2.1 0, 4, .inl sf)) := by rw [hp44, hv_un (by omega)]; exact hV30
            have hV55 : V43 (mo + 16) = some (.inl (X.2.1 0, 4, .inl sg9)) := by rw [hp44, hv_un (by omega)]; exact hV31
            have hV56 : V43 (mo + 17) = some (.inl (X.2.1 0, 4, .inl sh)) := by rw [hp44, hv_un (by omega)]; exact hV32
            have hV57 : V43 (mo + 18) = some (.inl (X.2.1 0, 8, .inl ef)) := by rw [hp44, hv_un (by omega)]; exact hV33
            have hV58 : V43 (mo + 19) = some (.inl (X.2.1 0, 8, .inl eg)) := by rw [hp44, hv_un (by omega)]; exact hV34
            have hV59 : V43 (mo + 21) = some (.inl (X.2.1 0, 8, .inl bf)) := by rw [hp44, hv_un (by omega)]; exact hV35
            have hV60 : V43 (mo + 22) = some (.inl (X.2.1 0, 8, .inl bg)) := by rw [hp44, hv_un (by omega)]; exact hV36
            have hV61 : V43 (mo + 41) = some (.inl (X.2.1 0, 6, .inl σ.2.2.2.1)) := by rw [hp44, hv_un (by omega)]; exact hV37
            have hV62 : V43 (mo + 42) = some (.inl (X.2.1 0, 6, .inl (fun j => nI (σ.2.2.2.2.1 j)))) := by rw [hp44, hv_un (by omega)]; exact hV38
            have hV63 : V43 (mo + 43) = some (.inl (X.2.1 7, 6, .inr (.inr (.inr (.inr tf))))) := by rw [hp44, hv_un (by omega)]; exact hV39
            have hV64 : V43 (mo + 4 + j1) = some (.inl (X.2.1 0, 16, .inl (σ.1.1.2.2 j1))) := by rw [hp44, hv_un (by omega)]; exact hV40
            have hV65 : V43 (mo + 1) = some (.inl (X.2.1 0, 6, .inl (upd (σ.1.1.1) j1 k))) := by rw [hp44, hv_un (by omega)]; exact hV41
            have hV66 : V43 mo = some (.inr (7, [.ref (mo + 1), .ref (mo + 2), .ref (mo + 3), .long (fl_a u.toInt64 lo.toInt64), .long (fl_b u.toInt64 lo.toInt64), .ref (mo + 10), .int (nI σ.2.2.1.1), .int pl, .int cl, .ref (mo + 11), .ref (mo + 12), .ref (mo + 13), .int sg, .ref (mo + 14), .ref (mo + 15), .ref (mo + 16), .ref (mo + 17), .int (nI σ.1.2.1.1), .ref (mo + 18), .ref (mo + 19), .int (nI σ.1.2.2.1.1), .ref (mo + 20), .ref (mo + 21), .ref (mo + 22), .int (nI σ.1.2.2.2.1), .int ik, .ref (mo + 23), .ref (mo + 24), .ref (mo + 25), .ref (mo + 26), .ref (mo + 33), .ref (mo + 41), .ref (mo + 42), .ref (mo + 43)])) := by rw [hp44]; exact hv_us
            refine lv_aload_n C0.1 C0.2.1 dX7_spread_62 rfl (lv_at hl 0 rfl) ?_
            refine lv_iload_n C0.1 C0.2.1 dX7_spread_63 rfl (lv_at hl 1 rfl) ?_
            refine hv_cVi C0 w kl_X7_143 kv_X7_spreads rfl hV66 (c_X7_spreads hV66 hV65 hV46 hV47 (r4 j1 hj1) hj1 hV64 bd9.2.2.1 bd9.2.2.2.1 bd9.2.2.2.2) (by decide) (by decide) rfl hl.1 rfl (Nat.le_of_ble_eq_true rfl) dX7_spread_64 ⟨Nat.le_refl _, Nat.le_refl _⟩ (fun x67 V68 Hq lq hp69 w => ?_)
            obtain ⟨ab70, be71, eV72, ey73⟩ := hp69
            exact hv_iret C0 w hr hlk (by rw [sp_spread, if_pos ⟨ihb4, hb8⟩, if_pos ⟨hb12, hb16, c_40⟩, kj1, sp_sprd]; exact ⟨by rw [ey73, hs_uself], ⟨ab70, be71, pl, cl, sg, ik, (by rw [eV72, hv_un (by omega), hv_un (by omega)]; exact hv_us), hRw.set hj1 (by rw [eV72, hv_un (by omega), hv_un (by omega), hv_un (by omega), hp44, hv_un (by omega), eV19]; exact hv_us) (by rw [eV72, hs_uself]; exact hv_us) (by rw [eV72, hv_un (by omega), hs_uself]; exact hv_us) (by rw [eV72, hv_un (by omega), hv_un (by omega), hv_un (by omega), hp44, hv_un (by omega), eV19, hv_un (by omega)]) (fun i9 hi9 hne9 => by rw [eV72, hv_un (by omega), hv_un (by omega), hv_un (by omega), hp44, hv_un (by omega), eV19, hv_un (by omega)]), (by rw [eV72, hv_un (by omega), hv_un (by omega), hv_un (by omega), hp44, hv_un (by omega), eV19, hv_un (by omega)] : _ = V (mo + 10)).trans hTx, hSc.fr (fun q h7 h8 => by rw [eV72, hv_un (by omega), hv_un (by omega), hv_un (by omega), hp44, hv_un (by omega), eV19, hv_un (by omega)]) (fun q h7 h8 => by rw [eV72, hv_un (by omega), hv_un (by omega), hv_un (by omega), hp44, hv_un (by omega), eV19, hv_un (by omega)]), hSe.fr (fun q h7 h8 => by rw [eV72, hv_un (by omega), hv_un (by omega), hv_un (by omega), hp44, hv_un (by omega), eV19, hv_un (by omega)]), hEv.fr (by rw [eV72, hv_un (by omega), hv_un (by omega), hv_un (by omega), hp44, hv_un (by omega), eV19, hv_un (by omega)]) (by rw [eV72, hv_un (by omega), hv_un (by omega), hv_un (by omega), hp44, hv_un (by omega), eV19, hv_un (by omega)]), hBk.fr (by rw [eV72, hv_un (by omega), hv_un (by omega), hv_un (by omega), hp44, hv_un (by omega), eV19, hv_un (by omega)]) (by rw [eV72, hv_un (by omega), hv_un (by omega), hv_un (by omega), hp44, hv_un (by omega), eV19, hv_un (by omega)]), hIm.fr (fun q h7 h8 => by rw [eV72, hv_un (by omega), hv_un (by omega), hv_un (by omega), hp44, hv_un (by omega), eV19, hv_un (by omega)]), hTp.fr (fun q h7 h8 => by rw [eV72, hv_un (by omega), hv_un (by omega), hv_un (by omega), hp44, hv_un (by omega), eV19, hv_un (by omega)])⟩, (fun q h7 => by rw [eV72, hv_un (by omega), hv_un (by omega), hv_un (by omega), hp44, hv_un (by omega), eV19, hv_un (by omega)]), om_kp.ob hO (by rw [eV72, hv_un (by omega), hv_un (by omega)]; exact hv_us) (by rw [eV72, hv_un (by omega), hv_un (by omega), hv_un (by omega), hp44, hv_un (by omega), eV19, hv_un (by omega)]) (by rw [eV72, hv_un (by omega), hv_un (by omega), hv_un (by omega), hp44, hv_un (by omega), eV19, hv_un (by omega)])⟩) dX7_spread_67
          · skip
            refine lv_bipush (v := -2) C0.1 C0.2.1 dX7_spread_43 (by decide) ?_
            exact hv_iret C0 w hr hlk (by rw [sp_spread, if_pos ⟨ihb4, hb8⟩, if_neg (fun h9 => c_40 h9.2.2)]; exact ⟨rfl, hM, hv_out.rf, om_kp.rf⟩) dX7_spread_45
        · skip
          refine lv_if_eq (tgt := 43) C0.1 C0.2.1 dX7_spread_34 (by decide) (fun _ => ?_) (fun h9 => absurd h9 (by decide))
          refine lv_bipush (v := -2) C0.1 C0.2.1 dX7_spread_43 (by decide) ?_
          exact hv_iret C0 w hr hlk (by rw [sp_spread, if_pos ⟨ihb4, hb8⟩, if_neg (fun h9 => hb16 h9.2.1)]; exact ⟨rfl, hM, hv_out.rf, om_kp.rf⟩) dX7_spread_45
      · skip
        refine lv_if_eq (tgt := 43) C0.1 C0.2.1 dX7_spread_23 (by decide) (fun _ => ?_) (fun h9 => absurd h9 (by decide))
        refine lv_bipush (v := -2) C0.1 C0.2.1 dX7_spread_43 (by decide) ?_
        exact hv_iret C0 w hr hlk (by rw [sp_spread, if_pos ⟨ihb4, hb8⟩, if_neg (fun h9 => hb12 h9.1)]; exact ⟨rfl, hM, hv_out.rf, om_kp.rf⟩) dX7_spread_45
    · skip
      refine lv_if_ne (tgt := 16) C0.1 C0.2.1 dX7_spread_11 (by decide) (fun h9 => absurd h9 (by decide)) (fun _ => ?_)
      refine lv_iconst (v := -1) C0.1 C0.2.1 dX7_spread_14 (by decide) ?_
      exact hv_iret C0 w hr hlk (by rw [sp_spread, if_neg (fun h9 => hb8 h9.2)]; exact ⟨rfl, hM, hv_out.rf, om_kp.rf⟩) dX7_spread_15
  · skip
    refine lv_if_eq (tgt := 14) C0.1 C0.2.1 dX7_spread_4 (by decide) (fun _ => ?_) (fun h9 => absurd h9 (by decide))
    refine lv_iconst (v := -1) C0.1 C0.2.1 dX7_spread_14 (by decide) ?_
    exact hv_iret C0 w hr hlk (by rw [sp_spread, if_neg (fun h9 => hb4 h9.1)]; exact ⟨rfl, hM, hv_out.rf, om_kp.rf⟩) dX7_spread_15


