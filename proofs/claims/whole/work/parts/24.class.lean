def sp_mn (σ : hs_S) : Nat → Nat → fx_F → Int32 → fx_F × Int32
  | 0, _, F, c => (F, c)
  | m + 1, j, F, c => if (sp_w σ j (σ.1.1.2.1 j)).2.2 = 0 then sp_mn σ m (j + 1) F c else sp_mn σ m (j + 1) (fx_addOn F (sp_w σ j (σ.1.1.2.1 j)).1 (sp_w σ j (σ.1.1.2.1 j)).2.1) (c + 1)
def sp_mean (σ : hs_S) (k : Int32) : Int64 := if sp_in k 0 1 then fx_part (fx_divBy (sp_mn σ 6 0 (fx_become 0 1) 0).1 (sp_mn σ 6 0 (fx_become 0 1) 0).2.toInt64) k else -9223372036854775808
/-- a fraction spread into row j by kind k -/
def sp_sprd (σ : hs_S) (j : Nat) (k : Int32) (F : fx_F) : Int32 × hs_S := (if fx_nought (fx_unf k 16 0 (σ.1.1.2.2 j) F).2.2 then 1 else 0, (hs_row σ.1 j k (fx_unf k 16 0 (σ.1.1.2.2 j) F).1 (fx_unf k 16 0 (σ.1.1.2.2 j) F).2.1, σ.2))
def sp_spread (σ : hs_S) (r k u lo : Int32) : Int32 × hs_S := if sp_in r 0 5 ∧ sp_in k 0 3 then (if sp_in u 1 999999 ∧ sp_in lo 1 999999 ∧ u < lo then sp_sprd σ r.toNatClampNeg k (fx_become u.toInt64 lo.toInt64) else (-2, σ)) else (-1, σ)
def sp_comb (F G : fx_F) (h : Int32) : fx_F := if h = 0 then fx_addOn F G.1 G.2.1 else if h = 1 then fx_takeAway F G else fx_mul F G
def sp_works (σ : hs_S) (r a b h : Int32) : Int32 × hs_S := if sp_in r 0 5 ∧ sp_in a 0 5 ∧ sp_in b 0 5 ∧ sp_in h 0 2 then (if (sp_w σ a.toNatClampNeg (σ.1.1.2.1 a.toNatClampNeg)).2.2 = 0 ∨ (sp_w σ b.toNatClampNeg (σ.1.1.2.1 b.toNatClampNeg)).2.2 = 0 then (-3, σ) else if fx_proper (sp_comb (sp_w σ a.toNatClampNeg (σ.1.1.2.1 a.toNatClampNeg)) (sp_w σ b.toNatClampNeg (σ.1.1.2.1 b.toNatClampNeg)) h) then sp_sprd σ r.toNatClampNeg (σ.1.1.1 r.toNatClampNeg) (sp_comb (sp_w σ a.toNatClampNeg (σ.1.1.2.1 a.toNatClampNeg)) (sp_w σ b.toNatClampNeg (σ.1.1.2.1 b.toNatClampNeg)) h) else (-3, σ)) else (-1, σ)
set_option maxHeartbeats 4000000 in
set_option maxRecDepth 100000 in
theorem m_X6_beginning {l : Launch} {X : hv_X} {V : hv_V} {x : Nat} {σ : hs_S} (hX : okX X V x σ) (hB : hs_b σ) {r m9 w9 k : Int32} : hv_Ml l X 6 yX6_beginning cX6_beginning 5 V [.ref x, .int r, .int m9, .int w9, .int k] (fun y V1 => y = sp_beginning σ r m9 w9 k ∧ okX X V1 x σ ∧ hv_out V V1 x (x + 92)) := by
  refine hv_enter (by decide) (Nat.le_of_ble_eq_true rfl) ?_
  intro p e s m below meth c ls C0 hr hlk hnm w hl
  have hl : lv_has ls 5 [(0, .ref x), (1, .int r), (2, .int m9), (3, .int w9), (4, .int k)] := hl
  obtain ⟨kk0, hX0, hPg, hKp, hTx, hTp, hSc⟩ := id hX
  obtain ⟨hP0, ⟨rf, hP1, hP2⟩, hP3, hP4, hP5, hP6⟩ := id hPg
  obtain ⟨⟨tf, hT1, hT2⟩, hT3⟩ := id hTp
  obtain ⟨⟨tk, tn, tg, hS1, hS2⟩, ⟨LF, hS3⟩, ⟨RF, hS4⟩, ⟨bf, hS5, hS6⟩, hS7, uf, hS8⟩ := id hSc
  have hbR := hB.1.1
  obtain ⟨sf, sg, sh, hL0, hL1, hL2, hL3, hLa⟩ := id hP4
  obtain ⟨ef, eg, eh, hM0, hM1, hM2, hM3, hMa⟩ := id hP5
  obtain ⟨kf, kg, kh, hK0, hK1, hK2, hK3, hKa⟩ := id hP6
  obtain ⟨pl, cl, wd, vl, hQ0, hQ1, hQ2, hQ3⟩ := id hTx
  refine lv_iload_n C0.1 C0.2.1 dX6_beginning_0 rfl (lv_at hl 1 rfl) ?_
  refine hv_cSi (As := [.int r]) C0 w kl_X6_60 ks_X6_isRow (c_X6_isRow) (by decide) (by decide) rfl hl.1 rfl (Nat.le_of_ble_eq_true rfl) dX6_beginning_1 ⟨Nat.le_refl _, Nat.le_refl _⟩ (fun x1 V2 Hq lq hp3 w => ?_)
  obtain ⟨e9, hz9⟩ := hp3
  rw [e9] at w; clear e9
  rcases hz9 with ⟨rfl, hb4⟩ | ⟨rfl, hb4⟩
  · skip
    have ihb4 := hb4
    obtain ⟨j1, hj1, rfl⟩ := sp_inN (k := 5) (by decide) hb4
    have kj1 : (nI j1).toNatClampNeg = j1 := nI_clamp (by omega)
    have hR_j1 : V (x + 1 + 14 + 2 * j1) = some (rE (σ.1.1.1 j1) (σ.1.1.2.1 j1) (x + 1 + 14 + 2 * j1 + 1)) := (hP3 j1 hj1).1
    have hN_j1 : V (x + 1 + 14 + 2 * j1 + 1) = some (nE X (σ.1.1.2.2 j1)) := (hP3 j1 hj1).2
    have hn_j1 : σ.1.1.2.1 j1 ≤ 16 := (hbR j1 hj1).2.1
    refine lv_if_eq (tgt := 27) C0.1 C0.2.1 dX6_beginning_4 (by decide) (fun h9 => absurd h9 (by decide)) (fun _ => ?_)
    refine lv_iload_n C0.1 C0.2.1 dX6_beginning_7 rfl (lv_at hl 2 rfl) ?_
    refine lv_iconst (v := 0) C0.1 C0.2.1 dX6_beginning_8 (by decide) ?_
    refine lv_aload_n C0.1 C0.2.1 dX6_beginning_9 rfl (lv_at hl 0 rfl) ?_
    refine gf_X6_12 C0 w hX0 rfl dX6_beginning_10 ?_
    refine gf_X6_76 C0 w hP0 rfl dX6_beginning_13 ?_
    refine lv_iload_n C0.1 C0.2.1 dX6_beginning_16 rfl (lv_at hl 1 rfl) ?_
    refine hv_aald 3 C0 w rfl hP1 (hn_in hj1 (by decide)) (by rw [kj1]; exact hP2 j1 hj1) dX6_beginning_17 ?_
    refine gf_X6_88 C0 w hR_j1 rfl dX6_beginning_18 ?_
    refine hv_cSi (As := [.int m9, .int 0, .int (nI (σ.1.1.2.1 j1))]) C0 w kl_X6_68 ks_X6_within (c_X6_within) (by decide) (by decide) rfl hl.1 rfl (Nat.le_of_ble_eq_true rfl) dX6_beginning_21 ⟨Nat.le_refl _, Nat.le_refl _⟩ (fun x5 V6 Hq lq hp7 w => ?_)
    obtain ⟨e9, hz9⟩ := hp7
    rw [e9] at w; clear e9
    rcases hz9 with ⟨rfl, hb8⟩ | ⟨rfl, hb8⟩
    · skip
      refine lv_if_ne (tgt := 31) C0.1 C0.2.1 dX6_beginning_24 (by decide) (fun _ => ?_) (fun h9 => absurd h9 (by decide))
      refine lv_iload_n C0.1 C0.2.1 dX6_beginning_31 rfl (lv_at hl 3 rfl) ?_
      refine lv_iconst (v := 0) C0.1 C0.2.1 dX6_beginning_32 (by decide) ?_
      refine lv_iconst (v := 1) C0.1 C0.2.1 dX6_beginning_33 (by decide) ?_
      refine hv_cSi (As := [.int w9, .int 0, .int 1]) C0 w kl_X6_68 ks_X6_within (c_X6_within) (by decide) (by decide) rfl hl.1 rfl (Nat.le_of_ble_eq_true rfl) dX6_beginning_34 ⟨Nat.le_refl _, Nat.le_refl _⟩ (fun x9 V10 Hq lq hp11 w => ?_)
      obtain ⟨e9, hz9⟩ := hp11
      rw [e9] at w; clear e9
      rcases hz9 with ⟨rfl, hb12⟩ | ⟨rfl, hb12⟩
      · skip
        refine lv_if_eq (tgt := 48) C0.1 C0.2.1 dX6_beginning_37 (by decide) (fun h9 => absurd h9 (by decide)) (fun _ => ?_)
        refine lv_iload C0.1 C0.2.1 dX6_beginning_40 (lv_at hl 4 rfl) ?_
        refine hv_cSi (As := [.int k]) C0 w kl_X6_145 ks_X6_isPart (c_X6_isPart) (by decide) (by decide) rfl hl.1 rfl (Nat.le_of_ble_eq_true rfl) dX6_beginning_42 ⟨Nat.le_refl _, Nat.le_refl _⟩ (fun x13 V14 Hq lq hp15 w => ?_)
        obtain ⟨e9, hz9⟩ := hp15
        rw [e9] at w; clear e9
        rcases hz9 with ⟨rfl, hb16⟩ | ⟨rfl, hb16⟩
        · skip
          refine lv_if_ne (tgt := 52) C0.1 C0.2.1 dX6_beginning_45 (by decide) (fun _ => ?_) (fun h9 => absurd h9 (by decide))
          have ihb8 := hb8
          obtain ⟨m1, hm1, rfl⟩ := sp_inN (by omega) hb8
          have km1 : (nI m1).toNatClampNeg = m1 := nI_clamp (by omega)
          refine lv_aload_n C0.1 C0.2.1 dX6_beginning_52 rfl (lv_at hl 0 rfl) ?_
          refine gf_X6_12 C0 w hX0 rfl dX6_beginning_53 ?_
          refine gf_X6_76 C0 w hP0 rfl dX6_beginning_56 ?_
          refine lv_iload_n C0.1 C0.2.1 dX6_beginning_59 rfl (lv_at hl 1 rfl) ?_
          refine hv_aald 3 C0 w rfl hP1 (hn_in hj1 (by decide)) (by rw [kj1]; exact hP2 j1 hj1) dX6_beginning_60 ?_
          refine lv_iload_n C0.1 C0.2.1 dX6_beginning_61 rfl (lv_at hl 2 rfl) ?_
          refine lv_aload_n C0.1 C0.2.1 dX6_beginning_62 rfl (lv_at hl 0 rfl) ?_
          refine gf_X6_44 C0 w hX0 rfl dX6_beginning_63 ?_
          refine hv_cVv C0 w kl_X6_106 kv_X3_reckon rfl hR_j1 (c_X3_reckon (k := m1) hR_j1 hN_j1 hS3 (by omega) (by omega)) (by decide) (by decide) rfl hl.1 rfl (Nat.le_of_ble_eq_true rfl) dX6_beginning_66 ⟨Nat.le_refl _, Nat.le_refl _⟩ (fun V18 Hq lq hp19 w => ?_)
          have hV20 : V18 x = some (.inr (6, [.ref (x + 1), .ref (x + 27), .int kk0, .ref (x + 53), .ref (x + 57), .ref (x + 58), .ref (x + 60), .ref (x + 61), .ref (x + 62), .ref (x + 63)])) := by rw [hp19, hv_un (by omega)]; exact hX0
          have hV21 : V18 (x + 1) = some (.inr (2, [.ref (x + 1 + 1), .ref (x + 1 + 2), .ref (x + 1 + 6), .ref (x + 1 + 10)])) := by rw [hp19, hv_un (by omega)]; exact hP0
          have hV22 : V18 (x + 1 + 1) = some (.inl (X.2.1 3, 6, .inr (.inr (.inr (.inr rf))))) := by rw [hp19, hv_un (by omega)]; exact hP1
          have hV23 : V18 (x + 57) = some (.inl (X.2.1 4, 6, .inr (.inr (.inr (.inr tf))))) := by rw [hp19, hv_un (by omega)]; exact hT1
          have hV25 : V18 (x + 61) = some (fE RF) := by rw [hp19, hv_un (by omega)]; exact hS4
          have hV26 : V18 (x + 58) = some (rE tk tn (x + 58 + 1)) := by rw [hp19, hv_un (by omega)]; exact hS1
          have hV27 : V18 (x + 58 + 1) = some (nE X tg) := by rw [hp19, hv_un (by omega)]; exact hS2
          have hV28 : V18 (x + 1 + 2) = some (.inr (1, [.ref (x + 1 + 2 + 1), .ref (x + 1 + 2 + 2), .ref (x + 1 + 2 + 3), .int (nI σ.1.2.1.1)])) := by rw [hp19, hv_un (by omega)]; exact hL0
          have hV29 : V18 (x + 1 + 2 + 1) = some (.inl (X.2.1 0, 4, .inl sf)) := by rw [hp19, hv_un (by omega)]; exact hL1
          have hV30 : V18 (x + 1 + 2 + 2) = some (.inl (X.2.1 0, 4, .inl sg)) := by rw [hp19, hv_un (by omega)]; exact hL2
          have hV31 : V18 (x + 1 + 2 + 3) = some (.inl (X.2.1 0, 4, .inl sh)) := by rw [hp19, hv_un (by omega)]; exact hL3
          have hV32 : V18 (x + 1 + 6) = some (.inr (1, [.ref (x + 1 + 6 + 1), .ref (x + 1 + 6 + 2), .ref (x + 1 + 6 + 3), .int (nI σ.1.2.2.1.1)])) := by rw [hp19, hv_un (by omega)]; exact hM0
          have hV33 : V18 (x + 1 + 6 + 1) = some (.inl (X.2.1 0, 8, .inl ef)) := by rw [hp19, hv_un (by omega)]; exact hM1
          have hV34 : V18 (x + 1 + 6 + 2) = some (.inl (X.2.1 0, 8, .inl eg)) := by rw [hp19, hv_un (by omega)]; exact hM2
          have hV35 : V18 (x + 1 + 6 + 3) = some (.inl (X.2.1 0, 8, .inl eh)) := by rw [hp19, hv_un (by omega)]; exact hM3
          have hV36 : V18 (x + 1 + 10) = some (.inr (1, [.ref (x + 1 + 10 + 1), .ref (x + 1 + 10 + 2), .ref (x + 1 + 10 + 3), .int (nI σ.1.2.2.2.1)])) := by rw [hp19, hv_un (by omega)]; exact hK0
          have hV37 : V18 (x + 1 + 10 + 1) = some (.inl (X.2.1 0, 8, .inl kf)) := by rw [hp19, hv_un (by omega)]; exact hK1
          have hV38 : V18 (x + 1 + 10 + 2) = some (.inl (X.2.1 0, 8, .inl kg)) := by rw [hp19, hv_un (by omega)]; exact hK2
          have hV39 : V18 (x + 1 + 10 + 3) = some (.inl (X.2.1 0, 8, .inl kh)) := by rw [hp19, hv_un (by omega)]; exact hK3
          have hV40 : V18 (x + 53) = some (.inr (4, [.ref (x + 53 + 1), .int (nI σ.2.2.1.1), .int pl, .int cl, .ref (x + 53 + 2), .ref (x + 53 + 3)])) := by rw [hp19, hv_un (by omega)]; exact hQ0
          have hV41 : V18 (x + 53 + 1) = some (.inl (X.2.1 2, 100, .inl σ.2.2.1.2)) := by rw [hp19, hv_un (by omega)]; exact hQ1
          have hV42 : V18 (x + 1 + 14 + 2 * j1) = some (rE (σ.1.1.1 j1) (σ.1.1.2.1 j1) (x + 1 + 14 + 2 * j1 + 1)) := by rw [hp19, hv_un (by omega)]; exact hR_j1
          have hV43 : V18 (x + 1 + 14 + 2 * j1 + 1) = some (nE X (σ.1.1.2.2 j1)) := by rw [hp19, hv_un (by omega)]; exact hN_j1
          have hV44 : V18 (x + 60) = some (fE (fx_reckon (σ.1.1.1 j1) (σ.1.1.2.2 j1) m1)) := by rw [hp19]; exact hv_us
          refine lv_iload_n C0.1 C0.2.1 dX6_beginning_69 rfl (lv_at hl 3 rfl) ?_
          refine lv_if_ne (tgt := 83) C0.1 C0.2.1 dX6_beginning_70 (by decide) (fun c_70 => ?_) (fun c_70 => ?_)
          · skip
            refine lv_aload_n C0.1 C0.2.1 dX6_beginning_83 rfl (lv_at hl 0 rfl) ?_
            refine gf_X6_12 C0 w hV20 rfl dX6_beginning_84 ?_
            refine gf_X6_76 C0 w hV21 rfl dX6_beginning_87 ?_
            refine lv_iload_n C0.1 C0.2.1 dX6_beginning_90 rfl (lv_at hl 1 rfl) ?_
            refine hv_aald 3 C0 w rfl hV22 (hn_in hj1 (by decide)) (by rw [kj1]; exact hP2 j1 hj1) dX6_beginning_91 ?_
            refine lv_aload_n C0.1 C0.2.1 dX6_beginning_92 rfl (lv_at hl 0 rfl) ?_
            refine gf_X6_12 C0 w hV20 rfl dX6_beginning_93 ?_
            refine gf_X6_76 C0 w hV21 rfl dX6_beginning_96 ?_
            refine lv_iload_n C0.1 C0.2.1 dX6_beginning_99 rfl (lv_at hl 1 rfl) ?_
            refine hv_aald 3 C0 w rfl hV22 (hn_in hj1 (by decide)) (by rw [kj1]; exact hP2 j1 hj1) dX6_beginning_100 ?_
            refine gf_X6_88 C0 w hV42 rfl dX6_beginning_101 ?_
            refine lv_aload_n C0.1 C0.2.1 dX6_beginning_104 rfl (lv_at hl 0 rfl) ?_
            refine gf_X6_48 C0 w hV20 rfl dX6_beginning_105 ?_
            refine hv_cVv C0 w kl_X6_106 kv_X3_reckon rfl hV42 (c_X3_reckon (k := σ.1.1.2.1 j1) hV42 hV43 hV25 (by omega) (by omega)) (by decide) (by decide) rfl hl.1 rfl (Nat.le_of_ble_eq_true rfl) dX6_beginning_108 ⟨Nat.le_refl _, Nat.le_refl _⟩ (fun V46 Hq lq hp47 w => ?_)
            have hV48 : V46 x = some (.inr (6, [.ref (x + 1), .ref (x + 27), .int kk0, .ref (x + 53), .ref (x + 57), .ref (x + 58), .ref (x + 60), .ref (x + 61), .ref (x + 62), .ref (x + 63)])) := by rw [hp47, hv_un (by omega)]; exact hV20
            have hV49 : V46 (x + 1) = some (.inr (2, [.ref (x + 1 + 1), .ref (x + 1 + 2), .ref (x + 1 + 6), .ref (x + 1 + 10)])) := by rw [hp47, hv_un (by omega)]; exact hV21
            have hV50 : V46 (x + 1 + 1) = some (.inl (X.2.1 3, 6, .inr (.inr (.inr (.inr rf))))) := by rw [hp47, hv_un (by omega)]; exact hV22
            have hV51 : V46 (x + 57) = some (.inl (X.2.1 4, 6, .inr (.inr (.inr (.inr tf))))) := by rw [hp47, hv_un (by omega)]; exact hV23
            have hV53 : V46 (x + 58) = some (rE tk tn (x + 58 + 1)) := by rw [hp47, hv_un (by omega)]; exact hV26
            have hV54 : V46 (x + 58 + 1) = some (nE X tg) := by rw [hp47, hv_un (by omega)]; exact hV27
            have hV55 : V46 (x + 1 + 2) = some (.inr (1, [.ref (x + 1 + 2 + 1), .ref (x + 1 + 2 + 2), .ref (x + 1 + 2 + 3), .int (nI σ.1.2.1.1)])) := by rw [hp47, hv_un (by omega)]; exact hV28
            have hV56 : V46 (x + 1 + 2 + 1) = some (.inl (X.2.1 0, 4, .inl sf)) := by rw [hp47, hv_un (by omega)]; exact hV29
            have hV57 : V46 (x + 1 + 2 + 2) = some (.inl (X.2.1 0, 4, .inl sg)) := by rw [hp47, hv_un (by omega)]; exact hV30
            have hV58 : V46 (x + 1 + 2 + 3) = some (.inl (X.2.1 0, 4, .inl sh)) := by rw [hp47, hv_un (by omega)]; exact hV31
            have hV59 : V46 (x + 1 + 6) = some (.inr (1, [.ref (x + 1 + 6 + 1), .ref (x + 1 + 6 + 2), .ref (x + 1 + 6 + 3), .int (nI σ.1.2.2.1.1)])) := by rw [hp47, hv_un (by omega)]; exact hV32
            have hV60 : V46 (x + 1 + 6 + 1) = some (.inl (X.2.1 0, 8, .inl ef)) := by rw [hp47, hv_un (by omega)]; exact hV33
            have hV61 : V46 (x + 1 + 6 + 2) = some (.inl (X.2.1 0, 8, .inl eg)) := by rw [hp47, hv_un (by omega)]; exact hV34
            have hV62 : V46 (x + 1 + 6 + 3) = some (.inl (X.2.1 0, 8, .inl eh)) := by rw [hp47, hv_un (by omega)]; exact hV35
            have hV63 : V46 (x + 1 + 10) = some (.inr (1, [.ref (x + 1 + 10 + 1), .ref (x + 1 + 10 + 2), .ref (x + 1 + 10 + 3), .int (nI σ.1.2.2.2.1)])) := by rw [hp47, hv_un (by omega)]; exact hV36
            have hV64 : V46 (x + 1 + 10 + 1) = some (.inl (X.2.1 0, 8, .inl kf)) := by rw [hp47, hv_un (by omega)]; exact hV37
            have hV65 : V46 (x + 1 + 10 + 2) = some (.inl (X.2.1 0, 8, .inl kg)) := by rw [hp47, hv_un (by omega)]; exact hV38
            have hV66 : V46 (x + 1 + 10 + 3) = some (.inl (X.2.1 0, 8, .inl kh)) := by rw [hp47, hv_un (by omega)]; exact hV39
            have hV67 : V46 (x + 53) = some (.inr (4, [.ref (x + 53 + 1), .int (nI σ.2.2.1.1), .int pl, .int cl, .ref (x + 53 + 2), .ref (x + 53 + 3)])) := by rw [hp47, hv_un (by omega)]; exact hV40
            have hV68 : V46 (x + 53 + 1) = some (.inl (X.2.1 2, 100, .inl σ.2.2.1.2)) := by rw [hp47, hv_un (by omega)]; exact hV41
            have hV69 : V46 (x + 1 + 14 + 2 * j1) = some (rE (σ.1.1.1 j1) (σ.1.1.2.1 j1) (x + 1 + 14 + 2 * j1 + 1)) := by rw [hp47, hv_un (by omega)]; exact hV42
            have hV70 : V46 (x + 1 + 14 + 2 * j1 + 1) = some (nE X (σ.1.1.2.2 j1)) := by rw [hp47, hv_un (by omega)]; exact hV43
            have hV71 : V46 (x + 60) = some (fE (fx_reckon (σ.1.1.1 j1) (σ.1.1.2.2 j1) m1)) := by rw [hp47, hv_un (by omega)]; exact hV44
            have hV72 : V46 (x + 61) = some (fE (fx_reckon (σ.1.1.1 j1) (σ.1.1.2.2 j1) (σ.1.1.2.1 j1))) := by rw [hp47]; exact hv_us
            refine lv_aload_n C0.1 C0.2.1 dX6_beginning_111 rfl (lv_at hl 0 rfl) ?_
            refine gf_X6_48 C0 w hV48 rfl dX6_beginning_112 ?_
            refine lv_aload_n C0.1 C0.2.1 dX6_beginning_115 rfl (lv_at hl 0 rfl) ?_
            refine gf_X6_44 C0 w hV48 rfl dX6_beginning_116 ?_
            refine hv_cVv C0 w kl_X6_165 kv_X0_takeAway rfl hV72 (c_X0_takeAway (F := (fx_reckon (σ.1.1.1 j1) (σ.1.1.2.2 j1) (σ.1.1.2.1 j1))) hV72 (G := (fx_reckon (σ.1.1.1 j1) (σ.1.1.2.2 j1) m1)) hV71 (by omega)) (by decide) (by decide) rfl hl.1 rfl (Nat.le_of_ble_eq_true rfl) dX6_beginning_119 ⟨Nat.le_refl _, Nat.le_refl _⟩ (fun V74 Hq lq hp75 w => ?_)
            have hV76 : V74 x = some (.inr (6, [.ref (x + 1), .ref (x + 27), .int kk0, .ref (x + 53), .ref (x + 57), .ref (x + 58), .ref (x + 60), .ref (x + 61), .ref (x + 62), .ref (x + 63)])) := by rw [hp75, hv_un (by omega)]; exact hV48
            have hV77 : V74 (x + 1) = some (.inr (2, [.ref (x + 1 + 1), .ref (x + 1 + 2), .ref (x + 1 + 6), .ref (x + 1 + 10)])) := by rw [hp75, hv_un (by omega)]; exact hV49
            have hV78 : V74 (x + 1 + 1) = some (.inl (X.2.1 3, 6, .inr (.inr (.inr (.inr rf))))) := by rw [hp75, hv_un (by omega)]; exact hV50
            have hV79 : V74 (x + 57) = some (.inl (X.2.1 4, 6, .inr (.inr (.inr (.inr tf))))) := by rw [hp75, hv_un (by omega)]; exact hV51
            have hV80 : V74 (x + 58) = some (rE tk tn (x + 58 + 1)) := by rw [hp75, hv_un (by omega)]; exact hV53
            have hV81 : V74 (x + 58 + 1) = some (nE X tg) := by rw [hp75, hv_un (by omega)]; exact hV54
            have hV82 : V74 (x + 1 + 2) = some (.inr (1, [.ref (x + 1 + 2 + 1), .ref (x + 1 + 2 + 2), .ref (x + 1 + 2 + 3), .int (nI σ.1.2.1.1)])) := by rw [hp75, hv_un (by omega)]; exact hV55
            have hV83 : V74 (x + 1 + 2 + 1) = some (.inl (X.2.1 0, 4, .inl sf)) := by rw [hp75, hv_un (by omega)]; exact hV56
            have hV84 : V74 (x + 1 + 2 + 2) = some (.inl (X.2.1 0, 4, .inl sg)) := by rw [hp75, hv_un (by omega)]; exact hV57
            have hV85 : V74 (x + 1 + 2 + 3) = some (.inl (X.2.1 0, 4, .inl sh)) := by rw [hp75, hv_un (by omega)]; exact hV58
            have hV86 : V74 (x + 1 + 6) = some (.inr (1, [.ref (x + 1 + 6 + 1), .ref (x + 1 + 6 + 2), .ref (x + 1 + 6 + 3), .int (nI σ.1.2.2.1.1)])) := by rw [hp75, hv_un (by omega)]; exact hV59
            have hV87 : V74 (x + 1 + 6 + 1) = some (.inl (X.2.1 0, 8, .inl ef)) := by rw [hp75, hv_un (by omega)]; exact hV60
            have hV88 : V74 (x + 1 + 6 + 2) = some (.inl (X.2.1 0, 8, .inl eg)) := by rw [hp75, hv_un (by omega)]; exact hV61
            have hV89 : V74 (x + 1 + 6 + 3) = some (.inl (X.2.1 0, 8, .inl eh)) := by rw [hp75, hv_un (by omega)]; exact hV62
            have hV90 : V74 (x + 1 + 10) = some (.inr (1, [.ref (x + 1 + 10 + 1), .ref (x + 1 + 10 + 2), .ref (x + 1 + 10 + 3), .int (nI σ.1.2.2.2.1)])) := by rw [hp75, hv_un (by omega)]; exact hV63
            have hV91 : V74 (x + 1 + 10 + 1) = some (.inl (X.2.1 0, 8, .inl kf)) := by rw [hp75, hv_un (by omega)]; exact hV64
            have hV92 : V74 (x + 1 + 10 + 2) = some (.inl (X.2.1 0, 8, .inl kg)) := by rw [hp75, hv_un (by omega)]; exact hV65
            have hV93 : V74 (x + 1 + 10 + 3) = some (.inl (X.2.1 0, 8, .inl kh)) := by rw [hp75, hv_un (by omega)]; exact hV66
            have hV94 : V74 (x + 53) = some (.inr (4, [.ref (x + 53 + 1), .int (nI σ.2.2.1.1), .int pl, .int cl, .ref (x + 53 + 2), .ref (x + 53 + 3)])) := by rw [hp75, hv_un (by omega)]; exact hV67
            have hV95 : V74 (x + 53 + 1) = some (.inl (X.2.1 2, 100, .inl σ.2.2.1.2)) := by rw [hp75, hv_un (by omega)]; exact hV68
            have hV96 : V74 (x + 1 + 14 + 2 * j1) = some (rE (σ.1.1.1 j1) (σ.1.1.2.1 j1) (x + 1 + 14 + 2 * j1 + 1)) := by rw [hp75, hv_un (by omega)]; exact hV69
            have hV97 : V74 (x + 1 + 14 + 2 * j1 + 1) = some (nE X (σ.1.1.2.2 j1)) := by rw [hp75, hv_un (by omega)]; exact hV70
            have hV98 : V74 (x + 60) = some (fE (fx_reckon (σ.1.1.1 j1) (σ.1.1.2.2 j1) m1)) := by rw [hp75, hv_un (by omega)]; exact hV71
            have hV100 : V74 (x + 61) = some (fE (fx_takeAway (fx_reckon (σ.1.1.1 j1) (σ.1.1.2.2 j1) (σ.1.1.2.1 j1)) (fx_reckon (σ.1.1.1 j1) (σ.1.1.2.2 j1) m1))) := by rw [hp75]; exact hv_us
            refine lv_aload_n C0.1 C0.2.1 dX6_beginning_122 rfl (lv_at hl 0 rfl) ?_
            refine gf_X6_48 C0 w hV76 rfl dX6_beginning_123 ?_
            refine lv_iload C0.1 C0.2.1 dX6_beginning_126 (lv_at hl 4 rfl) ?_
            refine hv_cVl C0 w kl_X6_150 kv_X0_partOf rfl hV100 (c_X0_partOf hV100) (by decide) (by decide) rfl hl.1 rfl (Nat.le_of_ble_eq_true rfl) dX6_beginning_128 ⟨Nat.le_refl _, Nat.le_refl _⟩ (fun x101 V102 Hq lq hp103 w => ?_)
            obtain ⟨e9, e8⟩ := hp103
            rw [e9] at w; rw [e8]; clear e9 e8
            exact hv_lret C0 w hr hlk (by rw [sp_beginning, kj1, if_pos ⟨ihb4, ihb8, hb12, hb16⟩, km1, if_neg c_70]; exact ⟨rfl, ⟨kk0, (by rw [hp75, hv_un (by omega), hp47, hv_un (by omega), hp19, hv_un (by omega)] : _ = V x).trans hX0, hPg.fr (fun q h7 h8 => by rw [hp75, hv_un (by omega), hp47, hv_un (by omega), hp19, hv_un (by omega)]), hKp.fr (fun q h7 h8 => by rw [hp75, hv_un (by omega), hp47, hv_un (by omega), hp19, hv_un (by omega)]), hTx.fr (fun q h7 h8 => by rw [hp75, hv_un (by omega), hp47, hv_un (by omega), hp19, hv_un (by omega)]), hTp.fr (by rw [hp75, hv_un (by omega), hp47, hv_un (by omega), hp19, hv_un (by omega)]) (fun q h7 h8 => by rw [hp75, hv_un (by omega), hp47, hv_un (by omega), hp19, hv_un (by omega)]), hSc.gen ⟨tk, tn, tg, (by rw [hp75, hv_un (by omega), hp47, hv_un (by omega), hp19, hv_un (by omega)] : _ = V (x + 58)).trans hS1, (by rw [hp75, hv_un (by omega), hp47, hv_un (by omega), hp19, hv_un (by omega)] : _ = V (x + 58 + 1)).trans hS2⟩ ⟨_, by rw [hp75, hv_un (by omega), hp47, hv_un (by omega), hp19]; exact hv_us⟩ ⟨_, by rw [hp75]; exact hv_us⟩ (fun q h7 h8 => by rw [hp75, hv_un (by omega), hp47, hv_un (by omega), hp19, hv_un (by omega)]) (fun q h7 h8 => by rw [hp75, hv_un (by omega), hp47, hv_un (by omega), hp19, hv_un (by omega)])⟩, (fun q h7 => by rw [hp75, hv_un (by omega), hp47, hv_un (by omega), hp19, hv_un (by omega)])⟩) dX6_beginning_131
          · skip
            refine lv_aload_n C0.1 C0.2.1 dX6_beginning_73 rfl (lv_at hl 0 rfl) ?_
            refine gf_X6_44 C0 w hV20 rfl dX6_beginning_74 ?_
            refine lv_iload C0.1 C0.2.1 dX6_beginning_77 (lv_at hl 4 rfl) ?_
            refine hv_cVl C0 w kl_X6_150 kv_X0_partOf rfl hV44 (c_X0_partOf hV44) (by decide) (by decide) rfl hl.1 rfl (Nat.le_of_ble_eq_true rfl) dX6_beginning_79 ⟨Nat.le_refl _, Nat.le_refl _⟩ (fun x104 V105 Hq lq hp106 w => ?_)
            obtain ⟨e9, e8⟩ := hp106
            rw [e9] at w; rw [e8]; clear e9 e8
            exact hv_lret C0 w hr hlk (by rw [sp_beginning, kj1, if_pos ⟨ihb4, ihb8, hb12, hb16⟩, km1, if_pos c_70]; exact ⟨rfl, ⟨kk0, (by rw [hp19, hv_un (by omega)] : _ = V x).trans hX0, hPg.fr (fun q h7 h8 => by rw [hp19, hv_un (by omega)]), hKp.fr (fun q h7 h8 => by rw [hp19, hv_un (by omega)]), hTx.fr (fun q h7 h8 => by rw [hp19, hv_un (by omega)]), hTp.fr (by rw [hp19, hv_un (by omega)]) (fun q h7 h8 => by rw [hp19, hv_un (by omega)]), hSc.gen ⟨tk, tn, tg, (by rw [hp19, hv_un (by omega)] : _ = V (x + 58)).trans hS1, (by rw [hp19, hv_un (by omega)] : _ = V (x + 58 + 1)).trans hS2⟩ ⟨_, by rw [hp19]; exact hv_us⟩ ⟨RF, (by rw [hp19, hv_un (by omega)] : _ = V (x + 61)).trans hS4⟩ (fun q h7 h8 => by rw [hp19, hv_un (by omega)]) (fun q h7 h8 => by rw [hp19, hv_un (by omega)])⟩, (fun q h7 => by rw [hp19, hv_un (by omega)])⟩) dX6_beginning_82
        · skip
          refine lv_if_ne (tgt := 52) C0.1 C0.2.1 dX6_beginning_45 (by decide) (fun h9 => absurd h9 (by decide)) (fun _ => ?_)
          refine lv_ldc2 C0.1 C0.2.1 C0.2.2.2.1 (C0.2.2.2.2.1 _ kk_X6_148) dX6_beginning_48 ?_
          exact hv_lret C0 w hr hlk (by rw [sp_beginning, kj1, if_neg (fun h9 => hb16 h9.2.2.2)]; exact ⟨rfl, hX, hv_out.rf⟩) dX6_beginning_51
      · skip
        refine lv_if_eq (tgt := 48) C0.1 C0.2.1 dX6_beginning_37 (by decide) (fun _ => ?_) (fun h9 => absurd h9 (by decide))
        refine lv_ldc2 C0.1 C0.2.1 C0.2.2.2.1 (C0.2.2.2.2.1 _ kk_X6_148) dX6_beginning_48 ?_
        exact hv_lret C0 w hr hlk (by rw [sp_beginning, kj1, if_neg (fun h9 => hb12 h9.2.2.1)]; exact ⟨rfl, hX, hv_out.rf⟩) dX6_beginning_51
    · skip
      refine lv_if_ne (tgt := 31) C0.1 C0.2.1 dX6_beginning_24 (by decide) (fun h9 => absurd h9 (by decide)) (fun _ => ?_)
      refine lv_ldc2 C0.1 C0.2.1 C0.2.2.2.1 (C0.2.2.2.2.1 _ kk_X6_148) dX6_beginning_27 ?_
      exact hv_lret C0 w hr hlk (by rw [sp_beginning, kj1, if_neg (fun h9 => hb8 h9.2.1)]; exact ⟨rfl, hX, hv_out.rf⟩) dX6_beginning_30
  · skip
    refine lv_if_eq (tgt := 27) C0.1 C0.2.1 dX6_beginning_4 (by decide) (fun _ => ?_) (fun h9 => absurd h9 (by decide))
    refine lv_ldc2 C0.1 C0.2.1 C0.2.2.2.1 (C0.2.2.2.2.1 _ kk_X6_148) dX6_beginning_27 ?_
    exact hv_lret C0 w hr hlk (by rw [sp_beginning, if_neg (fun h9 => hb4 h9.1)]; exact ⟨rfl, hX, hv_out.rf⟩) dX6_beginning_30

set_option maxHeartbeats 4000000 in
set_option maxRecDepth 100000 in
theorem m_X6_spread {l : Launch} {X : hv_X} {V : hv_V} {x : Nat} {σ : hs_S} (hX : okX X V x σ) (hB : hs_b σ) {r k u lo : Int32} : hv_Mi l X 6 yX6_spread cX6_spread 5 .int V [.ref x, .int r, .int k, .int u, .int lo] (fun y V1 => y = (sp_spread σ r k u lo).1 ∧ okX X V1 x (sp_spread σ r k u lo).2 ∧ hv_out V V1 x (x + 92)) := by
  refine hv_enter (by decide) (Nat.le_of_ble_eq_true rfl) ?_
  intro p e s m below meth c ls C0 hr hlk hnm w hl
  have hl : lv_has ls 5 [(0, .ref x), (1, .int r), (2, .int k), (3, .int u), (4, .int lo)] := hl
  obtain ⟨kk0, hX0, hPg, hKp, hTx, hTp, hSc⟩ := id hX
  obtain ⟨hP0, ⟨rf, hP1, hP2⟩, hP3, hP4, hP5, hP6⟩ := id hPg
  obtain ⟨⟨tf, hT1, hT2⟩, hT3⟩ := id hTp
  obtain ⟨⟨tk, tn, tg, hS1, hS2⟩, ⟨LF, hS3⟩, ⟨RF, hS4⟩, ⟨bf, hS5, hS6⟩, hS7, uf, hS8⟩ := id hSc
  have hbR := hB.1.1
  obtain ⟨sf, sg, sh, hL0, hL1, hL2, hL3, hLa⟩ := id hP4
  obtain ⟨ef, eg, eh, hM0, hM1, hM2, hM3, hMa⟩ := id hP5
  obtain ⟨kf, kg, kh, hK0, hK1, hK2, hK3, hKa⟩ := id hP6
  obtain ⟨pl, cl, wd, vl, hQ0, hQ1, hQ2, hQ3⟩ := id hTx
  refine lv_iload_n C0.1 C0.2.1 dX6_spread_0 rfl (lv_at hl 1 rfl) ?_
  refine hv_cSi (As := [.int r]) C0 w kl_X6_60 ks_X6_isRow (c_X6_isRow) (by decide) (by decide) rfl hl.1 rfl (Nat.le_of_ble_eq_true rfl) dX6_spread_1 ⟨Nat.le_refl _, Nat.le_refl _⟩ (fun x1 V2 Hq lq hp3 w => ?_)
  obtain ⟨e9, hz9⟩ := hp3
  rw [e9] at w; clear e9
  rcases hz9 with ⟨rfl, hb4⟩ | ⟨rfl, hb4⟩
  · skip
    have ihb4 := hb4
    obtain ⟨j1, hj1, rfl⟩ := sp_inN (k := 5) (by decide) hb4
    have kj1 : (nI j1).toNatClampNeg = j1 := nI_clamp (by omega)
    have hR_j1 : V (x + 1 + 14 + 2 * j1) = some (rE (σ.1.1.1 j1) (σ.1.1.2.1 j1) (x + 1 + 14 + 2 * j1 + 1)) := (hP3 j1 hj1).1
    have hN_j1 : V (x + 1 + 14 + 2 * j1 + 1) = some (nE X (σ.1.1.2.2 j1)) := (hP3 j1 hj1).2
    have hn_j1 : σ.1.1.2.1 j1 ≤ 16 := (hbR j1 hj1).2.1
    refine lv_if_eq (tgt := 14) C0.1 C0.2.1 dX6_spread_4 (by decide) (fun h9 => absurd h9 (by decide)) (fun _ => ?_)
    refine lv_iload_n C0.1 C0.2.1 dX6_spread_7 rfl (lv_at hl 2 rfl) ?_
    refine hv_cSi (As := [.int k]) C0 w kl_X6_64 ks_X6_isKind (c_X6_isKind) (by decide) (by decide) rfl hl.1 rfl (Nat.le_of_ble_eq_true rfl) dX6_spread_8 ⟨Nat.le_refl _, Nat.le_refl _⟩ (fun x5 V6 Hq lq hp7 w => ?_)
    obtain ⟨e9, hz9⟩ := hp7
    rw [e9] at w; clear e9
    rcases hz9 with ⟨rfl, hb8⟩ | ⟨rfl, hb8⟩
    · skip
      refine lv_if_ne (tgt := 16) C0.1 C0.2.1 dX6_spread_11 (by decide) (fun _ => ?_) (fun h9 => absurd h9 (by decide))
      refine lv_iload_n C0.1 C0.2.1 dX6_spread_16 rfl (lv_at hl 3 rfl) ?_
      refine lv_iconst (v := 1) C0.1 C0.2.1 dX6_spread_17 (by decide) ?_
      refine lv_ldc C0.1 C0.2.1 C0.2.2.2.1 (C0.2.2.2.2.1 _ kk_X6_67) dX6_spread_18 ?_
      refine hv_cSi (As := [.int u, .int 1, .int 999999]) C0 w kl_X6_68 ks_X6_within (c_X6_within) (by decide) (by decide) rfl hl.1 rfl (Nat.le_of_ble_eq_true rfl) dX6_spread_20 ⟨Nat.le_refl _, Nat.le_refl _⟩ (fun x9 V10 Hq lq hp11 w => ?_)
      obtain ⟨e9, hz9⟩ := hp11
      rw [e9] at w; clear e9
      rcases hz9 with ⟨rfl, hb12⟩ | ⟨rfl, hb12⟩
      · skip
        refine lv_if_eq (tgt := 43) C0.1 C0.2.1 dX6_spread_23 (by decide) (fun h9 => absurd h9 (by decide)) (fun _ => ?_)
        refine lv_iload C0.1 C0.2.1 dX6_spread_26 (lv_at hl 4 rfl) ?_
        refine lv_iconst (v := 1) C0.1 C0.2.1 dX6_spread_28 (by decide) ?_
        refine lv_ldc C0.1 C0.2.1 C0.2.2.2.1 (C0.2.2.2.2.1 _ kk_X6_67) dX6_spread_29 ?_
        refine hv_cSi (As := [.int lo, .int 1, .int 999999]) C0 w kl_X6_68 ks_X6_within (c_X6_within) (by decide) (by decide) rfl hl.1 rfl (Nat.le_of_ble_eq_true rfl) dX6_spread_31 ⟨Nat.le_refl _, Nat.le_refl _⟩ (fun x13 V14 Hq lq hp15 w => ?_)
        obtain ⟨e9, hz9⟩ := hp15
        rw [e9] at w; clear e9
        rcases hz9 with ⟨rfl, hb16⟩ | ⟨rfl, hb16⟩
        · skip
          refine lv_if_eq (tgt := 43) C0.1 C0.2.1 dX6_spread_34 (by decide) (fun h9 => absurd h9 (by decide)) (fun _ => ?_)
          refine lv_iload_n C0.1 C0.2.1 dX6_spread_37 rfl (lv_at hl 3 rfl) ?_
          refine lv_iload C0.1 C0.2.1 dX6_spread_38 (lv_at hl 4 rfl) ?_
          refine lv_icmp_lt (tgt := 46) C0.1 C0.2.1 dX6_spread_40 (by decide) (fun c_40 => ?_) (fun c_40 => ?_)
          · skip
            refine lv_aload_n C0.1 C0.2.1 dX6_spread_46 rfl (lv_at hl 0 rfl) ?_
            refine gf_X6_44 C0 w hX0 rfl dX6_spread_47 ?_
            refine lv_iload_n C0.1 C0.2.1 dX6_spread_50 rfl (lv_at hl 3 rfl) ?_
            refine lv_i2l (v := u.toInt64) C0.1 C0.2.1 dX6_spread_51 rfl ?_
            refine lv_iload C0.1 C0.2.1 dX6_spread_52 (lv_at hl 4 rfl) ?_
            refine lv_i2l (v := lo.toInt64) C0.1 C0.2.1 dX6_spread_54 rfl ?_
            refine hv_cVv C0 w kl_X6_72 kv_X0_become rfl hS3 (c_X0_become (F := LF) hS3) (by decide) (by decide) rfl hl.1 rfl (Nat.le_of_ble_eq_true rfl) dX6_spread_55 ⟨Nat.le_refl _, Nat.le_refl _⟩ (fun V18 Hq lq hp19 w => ?_)
            have hV20 : V18 x = some (.inr (6, [.ref (x + 1), .ref (x + 27), .int kk0, .ref (x + 53), .ref (x + 57), .ref (x + 58), .ref (x + 60), .ref (x + 61), .ref (x + 62), .ref (x + 63)])) := by rw [hp19, hv_un (by omega)]; exact hX0
            have hV21 : V18 (x + 1) = some (.inr (2, [.ref (x + 1 + 1), .ref (x + 1 + 2), .ref (x + 1 + 6), .ref (x + 1 + 10)])) := by rw [hp19, hv_un (by omega)]; exact hP0
            have hV22 : V18 (x + 1 + 1) = some (.inl (X.2.1 3, 6, .inr (.inr (.inr (.inr rf))))) := by rw [hp19, hv_un (by omega)]; exact hP1
            have hV23 : V18 (x + 57) = some (.inl (X.2.1 4, 6, .inr (.inr (.inr (.inr tf))))) := by rw [hp19, hv_un (by omega)]; exact hT1
            have hV25 : V18 (x + 61) = some (fE RF) := by rw [hp19, hv_un (by omega)]; exact hS4
            have hV26 : V18 (x + 58) = some (rE tk tn (x + 58 + 1)) := by rw [hp19, hv_un (by omega)]; exact hS1
            have hV27 : V18 (x + 58 + 1) = some (nE X tg) := by rw [hp19, hv_un (by omega)]; exact hS2
            have hV28 : V18 (x + 1 + 2) = some (.inr (1, [.ref (x + 1 + 2 + 1), .ref (x + 1 + 2 + 2), .ref (x + 1 + 2 + 3), .int (nI σ.1.2.1.1)])) := by rw [hp19, hv_un (by omega)]; exact hL0
            have hV29 : V18 (x + 1 + 2 + 1) = some (.inl (X.2.1 0, 4, .inl sf)) := by rw [hp19, hv_un (by omega)]; exact hL1
            have hV30 : V18 (x + 1 + 2 + 2) = some (.inl (X.2.1 0, 4, .inl sg)) := by rw [hp19, hv_un (by omega)]; exact hL2
            have hV31 : V18 (x + 1 + 2 + 3) = some (.inl (X.2.1 0, 4, .inl sh)) := by rw [hp19, hv_un (by omega)]; exact hL3
            have hV32 : V18 (x + 1 + 6) = some (.inr (1, [.ref (x + 1 + 6 + 1), .ref (x + 1 + 6 + 2), .ref (x + 1 + 6 + 3), .int (nI σ.1.2.2.1.1)])) := by rw [hp19, hv_un (by omega)]; exact hM0
            have hV33 : V18 (x + 1 + 6 + 1) = some (.inl (X.2.1 0, 8, .inl ef)) := by rw [hp19, hv_un (by omega)]; exact hM1
            have hV34 : V18 (x + 1 + 6 + 2) = some (.inl (X.2.1 0, 8, .inl eg)) := by rw [hp19, hv_un (by omega)]; exact hM2
            have hV35 : V18 (x + 1 + 6 + 3) = some (.inl (X.2.1 0, 8, .inl eh)) := by rw [hp19, hv_un (by omega)]; exact hM3
            have hV36 : V18 (x + 1 + 10) = some (.inr (1, [.ref (x + 1 + 10 + 1), .ref (x + 1 + 10 + 2), .ref (x + 1 + 10 + 3), .int (nI σ.1.2.2.2.1)])) := by rw [hp19, hv_un (by omega)]; exact hK0
            have hV37 : V18 (x + 1 + 10 + 1) = some (.inl (X.2.1 0, 8, .inl kf)) := by rw [hp19, hv_un (by omega)]; exact hK1
            have hV38 : V18 (x + 1 + 10 + 2) = some (.inl (X.2.1 0, 8, .inl kg)) := by rw [hp19, hv_un (by omega)]; exact hK2
            have hV39 : V18 (x + 1 + 10 + 3) = some (.inl (X.2.1 0, 8, .inl kh)) := by rw [hp19, hv_un (by omega)]; exact hK3
            have hV40 : V18 (x + 53) = some (.inr (4, [.ref (x + 53 + 1), .int (nI σ.2.2.1.1), .int pl, .int cl, .ref (x + 53 + 2), .ref (x + 53 + 3)])) := by rw [hp19, hv_un (by omega)]; exact hQ0
            have hV41 : V18 (x + 53 + 1) = some (.inl (X.2.1 2, 100, .inl σ.2.2.1.2)) := by rw [hp19, hv_un (by omega)]; exact hQ1
            have hV42 : V18 (x + 1 + 14 + 2 * j1) = some (rE (σ.1.1.1 j1) (σ.1.1.2.1 j1) (x + 1 + 14 + 2 * j1 + 1)) := by rw [hp19, hv_un (by omega)]; exact hR_j1
            have hV43 : V18 (x + 1 + 14 + 2 * j1 + 1) = some (nE X (σ.1.1.2.2 j1)) := by rw [hp19, hv_un (by omega)]; exact hN_j1
            have hV44 : V18 (x + 60) = some (fE (fx_become (u.toInt64) (lo.toInt64))) := by rw [hp19]; exact hv_us
            refine lv_aload_n C0.1 C0.2.1 dX6_spread_58 rfl (lv_at hl 0 rfl) ?_
            refine gf_X6_12 C0 w hV20 rfl dX6_spread_59 ?_
            refine gf_X6_76 C0 w hV21 rfl dX6_spread_62 ?_
            refine lv_iload_n C0.1 C0.2.1 dX6_spread_65 rfl (lv_at hl 1 rfl) ?_
            refine hv_aald 3 C0 w rfl hV22 (hn_in hj1 (by decide)) (by rw [kj1]; exact hP2 j1 hj1) dX6_spread_66 ?_
            refine lv_iload_n C0.1 C0.2.1 dX6_spread_67 rfl (lv_at hl 2 rfl) ?_
            refine lv_aload_n C0.1 C0.2.1 dX6_spread_68 rfl (lv_at hl 0 rfl) ?_
            refine gf_X6_44 C0 w hV20 rfl dX6_spread_69 ?_
            refine hv_cVv C0 w kl_X6_80 kv_X3_unfold rfl hV42 (c_X3_unfold hV42 hV43 (G0 := (fx_become (u.toInt64) (lo.toInt64))) hV44) (by decide) (by decide) rfl hl.1 rfl (Nat.le_of_ble_eq_true rfl) dX6_spread_72 ⟨Nat.le_refl _, Nat.le_refl _⟩ (fun V46 Hq lq hp47 w => ?_)
            have hV48 : V46 x = some (.inr (6, [.ref (x + 1), .ref (x + 27), .int kk0, .ref (x + 53), .ref (x + 57), .ref (x + 58), .ref (x + 60), .ref (x + 61), .ref (x + 62), .ref (x + 63)])) := by rw [hp47, hv_un (by omega), hv_un (by omega), hv_un (by omega)]; exact hV20
            have hV49 : V46 (x + 60) = some (fE (fx_unf k 16 0 (σ.1.1.2.2 j1) (fx_become (u.toInt64) (lo.toInt64))).2.2) := by rw [hp47]; exact hv_us
            refine lv_aload_n C0.1 C0.2.1 dX6_spread_75 rfl (lv_at hl 0 rfl) ?_
            refine gf_X6_44 C0 w hV48 rfl dX6_spread_76 ?_
            refine hv_cVi C0 w kl_X6_84 kv_X0_isNought rfl hV49 (c_X0_isNought (F := ((fx_unf k 16 0 (σ.1.1.2.2 j1) (fx_become (u.toInt64) (lo.toInt64))).2.2)) hV49) (by decide) (by decide) rfl hl.1 rfl (Nat.le_of_ble_eq_true rfl) dX6_spread_79 ⟨Nat.le_refl _, Nat.le_refl _⟩ (fun x50 V51 Hq lq hp52 w => ?_)
            obtain ⟨e9, hz9⟩ := hp52
            rw [e9] at w; clear e9
            rcases hz9 with ⟨rfl, hn53⟩ | ⟨rfl, hn53⟩
            · skip
              refine lv_if_eq (tgt := 89) C0.1 C0.2.1 dX6_spread_82 (by decide) (fun h9 => absurd h9 (by decide)) (fun _ => ?_)
              refine lv_iconst (v := 1) C0.1 C0.2.1 dX6_spread_85 (by decide) ?_
              refine lv_goto (tgt := 90) C0.1 C0.2.1 dX6_spread_86 (by decide) ?_
              exact hv_iret C0 w hr hlk (by rw [sp_spread, if_pos ⟨ihb4, hb8⟩, if_pos ⟨hb12, hb16, c_40⟩, kj1, sp_sprd, if_pos hn53]; exact ⟨rfl, ⟨kk0, (by rw [hp47, hv_un (by omega), hv_un (by omega), hv_un (by omega), hp19, hv_un (by omega)] : _ = V x).trans hX0, hPg.row hj1 ⟨by rw [hp47, hv_un (by omega), hv_un (by omega)]; exact hv_us, by rw [hp47, hv_un (by omega)]; exact hv_us⟩ (fun q h7 h8 => by rw [hp47, hv_un (by omega), hv_un (by omega), hv_un (by omega), hp19, hv_un (by omega)]) (fun q h7 h8 => by rw [hp47, hv_un (by omega), hv_un (by omega), hv_un (by omega), hp19, hv_un (by omega)]), hKp.fr (fun q h7 h8 => by rw [hp47, hv_un (by omega), hv_un (by omega), hv_un (by omega), hp19, hv_un (by omega)]), hTx.fr (fun q h7 h8 => by rw [hp47, hv_un (by omega), hv_un (by omega), hv_un (by omega), hp19, hv_un (by omega)]), hTp.fr (by rw [hp47, hv_un (by omega), hv_un (by omega), hv_un (by omega), hp19, hv_un (by omega)]) (fun q h7 h8 => by rw [hp47, hv_un (by omega), hv_un (by omega), hv_un (by omega), hp19, hv_un (by omega)]), hSc.gen ⟨tk, tn, tg, (by rw [hp47, hv_un (by omega), hv_un (by omega), hv_un (by omega), hp19, hv_un (by omega)] : _ = V (x + 58)).trans hS1, (by rw [hp47, hv_un (by omega), hv_un (by omega), hv_un (by omega), hp19, hv_un (by omega)] : _ = V (x + 58 + 1)).trans hS2⟩ ⟨_, by rw [hp47]; exact hv_us⟩ ⟨RF, (by rw [hp47, hv_un (by omega), hv_un (by omega), hv_un (by omega), hp19, hv_un (by omega)] : _ = V (x + 61)).trans hS4⟩ (fun q h7 h8 => by rw [hp47, hv_un (by omega), hv_un (by omega), hv_un (by omega), hp19, hv_un (by omega)]) (fun q h7 h8 => by rw [hp47, hv_un (by omega), hv_un (by omega), hv_un (by omega), hp19, hv_un (by omega)])⟩, (fun q h7 => by rw [hp47, hv_un (by omega), hv_un (by omega), hv_un (by omega), hp19, hv_un (by omega)])⟩) dX6_spread_90
            · skip
              refine lv_if_eq (tgt := 89) C0.1 C0.2.1 dX6_spread_82 (by decide) (fun _ => ?_) (fun h9 => absurd h9 (by decide))
              refine lv_iconst (v := 0) C0.1 C0.2.1 dX6_spread_89 (by decide) ?_
              exact hv_iret C0 w hr hlk (by rw [sp_spread, if_pos ⟨ihb4, hb8⟩, if_pos ⟨hb12, hb16, c_40⟩, kj1, sp_sprd, if_neg hn53]; exact ⟨rfl, ⟨kk0, (by rw [hp47, hv_un (by omega), hv_un (by omega), hv_un (by omega), hp19, hv_un (by omega)] : _ = V x).trans hX0, hPg.row hj1 ⟨by rw [hp47, hv_un (by omega), hv_un (by omega)]; exact hv_us, by rw [hp47, hv_un (by omega)]; exact hv_us⟩ (fun q h7 h8 => by rw [hp47, hv_un (by omega), hv_un (by omega), hv_un (by omega), hp19, hv_un (by omega)]) (fun q h7 h8 => by rw [hp47, hv_un (by omega), hv_un (by omega), hv_un (by omega), hp19, hv_un (by omega)]), hKp.fr (fun q h7 h8 => by rw [hp47, hv_un (by omega), hv_un (by omega), hv_un (by omega), hp19, hv_un (by omega)]), hTx.fr (fun q h7 h8 => by rw [hp47, hv_un (by omega), hv_un (by omega), hv_un (by omega), hp19, hv_un (by omega)]), hTp.fr (by rw [hp47, hv_un (by omega), hv_un (by omega), hv_un (by omega), hp19, hv_un (by omega)]) (fun q h7 h8 => by rw [hp47, hv_un (by omega), hv_un (by omega), hv_un (by omega), hp19, hv_un (by omega)]), hSc.gen ⟨tk, tn, tg, (by rw [hp47, hv_un (by omega), hv_un (by omega), hv_un (by omega), hp19, hv_un (by omega)] : _ = V (x + 58)).trans hS1, (by rw [hp47, hv_un (by omega), hv_un (by omega), hv_un (by omega), hp19, hv_un (by omega)] : _ = V (x + 58 + 1)).trans hS2⟩ ⟨_, by rw [hp47]; exact hv_us⟩ ⟨RF, (by rw [hp47, hv_un (by omega), hv_un (by omega), hv_un (by omega), hp19, hv_un (by omega)] : _ = V (x + 61)).trans hS4⟩ (fun q h7 h8 => by rw [hp47, hv_un (by omega), hv_un (by omega), hv_un (by omega), hp19, hv_un (by omega)]) (fun q h7 h8 => by rw [hp47, hv_un (by omega), hv_un (by omega), hv_un (by omega), hp19, hv_un (by omega)])⟩, (fun q h7 => by rw [hp47, hv_un (by omega), hv_un (by omega), hv_un (by omega), hp19, hv_un (by omega)])⟩) dX6_spread_90
          · skip
            refine lv_bipush (v := -2) C0.1 C0.2.1 dX6_spread_43 (by decide) ?_
            exact hv_iret C0 w hr hlk (by rw [sp_spread, if_pos ⟨ihb4, hb8⟩, if_neg (fun h9 => c_40 h9.2.2)]; exact ⟨rfl, hX, hv_out.rf⟩) dX6_spread_45
        · skip
          refine lv_if_eq (tgt := 43) C0.1 C0.2.1 dX6_spread_34 (by decide) (fun _ => ?_) (fun h9 => absurd h9 (by decide))
          refine lv_bipush (v := -2) C0.1 C0.2.1 dX6_spread_43 (by decide) ?_
          exact hv_iret C0 w hr hlk (by rw [sp_spread, if_pos ⟨ihb4, hb8⟩, if_neg (fun h9 => hb16 h9.2.1)]; exact ⟨rfl, hX, hv_out.rf⟩) dX6_spread_45
      · skip
        refine lv_if_eq (tgt := 43) C0.1 C0.2.1 dX6_spread_23 (by decide) (fun _ => ?_) (fun h9 => absurd h9 (by decide))
        refine lv_bipush (v := -2) C0.1 C0.2.1 dX6_spread_43 (by decide) ?_
        exact hv_iret C0 w hr hlk (by rw [sp_spread, if_pos ⟨ihb4, hb8⟩, if_neg (fun h9 => hb12 h9.1)]; exact ⟨rfl, hX, hv_out.rf⟩) dX6_spread_45
    · skip
      refine lv_if_ne (tgt := 16) C0.1 C0.2.1 dX6_spread_11 (by decide) (fun h9 => absurd h9 (by decide)) (fun _ => ?_)
      refine lv_iconst (v := -1) C0.1 C0.2.1 dX6_spread_14 (by decide) ?_
      exact hv_iret C0 w hr hlk (by rw [sp_spread, if_neg (fun h9 => hb8 h9.2)]; exact ⟨rfl, hX, hv_out.rf⟩) dX6_spread_15
  · skip
    refine lv_if_eq (tgt := 14) C0.1 C0.2.1 dX6_spread_4 (by decide) (fun _ => ?_) (fun h9 => absurd h9 (by decide))
    refine lv_iconst (v := -1) C0.1 C0.2.1 dX6_spread_14 (by decide) ?_
    exact hv_iret C0 w hr hlk (by rw [sp_spread, if_neg (fun h9 => hb4 h9.1)]; exact ⟨rfl, hX, hv_out.rf⟩) dX6_spread_15

set_option maxHeartbeats 4000000 in
set_option maxRecDepth 100000 in
theorem c_X6_combine {l : Launch} {X : hv_X} {V : hv_V} {x : Nat} {kk0 : Int32} {F G : fx_F} (hX0 : V x = some (xE x kk0)) (hS3 : V (x + 60) = some (fE F)) (hS4 : V (x + 61) = some (fE G)) {h : Int32} : hv_Mv l X 4 yX6_combine cX6_combine 2 V [.ref x, .int h] (fun V1 => V1 = hv_up V (x + 60) (fE (sp_comb F G h))) := by
  refine hv_enter (by decide) (Nat.le_of_ble_eq_true rfl) ?_
  intro p e s m below meth c ls C0 hr hlk hnm w hl
  have hl : lv_has ls 2 [(0, .ref x), (1, .int h)] := hl
  refine lv_iload_n C0.1 C0.2.1 dX6_combine_0 rfl (lv_at hl 1 rfl) ?_
  refine lv_if_ne (tgt := 28) C0.1 C0.2.1 dX6_combine_1 (by decide) (fun c_1 => ?_) (fun c_1 => ?_)
  · skip
    refine lv_iload_n C0.1 C0.2.1 dX6_combine_28 rfl (lv_at hl 1 rfl) ?_
    refine lv_iconst (v := 1) C0.1 C0.2.1 dX6_combine_29 (by decide) ?_
    refine lv_icmp_ne (tgt := 47) C0.1 C0.2.1 dX6_combine_30 (by decide) (fun c_30 => ?_) (fun c_30 => ?_)
    · skip
      refine lv_aload_n C0.1 C0.2.1 dX6_combine_47 rfl (lv_at hl 0 rfl) ?_
      refine gf_X6_44 C0 w hX0 rfl dX6_combine_48 ?_
      refine lv_aload_n C0.1 C0.2.1 dX6_combine_51 rfl (lv_at hl 0 rfl) ?_
      refine gf_X6_48 C0 w hX0 rfl dX6_combine_52 ?_
      refine hv_cVv C0 w kl_X6_292 kv_X0_multiplyBy rfl hS3 (c_X0_multiplyBy (F := F) hS3 (G := G) hS4 (by omega)) (by decide) (by decide) rfl hl.1 rfl (Nat.le_of_ble_eq_true rfl) dX6_combine_55 ⟨Nat.le_refl _, Nat.le_refl _⟩ (fun V2 Hq lq hp3 w => ?_)
      have hV4 : V2 x = some (.inr (6, [.ref (x + 1), .ref (x + 27), .int kk0, .ref (x + 53), .ref (x + 57), .ref (x + 58), .ref (x + 60), .ref (x + 61), .ref (x + 62), .ref (x + 63)])) := by rw [hp3, hv_un (by omega)]; exact hX0
      have hV6 : V2 (x + 61) = some (fE G) := by rw [hp3, hv_un (by omega)]; exact hS4
      have hV7 : V2 (x + 60) = some (fE (fx_mul F G)) := by rw [hp3]; exact hv_us
      exact hv_vret C0 w hr hlk (by rw [sp_comb, if_neg c_1, if_neg c_30, hp3] <;> rfl) dX6_combine_58
    · skip
      refine lv_aload_n C0.1 C0.2.1 dX6_combine_33 rfl (lv_at hl 0 rfl) ?_
      refine gf_X6_44 C0 w hX0 rfl dX6_combine_34 ?_
      refine lv_aload_n C0.1 C0.2.1 dX6_combine_37 rfl (lv_at hl 0 rfl) ?_
      refine gf_X6_48 C0 w hX0 rfl dX6_combine_38 ?_
      refine hv_cVv C0 w kl_X6_165 kv_X0_takeAway rfl hS3 (c_X0_takeAway (F := F) hS3 (G := G) hS4 (by omega)) (by decide) (by decide) rfl hl.1 rfl (Nat.le_of_ble_eq_true rfl) dX6_combine_41 ⟨Nat.le_refl _, Nat.le_refl _⟩ (fun V9 Hq lq hp10 w => ?_)
      have hV11 : V9 x = some (.inr (6, [.ref (x + 1), .ref (x + 27), .int kk0, .ref (x + 53), .ref (x + 57), .ref (x + 58), .ref (x + 60), .ref (x + 61), .ref (x + 62), .ref (x + 63)])) := by rw [hp10, hv_un (by omega)]; exact hX0
      have hV13 : V9 (x + 61) = some (fE G) := by rw [hp10, hv_un (by omega)]; exact hS4
      have hV14 : V9 (x + 60) = some (fE (fx_takeAway F G)) := by rw [hp10]; exact hv_us
      refine lv_goto (tgt := 58) C0.1 C0.2.1 dX6_combine_44 (by decide) ?_
      exact hv_vret C0 w hr hlk (by rw [sp_comb, if_neg c_1, if_pos c_30, hp10] <;> rfl) dX6_combine_58
  · skip
    refine lv_aload_n C0.1 C0.2.1 dX6_combine_4 rfl (lv_at hl 0 rfl) ?_
    refine gf_X6_44 C0 w hX0 rfl dX6_combine_5 ?_
    refine lv_aload_n C0.1 C0.2.1 dX6_combine_8 rfl (lv_at hl 0 rfl) ?_
    refine gf_X6_48 C0 w hX0 rfl dX6_combine_9 ?_
    refine gf_X6_196 C0 w hS4 rfl dX6_combine_12 ?_
    refine lv_aload_n C0.1 C0.2.1 dX6_combine_15 rfl (lv_at hl 0 rfl) ?_
    refine gf_X6_48 C0 w hX0 rfl dX6_combine_16 ?_
    refine gf_X6_200 C0 w hS4 rfl dX6_combine_19 ?_
    refine hv_cVv C0 w kl_X6_203 kv_X0_addOn rfl hS3 (c_X0_addOn (F := F) hS3) (by decide) (by decide) rfl hl.1 rfl (Nat.le_of_ble_eq_true rfl) dX6_combine_22 ⟨Nat.le_refl _, Nat.le_refl _⟩ (fun V16 Hq lq hp17 w => ?_)
    have hV18 : V16 x = some (.inr (6, [.ref (x + 1), .ref (x + 27), .int kk0, .ref (x + 53), .ref (x + 57), .ref (x + 58), .ref (x + 60), .ref (x + 61), .ref (x + 62), .ref (x + 63)])) := by rw [hp17, hv_un (by omega)]; exact hX0
    have hV20 : V16 (x + 61) = some (fE G) := by rw [hp17, hv_un (by omega)]; exact hS4
    have hV21 : V16 (x + 60) = some (fE (fx_addOn F (G.1) (G.2.1))) := by rw [hp17]; exact hv_us
    refine lv_goto (tgt := 58) C0.1 C0.2.1 dX6_combine_25 (by decide) ?_
    exact hv_vret C0 w hr hlk (by rw [sp_comb, if_pos c_1, hp17] <;> rfl) dX6_combine_58

set_option maxHeartbeats 4000000 in
set_option maxRecDepth 100000 in
theorem m_X6_works {l : Launch} {X : hv_X} {V : hv_V} {x : Nat} {σ : hs_S} (hX : okX X V x σ) (hB : hs_b σ) {r a b h : Int32} : hv_Mi l X 6 yX6_works cX6_works 5 .int V [.ref x, .int r, .int a, .int b, .int h] (fun y V1 => y = (sp_works σ r a b h).1 ∧ okX X V1 x (sp_works σ r a b h).2 ∧ hv_out V V1 x (x + 92)) := by
  refine hv_enter (by decide) (Nat.le_of_ble_eq_true rfl) ?_
  intro p e s m below meth c ls C0 hr hlk hnm w hl
  have hl : lv_has ls 5 [(0, .ref x), (1, .int r), (2, .int a), (3, .int b), (4, .int h)] := hl
  obtain ⟨kk0, hX0, hPg, hKp, hTx, hTp, hSc⟩ := id hX
  obtain ⟨hP0, ⟨rf, hP1, hP2⟩, hP3, hP4, hP5, hP6⟩ := id hPg
  obtain ⟨⟨tf, hT1, hT2⟩, hT3⟩ := id hTp
  obtain ⟨⟨tk, tn, tg, hS1, hS2⟩, ⟨LF, hS3⟩, ⟨RF, hS4⟩, ⟨bf, hS5, hS6⟩, hS7, uf, hS8⟩ := id hSc
  have hbR := hB.1.1
  obtain ⟨sf, sg, sh, hL0, hL1, hL2, hL3, hLa⟩ := id hP4
  obtain ⟨ef, eg, eh, hM0, hM1, hM2, hM3, hMa⟩ := id hP5
  obtain ⟨kf, kg, kh, hK0, hK1, hK2, hK3, hKa⟩ := id hP6
  obtain ⟨pl, cl, wd, vl, hQ0, hQ1, hQ2, hQ3⟩ := id hTx
  refine lv_iload_n C0.1 C0.2.1 dX6_works_0 rfl (lv_at hl 1 rfl) ?_
  refine hv_cSi (As := [.int r]) C0 w kl_X6_60 ks_X6_isRow (c_X6_isRow) (by decide) (by decide) rfl hl.1 rfl (Nat.le_of_ble_eq_true rfl) dX6_works_1 ⟨Nat.le_refl _, Nat.le_refl _⟩ (fun x1 V2 Hq lq hp3 w => ?_)
  obtain ⟨e9, hz9⟩ := hp3
  rw [e9] at w; clear e9
  rcases hz9 with ⟨rfl, hb4⟩ | ⟨rfl, hb4⟩
  · skip
    have ihb4 := hb4
    obtain ⟨j1, hj1, rfl⟩ := sp_inN (k := 5) (by decide) hb4
    have kj1 : (nI j1).toNatClampNeg = j1 := nI_clamp (by omega)
    have hR_j1 : V (x + 1 + 14 + 2 * j1) = some (rE (σ.1.1.1 j1) (σ.1.1.2.1 j1) (x + 1 + 14 + 2 * j1 + 1)) := (hP3 j1 hj1).1
    have hN_j1 : V (x + 1 + 14 + 2 * j1 + 1) = some (nE X (σ.1.1.2.2 j1)) := (hP3 j1 hj1).2
    have hn_j1 : σ.1.1.2.1 j1 ≤ 16 := (hbR j1 hj1).2.1
    refine lv_if_eq (tgt := 31) C0.1 C0.2.1 dX6_works_4 (by decide) (fun h9 => absurd h9 (by decide)) (fun _ => ?_)
    refine lv_iload_n C0.1 C0.2.1 dX6_works_7 rfl (lv_at hl 2 rfl) ?_
    refine hv_cSi (As := [.int a]) C0 w kl_X6_60 ks_X6_isRow (c_X6_isRow) (by decide) (by decide) rfl hl.1 rfl (Nat.le_of_ble_eq_true rfl) dX6_works_8 ⟨Nat.le_refl _, Nat.le_refl _⟩ (fun x5 V6 Hq lq hp7 w => ?_)
    obtain ⟨e9, hz9⟩ := hp7
    rw [e9] at w; clear e9
    rcases hz9 with ⟨rfl, hb8⟩ | ⟨rfl, hb8⟩
    · skip
      have ihb8 := hb8
      obtain ⟨j2, hj2, rfl⟩ := sp_inN (k := 5) (by decide) hb8
      have kj2 : (nI j2).toNatClampNeg = j2 := nI_clamp (by omega)
      have hR_j2 : V (x + 1 + 14 + 2 * j2) = some (rE (σ.1.1.1 j2) (σ.1.1.2.1 j2) (x + 1 + 14 + 2 * j2 + 1)) := (hP3 j2 hj2).1
      have hN_j2 : V (x + 1 + 14 + 2 * j2 + 1) = some (nE X (σ.1.1.2.2 j2)) := (hP3 j2 hj2).2
      have hn_j2 : σ.1.1.2.1 j2 ≤ 16 := (hbR j2 hj2).2.1
      refine lv_if_eq (tgt := 31) C0.1 C0.2.1 dX6_works_11 (by decide) (fun h9 => absurd h9 (by decide)) (fun _ => ?_)
      refine lv_iload_n C0.1 C0.2.1 dX6_works_14 rfl (lv_at hl 3 rfl) ?_
      refine hv_cSi (As := [.int b]) C0 w kl_X6_60 ks_X6_isRow (c_X6_isRow) (by decide) (by decide) rfl hl.1 rfl (Nat.le_of_ble_eq_true rfl) dX6_works_15 ⟨Nat.le_refl _, Nat.le_refl _⟩ (fun x9 V10 Hq lq hp11 w => ?_)
      obtain ⟨e9, hz9⟩ := hp11
      rw [e9] at w; clear e9
      rcases hz9 with ⟨rfl, hb12⟩ | ⟨rfl, hb12⟩
      · skip
        have ihb12 := hb12
        obtain ⟨j3, hj3, rfl⟩ := sp_inN (k := 5) (by decide) hb12
        have kj3 : (nI j3).toNatClampNeg = j3 := nI_clamp (by omega)
        have hR_j3 : V (x + 1 + 14 + 2 * j3) = some (rE (σ.1.1.1 j3) (σ.1.1.2.1 j3) (x + 1 + 14 + 2 * j3 + 1)) := (hP3 j3 hj3).1
        have hN_j3 : V (x + 1 + 14 + 2 * j3 + 1) = some (nE X (σ.1.1.2.2 j3)) := (hP3 j3 hj3).2
        have hn_j3 : σ.1.1.2.1 j3 ≤ 16 := (hbR j3 hj3).2.1
        refine lv_if_eq (tgt := 31) C0.1 C0.2.1 dX6_works_18 (by decide) (fun h9 => absurd h9 (by decide)) (fun _ => ?_)
        refine lv_iload C0.1 C0.2.1 dX6_works_21 (lv_at hl 4 rfl) ?_
        refine lv_iconst (v := 0) C0.1 C0.2.1 dX6_works_23 (by decide) ?_
        refine lv_iconst (v := 2) C0.1 C0.2.1 dX6_works_24 (by decide) ?_
        refine hv_cSi (As := [.int h, .int 0, .int 2]) C0 w kl_X6_68 ks_X6_within (c_X6_within) (by decide) (by decide) rfl hl.1 rfl (Nat.le_of_ble_eq_true rfl) dX6_works_25 ⟨Nat.le_refl _, Nat.le_refl _⟩ (fun x13 V14 Hq lq hp15 w => ?_)
        obtain ⟨e9, hz9⟩ := hp15
        rw [e9] at w; clear e9
        rcases hz9 with ⟨rfl, hb16⟩ | ⟨rfl, hb16⟩
        · skip
          refine lv_if_ne (tgt := 33) C0.1 C0.2.1 dX6_works_28 (by decide) (fun _ => ?_) (fun h9 => absurd h9 (by decide))
          refine lv_aload_n C0.1 C0.2.1 dX6_works_33 rfl (lv_at hl 0 rfl) ?_
          refine gf_X6_12 C0 w hX0 rfl dX6_works_34 ?_
          refine gf_X6_76 C0 w hP0 rfl dX6_works_37 ?_
          refine lv_iload_n C0.1 C0.2.1 dX6_works_40 rfl (lv_at hl 2 rfl) ?_
          refine hv_aald 3 C0 w rfl hP1 (hn_in hj2 (by decide)) (by rw [kj2]; exact hP2 j2 hj2) dX6_works_41 ?_
          refine lv_aload_n C0.1 C0.2.1 dX6_works_42 rfl (lv_at hl 0 rfl) ?_
          refine gf_X6_12 C0 w hX0 rfl dX6_works_43 ?_
          refine gf_X6_76 C0 w hP0 rfl dX6_works_46 ?_
          refine lv_iload_n C0.1 C0.2.1 dX6_works_49 rfl (lv_at hl 2 rfl) ?_
          refine hv_aald 3 C0 w rfl hP1 (hn_in hj2 (by decide)) (by rw [kj2]; exact hP2 j2 hj2) dX6_works_50 ?_
          refine gf_X6_88 C0 w hR_j2 rfl dX6_works_51 ?_
          refine lv_aload_n C0.1 C0.2.1 dX6_works_54 rfl (lv_at hl 0 rfl) ?_
          refine gf_X6_44 C0 w hX0 rfl dX6_works_55 ?_
          refine hv_cVv C0 w kl_X6_106 kv_X3_reckon rfl hR_j2 (c_X3_reckon (k := σ.1.1.2.1 j2) hR_j2 hN_j2 hS3 (by omega) (by omega)) (by decide) (by decide) rfl hl.1 rfl (Nat.le_of_ble_eq_true rfl) dX6_works_58 ⟨Nat.le_refl _, Nat.le_refl _⟩ (fun V18 Hq lq hp19 w => ?_)
          have hV20 : V18 x = some (.inr (6, [.ref (x + 1), .ref (x + 27), .int kk0, .ref (x + 53), .ref (x + 57), .ref (x + 58), .ref (x + 60), .ref (x + 61), .ref (x + 62), .ref (x + 63)])) := by rw [hp19, hv_un (by omega)]; exact hX0
          have hV21 : V18 (x + 1) = some (.inr (2, [.ref (x + 1 + 1), .ref (x + 1 + 2), .ref (x + 1 + 6), .ref (x + 1 + 10)])) := by rw [hp19, hv_un (by omega)]; exact hP0
          have hV22 : V18 (x + 1 + 1) = some (.inl (X.2.1 3, 6, .inr (.inr (.inr (.inr rf))))) := by rw [hp19, hv_un (by omega)]; exact hP1
          have hV23 : V18 (x + 57) = some (.inl (X.2.1 4, 6, .inr (.inr (.inr (.inr tf))))) := by rw [hp19, hv_un (by omega)]; exact hT1
          have hV25 : V18 (x + 61) = some (fE RF) := by rw [hp19, hv_un (by omega)]; exact hS4
          have hV26 : V18 (x + 58) = some (rE tk tn (x + 58 + 1)) := by rw [hp19, hv_un (by omega)]; exact hS1
          have hV27 : V18 (x + 58 + 1) = some (nE X tg) := by rw [hp19, hv_un (by omega)]; exact hS2
          have hV28 : V18 (x + 1 + 2) = some (.inr (1, [.ref (x + 1 + 2 + 1), .ref (x + 1 + 2 + 2), .ref (x + 1 + 2 + 3), .int (nI σ.1.2.1.1)])) := by rw [hp19, hv_un (by omega)]; exact hL0
          have hV29 : V18 (x + 1 + 2 + 1) = some (.inl (X.2.1 0, 4, .inl sf)) := by rw [hp19, hv_un (by omega)]; exact hL1
          have hV30 : V18 (x + 1 + 2 + 2) = some (.inl (X.2.1 0, 4, .inl sg)) := by rw [hp19, hv_un (by omega)]; exact hL2
          have hV31 : V18 (x + 1 + 2 + 3) = some (.inl (X.2.1 0, 4, .inl sh)) := by rw [hp19, hv_un (by omega)]; exact hL3
          have hV32 : V18 (x + 1 + 6) = some (.inr (1, [.ref (x + 1 + 6 + 1), .ref (x + 1 + 6 + 2), .ref (x + 1 + 6 + 3), .int (nI σ.1.2.2.1.1)])) := by rw [hp19, hv_un (by omega)]; exact hM0
          have hV33 : V18 (x + 1 + 6 + 1) = some (.inl (X.2.1 0, 8, .inl ef)) := by rw [hp19, hv_un (by omega)]; exact hM1
          have hV34 : V18 (x + 1 + 6 + 2) = some (.inl (X.2.1 0, 8, .inl eg)) := by rw [hp19, hv_un (by omega)]; exact hM2
          have hV35 : V18 (x + 1 + 6 + 3) = some (.inl (X.2.1 0, 8, .inl eh)) := by rw [hp19, hv_un (by omega)]; exact hM3
          have hV36 : V18 (x + 1 + 10) = some (.inr (1, [.ref (x + 1 + 10 + 1), .ref (x + 1 + 10 + 2), .ref (x + 1 + 10 + 3), .int (nI σ.1.2.2.2.1)])) := by rw [hp19, hv_un (by omega)]; exact hK0
          have hV37 : V18 (x + 1 + 10 + 1) = some (.inl (X.2.1 0, 8, .inl kf)) := by rw [hp19, hv_un (by omega)]; exact hK1
          have hV38 : V18 (x + 1 + 10 + 2) = some (.inl (X.2.1 0, 8, .inl kg)) := by rw [hp19, hv_un (by omega)]; exact hK2
          have hV39 : V18 (x + 1 + 10 + 3) = some (.inl (X.2.1 0, 8, .inl kh)) := by rw [hp19, hv_un (by omega)]; exact hK3
          have hV40 : V18 (x + 53) = some (.inr (4, [.ref (x + 53 + 1), .int (nI σ.2.2.1.1), .int pl, .int cl, .ref (x + 53 + 2), .ref (x + 53 + 3)])) := by rw [hp19, hv_un (by omega)]; exact hQ0
          have hV41 : V18 (x + 53 + 1) = some (.inl (X.2.1 2, 100, .inl σ.2.2.1.2)) := by rw [hp19, hv_un (by omega)]; exact hQ1
          have hV42 : V18 (x + 1 + 14 + 2 * j1) = some (rE (σ.1.1.1 j1) (σ.1.1.2.1 j1) (x + 1 + 14 + 2 * j1 + 1)) := by rw [hp19, hv_un (by omega)]; exact hR_j1
          have hV43 : V18 (x + 1 + 14 + 2 * j1 + 1) = some (nE X (σ.1.1.2.2 j1)) := by rw [hp19, hv_un (by omega)]; exact hN_j1
          have hV44 : V18 (x + 1 + 14 + 2 * j2) = some (rE (σ.1.1.1 j2) (σ.1.1.2.1 j2) (x + 1 + 14 + 2 * j2 + 1)) := by rw [hp19, hv_un (by omega)]; exact hR_j2
          have hV45 : V18 (x + 1 + 14 + 2 * j2 + 1) = some (nE X (σ.1.1.2.2 j2)) := by rw [hp19, hv_un (by omega)]; exact hN_j2
          have hV46 : V18 (x + 1 + 14 + 2 * j3) = some (rE (σ.1.1.1 j3) (σ.1.1.2.1 j3) (x + 1 + 14 + 2 * j3 + 1)) := by rw [hp19, hv_un (by omega)]; exact hR_j3
          have hV47 : V18 (x + 1 + 14 + 2 * j3 + 1) = some (nE X (σ.1.1.2.2 j3)) := by rw [hp19, hv_un (by omega)]; exact hN_j3
          have hV48 : V18 (x + 60) = some (fE (fx_reckon (σ.1.1.1 j2) (σ.1.1.2.2 j2) (σ.1.1.2.1 j2))) := by rw [hp19]; exact hv_us
          refine lv_aload_n C0.1 C0.2.1 dX6_works_61 rfl (lv_at hl 0 rfl) ?_
          refine gf_X6_12 C0 w hV20 rfl dX6_works_62 ?_
          refine gf_X6_76 C0 w hV21 rfl dX6_works_65 ?_
          refine lv_iload_n C0.1 C0.2.1 dX6_works_68 rfl (lv_at hl 3 rfl) ?_
          refine hv_aald 3 C0 w rfl hV22 (hn_in hj3 (by decide)) (by rw [kj3]; exact hP2 j3 hj3) dX6_works_69 ?_
          refine lv_aload_n C0.1 C0.2.1 dX6_works_70 rfl (lv_at hl 0 rfl) ?_
          refine gf_X6_12 C0 w hV20 rfl dX6_works_71 ?_
          refine gf_X6_76 C0 w hV21 rfl dX6_works_74 ?_
          refine lv_iload_n C0.1 C0.2.1 dX6_works_77 rfl (lv_at hl 3 rfl) ?_
          refine hv_aald 3 C0 w rfl hV22 (hn_in hj3 (by decide)) (by rw [kj3]; exact hP2 j3 hj3) dX6_works_78 ?_
          refine gf_X6_88 C0 w hV46 rfl dX6_works_79 ?_
          refine lv_aload_n C0.1 C0.2.1 dX6_works_82 rfl (lv_at hl 0 rfl) ?_
          refine gf_X6_48 C0 w hV20 rfl dX6_works_83 ?_
          refine hv_cVv C0 w kl_X6_106 kv_X3_reckon rfl hV46 (c_X3_reckon (k := σ.1.1.2.1 j3) hV46 hV47 hV25 (by omega) (by omega)) (by decide) (by decide) rfl hl.1 rfl (Nat.le_of_ble_eq_true rfl) dX6_works_86 ⟨Nat.le_refl _, Nat.le_refl _⟩ (fun V50 Hq lq hp51 w => ?_)
          have hV52 : V50 x = some (.inr (6, [.ref (x + 1), .ref (x + 27), .int kk0, .ref (x + 53), .ref (x + 57), .ref (x + 58), .ref (x + 60), .ref (x + 61), .ref (x + 62), .ref (x + 63)])) := by rw [hp51, hv_un (by omega)]; exact hV20
          have hV53 : V50 (x + 1) = some (.inr (2, [.ref (x + 1 + 1), .ref (x + 1 + 2), .ref (x + 1 + 6), .ref (x + 1 + 10)])) := by rw [hp51, hv_un (by omega)]; exact hV21
          have hV54 : V50 (x + 1 + 1) = some (.inl (X.2.1 3, 6, .inr (.inr (.inr (.inr rf))))) := by rw [hp51, hv_un (by omega)]; exact hV22
          have hV55 : V50 (x + 57) = some (.inl (X.2.1 4, 6, .inr (.inr (.inr (.inr tf))))) := by rw [hp51, hv_un (by omega)]; exact hV23
          have hV57 : V50 (x + 58) = some (rE tk tn (x + 58 + 1)) := by rw [hp51, hv_un (by omega)]; exact hV26
          have hV58 : V50 (x + 58 + 1) = some (nE X tg) := by rw [hp51, hv_un (by omega)]; exact hV27
          have hV59 : V50 (x + 1 + 2) = some (.inr (1, [.ref (x + 1 + 2 + 1), .ref (x + 1 + 2 + 2), .ref (x + 1 + 2 + 3), .int (nI σ.1.2.1.1)])) := by rw [hp51, hv_un (by omega)]; exact hV28
          have hV60 : V50 (x + 1 + 2 + 1) = some (.inl (X.2.1 0, 4, .inl sf)) := by rw [hp51, hv_un (by omega)]; exact hV29
          have hV61 : V50 (x + 1 + 2 + 2) = some (.inl (X.2.1 0, 4, .inl sg)) := by rw [hp51, hv_un (by omega)]; exact hV30
          have hV62 : V50 (x + 1 + 2 + 3) = some (.inl (X.2.1 0, 4, .inl sh)) := by rw [hp51, hv_un (by omega)]; exact hV31
          have hV63 : V50 (x + 1 + 6) = some (.inr (1, [.ref (x + 1 + 6 + 1), .ref (x + 1 + 6 + 2), .ref (x + 1 + 6 + 3), .int (nI σ.1.2.2.1.1)])) := by rw [hp51, hv_un (by omega)]; exact hV32
          have hV64 : V50 (x + 1 + 6 + 1) = some (.inl (X.2.1 0, 8, .inl ef)) := by rw [hp51, hv_un (by omega)]; exact hV33
          have hV65 : V50 (x + 1 + 6 + 2) = some (.inl (X.2.1 0, 8, .inl eg)) := by rw [hp51, hv_un (by omega)]; exact hV34
          have hV66 : V50 (x + 1 + 6 + 3) = some (.inl (X.2.1 0, 8, .inl eh)) := by rw [hp51, hv_un (by omega)]; exact hV35
          have hV67 : V50 (x + 1 + 10) = some (.inr (1, [.ref (x + 1 + 10 + 1), .ref (x + 1 + 10 + 2), .ref (x + 1 + 10 + 3), .int (nI σ.1.2.2.2.1)])) := by rw [hp51, hv_un (by omega)]; exact hV36
          have hV68 : V50 (x + 1 + 10 + 1) = some (.inl (X.2.1 0, 8, .inl kf)) := by rw [hp51, hv_un (by omega)]; exact hV37
          have hV69 : V50 (x + 1 + 10 + 2) = some (.inl (X.2.1 0, 8, .inl kg)) := by rw [hp51, hv_un (by omega)]; exact hV38
          have hV70 : V50 (x + 1 + 10 + 3) = some (.inl (X.2.1 0, 8, .inl kh)) := by rw [hp51, hv_un (by omega)]; exact hV39
          have hV71 : V50 (x + 53) = some (.inr (4, [.ref (x + 53 + 1), .int (nI σ.2.2.1.1), .int pl, .int cl, .ref (x + 53 + 2), .ref (x + 53 + 3)])) := by rw [hp51, hv_un (by omega)]; exact hV40
          have hV72 : V50 (x + 53 + 1) = some (.inl (X.2.1 2, 100, .inl σ.2.2.1.2)) := by rw [hp51, hv_un (by omega)]; exact hV41
          have hV73 : V50 (x + 1 + 14 + 2 * j1) = some (rE (σ.1.1.1 j1) (σ.1.1.2.1 j1) (x + 1 + 14 + 2 * j1 + 1)) := by rw [hp51, hv_un (by omega)]; exact hV42
          have hV74 : V50 (x + 1 + 14 + 2 * j1 + 1) = some (nE X (σ.1.1.2.2 j1)) := by rw [hp51, hv_un (by omega)]; exact hV43
          have hV75 : V50 (x + 1 + 14 + 2 * j2) = some (rE (σ.1.1.1 j2) (σ.1.1.2.1 j2) (x + 1 + 14 + 2 * j2 + 1)) := by rw [hp51, hv_un (by omega)]; exact hV44
          have hV76 : V50 (x + 1 + 14 + 2 * j2 + 1) = some (nE X (σ.1.1.2.2 j2)) := by rw [hp51, hv_un (by omega)]; exact hV45
          have hV77 : V50 (x + 1 + 14 + 2 * j3) = some (rE (σ.1.1.1 j3) (σ.1.1.2.1 j3) (x + 1 + 14 + 2 * j3 + 1)) := by rw [hp51, hv_un (by omega)]; exact hV46
          have hV78 : V50 (x + 1 + 14 + 2 * j3 + 1) = some (nE X (σ.1.1.2.2 j3)) := by rw [hp51, hv_un (by omega)]; exact hV47
          have hV79 : V50 (x + 60) = some (fE (fx_reckon (σ.1.1.1 j2) (σ.1.1.2.2 j2) (σ.1.1.2.1 j2))) := by rw [hp51, hv_un (by omega)]; exact hV48
          have hV80 : V50 (x + 61) = some (fE (fx_reckon (σ.1.1.1 j3) (σ.1.1.2.2 j3) (σ.1.1.2.1 j3))) := by rw [hp51]; exact hv_us
          refine lv_aload_n C0.1 C0.2.1 dX6_works_89 rfl (lv_at hl 0 rfl) ?_
          refine gf_X6_44 C0 w hV52 rfl dX6_works_90 ?_
          refine gf_X6_109 C0 w hV79 rfl dX6_works_93 ?_
          refine lv_if_eq (tgt := 109) C0.1 C0.2.1 dX6_works_96 (by decide) (fun c_96 => ?_) (fun c_96 => ?_)
          · skip
            refine lv_bipush (v := -3) C0.1 C0.2.1 dX6_works_109 (by decide) ?_
            exact hv_iret C0 w hr hlk (by rw [sp_works, if_pos ⟨ihb4, ihb8, ihb12, hb16⟩, kj1, kj2, kj3, if_pos (Or.inl c_96)]; exact ⟨rfl, ⟨kk0, (by rw [hp51, hv_un (by omega), hp19, hv_un (by omega)] : _ = V x).trans hX0, hPg.fr (fun q h7 h8 => by rw [hp51, hv_un (by omega), hp19, hv_un (by omega)]), hKp.fr (fun q h7 h8 => by rw [hp51, hv_un (by omega), hp19, hv_un (by omega)]), hTx.fr (fun q h7 h8 => by rw [hp51, hv_un (by omega), hp19, hv_un (by omega)]), hTp.fr (by rw [hp51, hv_un (by omega), hp19, hv_un (by omega)]) (fun q h7 h8 => by rw [hp51, hv_un (by omega), hp19, hv_un (by omega)]), hSc.gen ⟨tk, tn, tg, (by rw [hp51, hv_un (by omega), hp19, hv_un (by omega)] : _ = V (x + 58)).trans hS1, (by rw [hp51, hv_un (by omega), hp19, hv_un (by omega)] : _ = V (x + 58 + 1)).trans hS2⟩ ⟨_, by rw [hp51, hv_un (by omega), hp19]; exact hv_us⟩ ⟨_, by rw [hp51]; exact hv_us⟩ (fun q h7 h8 => by rw [hp51, hv_un (by omega), hp19, hv_un (by omega)]) (fun q h7 h8 => by rw [hp51, hv_un (by omega), hp19, hv_un (by omega)])⟩, (fun q h7 => by rw [hp51, hv_un (by omega), hp19, hv_un (by omega)])⟩) dX6_works_111
          · skip
            refine lv_aload_n C0.1 C0.2.1 dX6_works_99 rfl (lv_at hl 0 rfl) ?_
            refine gf_X6_48 C0 w hV52 rfl dX6_works_100 ?_
            refine gf_X6_109 C0 w hV80 rfl dX6_works_103 ?_
            refine lv_if_ne (tgt := 112) C0.1 C0.2.1 dX6_works_106 (by decide) (fun c_106 => ?_) (fun c_106 => ?_)
            · skip
              refine lv_aload_n C0.1 C0.2.1 dX6_works_112 rfl (lv_at hl 0 rfl) ?_
              refine lv_iload C0.1 C0.2.1 dX6_works_113 (lv_at hl 4 rfl) ?_
              refine hv_cVv C0 w kl_X6_113 kv_X6_combine rfl hV52 (c_X6_combine (F := (fx_reckon (σ.1.1.1 j2) (σ.1.1.2.2 j2) (σ.1.1.2.1 j2))) (G := (fx_reckon (σ.1.1.1 j3) (σ.1.1.2.2 j3) (σ.1.1.2.1 j3))) hV52 hV79 hV80) (by decide) (by decide) rfl hl.1 rfl (Nat.le_of_ble_eq_true rfl) dX6_works_115 ⟨Nat.le_refl _, Nat.le_refl _⟩ (fun V82 Hq lq hp83 w => ?_)
              have hV84 : V82 x = some (.inr (6, [.ref (x + 1), .ref (x + 27), .int kk0, .ref (x + 53), .ref (x + 57), .ref (x + 58), .ref (x + 60), .ref (x + 61), .ref (x + 62), .ref (x + 63)])) := by rw [hp83, hv_un (by omega)]; exact hV52
              have hV85 : V82 (x + 1) = some (.inr (2, [.ref (x + 1 + 1), .ref (x + 1 + 2), .ref (x + 1 + 6), .ref (x + 1 + 10)])) := by rw [hp83, hv_un (by omega)]; exact hV53
              have hV86 : V82 (x + 1 + 1) = some (.inl (X.2.1 3, 6, .inr (.inr (.inr (.inr rf))))) := by rw [hp83, hv_un (by omega)]; exact hV54
              have hV87 : V82 (x + 57) = some (.inl (X.2.1 4, 6, .inr (.inr (.inr (.inr tf))))) := by rw [hp83, hv_un (by omega)]; exact hV55
              have hV88 : V82 (x + 58) = some (rE tk tn (x + 58 + 1)) := by rw [hp83, hv_un (by omega)]; exact hV57
              have hV89 : V82 (x + 58 + 1) = some (nE X tg) := by rw [hp83, hv_un (by omega)]; exact hV58
              have hV90 : V82 (x + 1 + 2) = some (.inr (1, [.ref (x + 1 + 2 + 1), .ref (x + 1 + 2 + 2), .ref (x + 1 + 2 + 3), .int (nI σ.1.2.1.1)])) := by rw [hp83, hv_un (by omega)]; exact hV59
              have hV91 : V82 (x + 1 + 2 + 1) = some (.inl (X.2.1 0, 4, .inl sf)) := by rw [hp83, hv_un (by omega)]; exact hV60
              have hV92 : V82 (x + 1 + 2 + 2) = some (.inl (X.2.1 0, 4, .inl sg)) := by rw [hp83, hv_un (by omega)]; exact hV61
              have hV93 : V82 (x + 1 + 2 + 3) = some (.inl (X.2.1 0, 4, .inl sh)) := by rw [hp83, hv_un (by omega)]; exact hV62
              have hV94 : V82 (x + 1 + 6) = some (.inr (1, [.ref (x + 1 + 6 + 1), .ref (x + 1 + 6 + 2), .ref (x + 1 + 6 + 3), .int (nI σ.1.2.2.1.1)])) := by rw [hp83, hv_un (by omega)]; exact hV63
              have hV95 : V82 (x + 1 + 6 + 1) = some (.inl (X.2.1 0, 8, .inl ef)) := by rw [hp83, hv_un (by omega)]; exact hV64
              have hV96 : V82 (x + 1 + 6 + 2) = some (.inl (X.2.1 0, 8, .inl eg)) := by rw [hp83, hv_un (by omega)]; exact hV65
              have hV97 : V82 (x + 1 + 6 + 3) = some (.inl (X.2.1 0, 8, .inl eh)) := by rw [hp83, hv_un (by omega)]; exact hV66
              have hV98 : V82 (x + 1 + 10) = some (.inr (1, [.ref (x + 1 + 10 + 1), .ref (x + 1 + 10 + 2), .ref (x + 1 + 10 + 3), .int (nI σ.1.2.2.2.1)])) := by rw [hp83, hv_un (by omega)]; exact hV67
              have hV99 : V82 (x + 1 + 10 + 1) = some (.inl (X.2.1 0, 8, .inl kf)) := by rw [hp83, hv_un (by omega)]; exact hV68
              have hV100 : V82 (x + 1 + 10 + 2) = some (.inl (X.2.1 0, 8, .inl kg)) := by rw [hp83, hv_un (by omega)]; exact hV69
              have hV101 : V82 (x + 1 + 10 + 3) = some (.inl (X.2.1 0, 8, .inl kh)) := by rw [hp83, hv_un (by omega)]; exact hV70
              have hV102 : V82 (x + 53) = some (.inr (4, [.ref (x + 53 + 1), .int (nI σ.2.2.1.1), .int pl, .int cl, .ref (x + 53 + 2), .ref (x + 53 + 3)])) := by rw [hp83, hv_un (by omega)]; exact hV71
              have hV103 : V82 (x + 53 + 1) = some (.inl (X.2.1 2, 100, .inl σ.2.2.1.2)) := by rw [hp83, hv_un (by omega)]; exact hV72
              have hV104 : V82 (x + 1 + 14 + 2 * j1) = some (rE (σ.1.1.1 j1) (σ.1.1.2.1 j1) (x + 1 + 14 + 2 * j1 + 1)) := by rw [hp83, hv_un (by omega)]; exact hV73
              have hV105 : V82 (x + 1 + 14 + 2 * j1 + 1) = some (nE X (σ.1.1.2.2 j1)) := by rw [hp83, hv_un (by omega)]; exact hV74
              have hV106 : V82 (x + 1 + 14 + 2 * j2) = some (rE (σ.1.1.1 j2) (σ.1.1.2.1 j2) (x + 1 + 14 + 2 * j2 + 1)) := by rw [hp83, hv_un (by omega)]; exact hV75
              have hV107 : V82 (x + 1 + 14 + 2 * j2 + 1) = some (nE X (σ.1.1.2.2 j2)) := by rw [hp83, hv_un (by omega)]; exact hV76
              have hV108 : V82 (x + 1 + 14 + 2 * j3) = some (rE (σ.1.1.1 j3) (σ.1.1.2.1 j3) (x + 1 + 14 + 2 * j3 + 1)) := by rw [hp83, hv_un (by omega)]; exact hV77
              have hV109 : V82 (x + 1 + 14 + 2 * j3 + 1) = some (nE X (σ.1.1.2.2 j3)) := by rw [hp83, hv_un (by omega)]; exact hV78
              have hV111 : V82 (x + 61) = some (fE (fx_reckon (σ.1.1.1 j3) (σ.1.1.2.2 j3) (σ.1.1.2.1 j3))) := by rw [hp83, hv_un (by omega)]; exact hV80
              have hV112 : V82 (x + 60) = some (fE (sp_comb (fx_reckon (σ.1.1.1 j2) (σ.1.1.2.2 j2) (σ.1.1.2.1 j2)) (fx_reckon (σ.1.1.1 j3) (σ.1.1.2.2 j3) (σ.1.1.2.1 j3)) h)) := by rw [hp83]; exact hv_us
              refine lv_aload_n C0.1 C0.2.1 dX6_works_118 rfl (lv_at hl 0 rfl) ?_
              refine gf_X6_44 C0 w hV84 rfl dX6_works_119 ?_
              refine hv_cVi C0 w kl_X6_116 kv_X0_isProper rfl hV112 (c_X0_isProper (F := (sp_comb (fx_reckon (σ.1.1.1 j2) (σ.1.1.2.2 j2) (σ.1.1.2.1 j2)) (fx_reckon (σ.1.1.1 j3) (σ.1.1.2.2 j3) (σ.1.1.2.1 j3)) h)) hV112) (by decide) (by decide) rfl hl.1 rfl (Nat.le_of_ble_eq_true rfl) dX6_works_122 ⟨Nat.le_refl _, Nat.le_refl _⟩ (fun x113 V114 Hq lq hp115 w => ?_)
              obtain ⟨e9, hz9⟩ := hp115
              rw [e9] at w; clear e9
              rcases hz9 with ⟨rfl, hq116⟩ | ⟨rfl, hq116⟩
              · skip
                refine lv_if_ne (tgt := 131) C0.1 C0.2.1 dX6_works_125 (by decide) (fun _ => ?_) (fun h9 => absurd h9 (by decide))
                refine lv_aload_n C0.1 C0.2.1 dX6_works_131 rfl (lv_at hl 0 rfl) ?_
                refine gf_X6_12 C0 w hV84 rfl dX6_works_132 ?_
                refine gf_X6_76 C0 w hV85 rfl dX6_works_135 ?_
                refine lv_iload_n C0.1 C0.2.1 dX6_works_138 rfl (lv_at hl 1 rfl) ?_
                refine hv_aald 3 C0 w rfl hV86 (hn_in hj1 (by decide)) (by rw [kj1]; exact hP2 j1 hj1) dX6_works_139 ?_
                refine lv_aload_n C0.1 C0.2.1 dX6_works_140 rfl (lv_at hl 0 rfl) ?_
                refine gf_X6_12 C0 w hV84 rfl dX6_works_141 ?_
                refine gf_X6_76 C0 w hV85 rfl dX6_works_144 ?_
                refine lv_iload_n C0.1 C0.2.1 dX6_works_147 rfl (lv_at hl 1 rfl) ?_
                refine hv_aald 3 C0 w rfl hV86 (hn_in hj1 (by decide)) (by rw [kj1]; exact hP2 j1 hj1) dX6_works_148 ?_
                refine gf_X6_119 C0 w hV104 rfl dX6_works_149 ?_
                refine lv_aload_n C0.1 C0.2.1 dX6_works_152 rfl (lv_at hl 0 rfl) ?_
                refine gf_X6_44 C0 w hV84 rfl dX6_works_153 ?_
                refine hv_cVv C0 w kl_X6_80 kv_X3_unfold rfl hV104 (c_X3_unfold hV104 hV105 (G0 := (sp_comb (fx_reckon (σ.1.1.1 j2) (σ.1.1.2.2 j2) (σ.1.1.2.1 j2)) (fx_reckon (σ.1.1.1 j3) (σ.1.1.2.2 j3) (σ.1.1.2.1 j3)) h)) hV112) (by decide) (by decide) rfl hl.1 rfl (Nat.le_of_ble_eq_true rfl) dX6_works_156 ⟨Nat.le_refl _, Nat.le_refl _⟩ (fun V118 Hq lq hp119 w => ?_)
                have hV120 : V118 x = some (.inr (6, [.ref (x + 1), .ref (x + 27), .int kk0, .ref (x + 53), .ref (x + 57), .ref (x + 58), .ref (x + 60), .ref (x + 61), .ref (x + 62), .ref (x + 63)])) := by rw [hp119, hv_un (by omega), hv_un (by omega), hv_un (by omega)]; exact hV84
                have hV121 : V118 (x + 60) = some (fE (fx_unf (σ.1.1.1 j1) 16 0 (σ.1.1.2.2 j1) (sp_comb (fx_reckon (σ.1.1.1 j2) (σ.1.1.2.2 j2) (σ.1.1.2.1 j2)) (fx_reckon (σ.1.1.1 j3) (σ.1.1.2.2 j3) (σ.1.1.2.1 j3)) h)).2.2) := by rw [hp119]; exact hv_us
                refine lv_aload_n C0.1 C0.2.1 dX6_works_159 rfl (lv_at hl 0 rfl) ?_
                refine gf_X6_44 C0 w hV120 rfl dX6_works_160 ?_
                refine hv_cVi C0 w kl_X6_84 kv_X0_isNought rfl hV121 (c_X0_isNought (F := ((fx_unf (σ.1.1.1 j1) 16 0 (σ.1.1.2.2 j1) (sp_comb (fx_reckon (σ.1.1.1 j2) (σ.1.1.2.2 j2) (σ.1.1.2.1 j2)) (fx_reckon (σ.1.1.1 j3) (σ.1.1.2.2 j3) (σ.1.1.2.1 j3)) h)).2.2)) hV121) (by decide) (by decide) rfl hl.1 rfl (Nat.le_of_ble_eq_true rfl) dX6_works_163 ⟨Nat.le_refl _, Nat.le_refl _⟩ (fun x122 V123 Hq lq hp124 w => ?_)
                obtain ⟨e9, hz9⟩ := hp124
                rw [e9] at w; clear e9
                rcases hz9 with ⟨rfl, hn125⟩ | ⟨rfl, hn125⟩
                · skip
                  refine lv_if_eq (tgt := 173) C0.1 C0.2.1 dX6_works_166 (by decide) (fun h9 => absurd h9 (by decide)) (fun _ => ?_)
                  refine lv_iconst (v := 1) C0.1 C0.2.1 dX6_works_169 (by decide) ?_
                  refine lv_goto (tgt := 174) C0.1 C0.2.1 dX6_works_170 (by decide) ?_
                  exact hv_iret C0 w hr hlk (by rw [sp_works, if_pos ⟨ihb4, ihb8, ihb12, hb16⟩, kj1, kj2, kj3, if_neg (fun h9 => h9.elim c_96 c_106), if_pos hq116, sp_sprd]; exact ⟨(if_pos hn125).symm, ⟨kk0, (by rw [hp119, hv_un (by omega), hv_un (by omega), hv_un (by omega), hp83, hv_un (by omega), hp51, hv_un (by omega), hp19, hv_un (by omega)] : _ = V x).trans hX0, hPg.row hj1 ⟨by rw [hp119, hv_un (by omega), hv_un (by omega)]; exact hv_us, by rw [hp119, hv_un (by omega)]; exact hv_us⟩ (fun q h7 h8 => by rw [hp119, hv_un (by omega), hv_un (by omega), hv_un (by omega), hp83, hv_un (by omega), hp51, hv_un (by omega), hp19, hv_un (by omega)]) (fun q h7 h8 => by rw [hp119, hv_un (by omega), hv_un (by omega), hv_un (by omega), hp83, hv_un (by omega), hp51, hv_un (by omega), hp19, hv_un (by omega)]), hKp.fr (fun q h7 h8 => by rw [hp119, hv_un (by omega), hv_un (by omega), hv_un (by omega), hp83, hv_un (by omega), hp51, hv_un (by omega), hp19, hv_un (by omega)]), hTx.fr (fun q h7 h8 => by rw [hp119, hv_un (by omega), hv_un (by omega), hv_un (by omega), hp83, hv_un (by omega), hp51, hv_un (by omega), hp19, hv_un (by omega)]), hTp.fr (by rw [hp119, hv_un (by omega), hv_un (by omega), hv_un (by omega), hp83, hv_un (by omega), hp51, hv_un (by omega), hp19, hv_un (by omega)]) (fun q h7 h8 => by rw [hp119, hv_un (by omega), hv_un (by omega), hv_un (by omega), hp83, hv_un (by omega), hp51, hv_un (by omega), hp19, hv_un (by omega)]), hSc.gen ⟨tk, tn, tg, (by rw [hp119, hv_un (by omega), hv_un (by omega), hv_un (by omega), hp83, hv_un (by omega), hp51, hv_un (by omega), hp19, hv_un (by omega)] : _ = V (x + 58)).trans hS1, (by rw [hp119, hv_un (by omega), hv_un (by omega), hv_un (by omega), hp83, hv_un (by omega), hp51, hv_un (by omega), hp19, hv_un (by omega)] : _ = V (x + 58 + 1)).trans hS2⟩ ⟨_, by rw [hp119]; exact hv_us⟩ ⟨_, by rw [hp119, hv_un (by omega), hv_un (by omega), hv_un (by omega), hp83, hv_un (by omega), hp51]; exact hv_us⟩ (fun q h7 h8 => by rw [hp119, hv_un (by omega), hv_un (by omega), hv_un (by omega), hp83, hv_un (by omega), hp51, hv_un (by omega), hp19, hv_un (by omega)]) (fun q h7 h8 => by rw [hp119, hv_un (by omega), hv_un (by omega), hv_un (by omega), hp83, hv_un (by omega), hp51, hv_un (by omega), hp19, hv_un (by omega)])⟩, (fun q h7 => by rw [hp119, hv_un (by omega), hv_un (by omega), hv_un (by omega), hp83, hv_un (by omega), hp51, hv_un (by omega), hp19, hv_un (by omega)])⟩) dX6_works_174
                · skip
                  refine lv_if_eq (tgt := 173) C0.1 C0.2.1 dX6_works_166 (by decide) (fun _ => ?_) (fun h9 => absurd h9 (by decide))
                  refine lv_iconst (v := 0) C0.1 C0.2.1 dX6_works_173 (by decide) ?_
                  exact hv_iret C0 w hr hlk (by rw [sp_works, if_pos ⟨ihb4, ihb8, ihb12, hb16⟩, kj1, kj2, kj3, if_neg (fun h9 => h9.elim c_96 c_106), if_pos hq116, sp_sprd]; exact ⟨(if_neg hn125).symm, ⟨kk0, (by rw [hp119, hv_un (by omega), hv_un (by omega), hv_un (by omega), hp83, hv_un (by omega), hp51, hv_un (by omega), hp19, hv_un (by omega)] : _ = V x).trans hX0, hPg.row hj1 ⟨by rw [hp119, hv_un (by omega), hv_un (by omega)]; exact hv_us, by rw [hp119, hv_un (by omega)]; exact hv_us⟩ (fun q h7 h8 => by rw [hp119, hv_un (by omega), hv_un (by omega), hv_un (by omega), hp83, hv_un (by omega), hp51, hv_un (by omega), hp19, hv_un (by omega)]) (fun q h7 h8 => by rw [hp119, hv_un (by omega), hv_un (by omega), hv_un (by omega), hp83, hv_un (by omega), hp51, hv_un (by omega), hp19, hv_un (by omega)]), hKp.fr (fun q h7 h8 => by rw [hp119, hv_un (by omega), hv_un (by omega), hv_un (by omega), hp83, hv_un (by omega), hp51, hv_un (by omega), hp19, hv_un (by omega)]), hTx.fr (fun q h7 h8 => by rw [hp119, hv_un (by omega), hv_un (by omega), hv_un (by omega), hp83, hv_un (by omega), hp51, hv_un (by omega), hp19, hv_un (by omega)]), hTp.fr (by rw [hp119, hv_un (by omega), hv_un (by omega), hv_un (by omega), hp83, hv_un (by omega), hp51, hv_un (by omega), hp19, hv_un (by omega)]) (fun q h7 h8 => by rw [hp119, hv_un (by omega), hv_un (by omega), hv_un (by omega), hp83, hv_un (by omega), hp51, hv_un (by omega), hp19, hv_un (by omega)]), hSc.gen ⟨tk, tn, tg, (by rw [hp119, hv_un (by omega), hv_un (by omega), hv_un (by omega), hp83, hv_un (by omega), hp51, hv_un (by omega), hp19, hv_un (by omega)] : _ = V (x + 58)).trans hS1, (by rw [hp119, hv_un (by omega), hv_un (by omega), hv_un (by omega), hp83, hv_un (by omega), hp51, hv_un (by omega), hp19, hv_un (by omega)] : _ = V (x + 58 + 1)).trans hS2⟩ ⟨_, by rw [hp119]; exact hv_us⟩ ⟨_, by rw [hp119, hv_un (by omega), hv_un (by omega), hv_un (by omega), hp83, hv_un (by omega), hp51]; exact hv_us⟩ (fun q h7 h8 => by rw [hp119, hv_un (by omega), hv_un (by omega), hv_un (by omega), hp83, hv_un (by omega), hp51, hv_un (by omega), hp19, hv_un (by omega)]) (fun q h7 h8 => by rw [hp119, hv_un (by omega), hv_un (by omega), hv_un (by omega), hp83, hv_un (by omega), hp51, hv_un (by omega), hp19, hv_un (by omega)])⟩, (fun q h7 => by rw [hp119, hv_un (by omega), hv_un (by omega), hv_un (by omega), hp83, hv_un (by omega), hp51, hv_un (by omega), hp19, hv_un (by omega)])⟩) dX6_works_174
              · skip
                refine lv_if_ne (tgt := 131) C0.1 C0.2.1 dX6_works_125 (by decide) (fun h9 => absurd h9 (by decide)) (fun _ => ?_)
                refine lv_bipush (v := -3) C0.1 C0.2.1 dX6_works_128 (by decide) ?_
                exact hv_iret C0 w hr hlk (by rw [sp_works, if_pos ⟨ihb4, ihb8, ihb12, hb16⟩, kj1, kj2, kj3, if_neg (fun h9 => h9.elim c_96 c_106), if_neg hq116]; exact ⟨rfl, ⟨kk0, (by rw [hp83, hv_un (by omega), hp51, hv_un (by omega), hp19, hv_un (by omega)] : _ = V x).trans hX0, hPg.fr (fun q h7 h8 => by rw [hp83, hv_un (by omega), hp51, hv_un (by omega), hp19, hv_un (by omega)]), hKp.fr (fun q h7 h8 => by rw [hp83, hv_un (by omega), hp51, hv_un (by omega), hp19, hv_un (by omega)]), hTx.fr (fun q h7 h8 => by rw [hp83, hv_un (by omega), hp51, hv_un (by omega), hp19, hv_un (by omega)]), hTp.fr (by rw [hp83, hv_un (by omega), hp51, hv_un (by omega), hp19, hv_un (by omega)]) (fun q h7 h8 => by rw [hp83, hv_un (by omega), hp51, hv_un (by omega), hp19, hv_un (by omega)]), hSc.gen ⟨tk, tn, tg, (by rw [hp83, hv_un (by omega), hp51, hv_un (by omega), hp19, hv_un (by omega)] : _ = V (x + 58)).trans hS1, (by rw [hp83, hv_un (by omega), hp51, hv_un (by omega), hp19, hv_un (by omega)] : _ = V (x + 58 + 1)).trans hS2⟩ ⟨_, by rw [hp83]; exact hv_us⟩ ⟨_, by rw [hp83, hv_un (by omega), hp51]; exact hv_us⟩ (fun q h7 h8 => by rw [hp83, hv_un (by omega), hp51, hv_un (by omega), hp19, hv_un (by omega)]) (fun q h7 h8 => by rw [hp83, hv_un (by omega), hp51, hv_un (by omega), hp19, hv_un (by omega)])⟩, (fun q h7 => by rw [hp83, hv_un (by omega), hp51, hv_un (by omega), hp19, hv_un (by omega)])⟩) dX6_works_130
            · skip
              refine lv_bipush (v := -3) C0.1 C0.2.1 dX6_works_109 (by decide) ?_
              exact hv_iret C0 w hr hlk (by rw [sp_works, if_pos ⟨ihb4, ihb8, ihb12, hb16⟩, kj1, kj2, kj3, if_pos (Or.inr c_106)]; exact ⟨rfl, ⟨kk0, (by rw [hp51, hv_un (by omega), hp19, hv_un (by omega)] : _ = V x).trans hX0, hPg.fr (fun q h7 h8 => by rw [hp51, hv_un (by omega), hp19, hv_un (by omega)]), hKp.fr (fun q h7 h8 => by rw [hp51, hv_un (by omega), hp19, hv_un (by omega)]), hTx.fr (fun q h7 h8 => by rw [hp51, hv_un (by omega), hp19, hv_un (by omega)]), hTp.fr (by rw [hp51, hv_un (by omega), hp19, hv_un (by omega)]) (fun q h7 h8 => by rw [hp51, hv_un (by omega), hp19, hv_un (by omega)]), hSc.gen ⟨tk, tn, tg, (by rw [hp51, hv_un (by omega), hp19, hv_un (by omega)] : _ = V (x + 58)).trans hS1, (by rw [hp51, hv_un (by omega), hp19, hv_un (by omega)] : _ = V (x + 58 + 1)).trans hS2⟩ ⟨_, by rw [hp51, hv_un (by omega), hp19]; exact hv_us⟩ ⟨_, by rw [hp51]; exact hv_us⟩ (fun q h7 h8 => by rw [hp51, hv_un (by omega), hp19, hv_un (by omega)]) (fun q h7 h8 => by rw [hp51, hv_un (by omega), hp19, hv_un (by omega)])⟩, (fun q h7 => by rw [hp51, hv_un (by omega), hp19, hv_un (by omega)])⟩) dX6_works_111
        · skip
          refine lv_if_ne (tgt := 33) C0.1 C0.2.1 dX6_works_28 (by decide) (fun h9 => absurd h9 (by decide)) (fun _ => ?_)
          refine lv_iconst (v := -1) C0.1 C0.2.1 dX6_works_31 (by decide) ?_
          exact hv_iret C0 w hr hlk (by rw [sp_works, if_neg (fun h9 => hb16 h9.2.2.2)]; exact ⟨rfl, hX, hv_out.rf⟩) dX6_works_32
      · skip
        refine lv_if_eq (tgt := 31) C0.1 C0.2.1 dX6_works_18 (by decide) (fun _ => ?_) (fun h9 => absurd h9 (by decide))
        refine lv_iconst (v := -1) C0.1 C0.2.1 dX6_works_31 (by decide) ?_
        exact hv_iret C0 w hr hlk (by rw [sp_works, if_neg (fun h9 => hb12 h9.2.2.1)]; exact ⟨rfl, hX, hv_out.rf⟩) dX6_works_32
    · skip
      refine lv_if_eq (tgt := 31) C0.1 C0.2.1 dX6_works_11 (by decide) (fun _ => ?_) (fun h9 => absurd h9 (by decide))
      refine lv_iconst (v := -1) C0.1 C0.2.1 dX6_works_31 (by decide) ?_
      exact hv_iret C0 w hr hlk (by rw [sp_works, if_neg (fun h9 => hb8 h9.2.1)]; exact ⟨rfl, hX, hv_out.rf⟩) dX6_works_32
  · skip
    refine lv_if_eq (tgt := 31) C0.1 C0.2.1 dX6_works_4 (by decide) (fun _ => ?_) (fun h9 => absurd h9 (by decide))
    refine lv_iconst (v := -1) C0.1 C0.2.1 dX6_works_31 (by decide) ?_
    exact hv_iret C0 w hr hlk (by rw [sp_works, if_neg (fun h9 => hb4 h9.1)]; exact ⟨rfl, hX, hv_out.rf⟩) dX6_works_32

