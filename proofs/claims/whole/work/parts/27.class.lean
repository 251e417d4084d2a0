theorem okX.lr {X : hv_X} {V : hv_V} {x : Nat} {σ : hs_S} (h : okX X V x σ) {F G : fx_F} : okX X (hv_up (hv_up V (x + 60) (fE F)) (x + 61) (fE G)) x σ := by
  obtain ⟨k, -, -, -, -, -, ⟨⟨kd, n, f, a1⟩, -⟩⟩ := id h
  exact h.scr ⟨kd, n, f, a1.fr ((hv_but1 (by omega)).up (by omega))⟩ ⟨F, by rw [hv_un (by omega)]; exact hv_us⟩ ⟨G, hv_us⟩ ((hv_but1 (by omega)).up (by omega)) ((hv_but1 (by omega)).up (by omega))
theorem hv_q2 {V : hv_V} {a b : Nat} {e1 e2 g1 g2 : va_E} (hab : a ≠ b) : hv_up (hv_up (hv_up (hv_up V a e1) b e2) b g2) a g1 = hv_up (hv_up V a g1) b g2 := hv_p2 hab
set_option maxHeartbeats 4000000 in
set_option maxRecDepth 100000 in
theorem m_X6_mean {l : Launch} {X : hv_X} {V : hv_V} {x : Nat} {σ : hs_S} (hX : okX X V x σ) (hB : hs_b σ) {k9 : Int32} : hv_Ml l X 6 yX6_mean cX6_mean 4 V [.ref x, .int k9] (fun y V1 => y = sp_mean σ k9 ∧ okX X V1 x σ ∧ hv_out V V1 x (x + 92)) := by
  refine hv_enter (by decide) (Nat.le_of_ble_eq_true rfl) ?_
  intro p e s m below meth c ls C0 hr hlk hnm w hl
  have hl : lv_has ls 4 [(0, .ref x), (1, .int k9)] := hl
  obtain ⟨kk0, hX0, hPg, hKp, hTx, hTp, hSc⟩ := id hX
  obtain ⟨hP0, ⟨rf, hP1, hP2⟩, hP3, hP4, hP5, hP6⟩ := id hPg
  obtain ⟨⟨tf, hT1, hT2⟩, hT3⟩ := id hTp
  obtain ⟨⟨tk, tn, tg, hS1, hS2⟩, ⟨LF, hS3⟩, ⟨RF, hS4⟩, ⟨bf, hS5, hS6⟩, hS7, uf, hS8⟩ := id hSc
  have hbR := hB.1.1
  obtain ⟨sf, sg, sh, hL0, hL1, hL2, hL3, hLa⟩ := id hP4
  obtain ⟨ef, eg, eh, hM0, hM1, hM2, hM3, hMa⟩ := id hP5
  obtain ⟨kf, kg, kh, hK0, hK1, hK2, hK3, hKa⟩ := id hP6
  obtain ⟨pl, cl, wd, vl, hQ0, hQ1, hQ2, hQ3⟩ := id hTx
  have loop : ∀ (hk9 : sp_in k9 0 1) (m9 k : Nat) (c9 : Int32) (F G : fx_F) (Hq : Heap) (lq : List Loc) (ls : Array Slot), (k + m9 = 6) → (sp_mn σ m9 k F c9 = sp_mn σ 6 0 (fx_become 0 1) 0) → hv_w X s (hv_up (hv_up V (x + 60) (fE F)) (x + 61) (fE G)) Hq lq → lv_has ls 4 [(0, .ref x), (1, .int k9), (2, .int c9), (3, .int (nI k))] → W p l e (hv_rm 6 0 0) s m ([.ref x, .int k9] : List Value).toArray below meth c Hq lq 0 0 (MQ below (hv_Ql X (fun y V1 => y = sp_mean σ k9 ∧ okX X V1 x σ ∧ hv_out V V1 x (x + 92))) ([.ref x, .int k9] : List Value).toArray s 0 0 X.2.2.1) (F0 m 24 ls []) := by
    intro hk9 m9
    induction m9 with
    | zero =>
      intro k c9 F G Hq lq ls hi he w hl
      have he : (F, c9) = sp_mn σ 6 0 (fx_become 0 1) 0 := he
      obtain ⟨V8, e8⟩ : ∃ V8, V8 = hv_up (hv_up V (x + 60) (fE F)) (x + 61) (fE G) := ⟨_, rfl⟩
      rw [← e8] at w
      have hO8 : V8 (x + 60) = some (fE F) := by rw [e8, hv_un (by omega)]; exact hv_us
      have hG8 : V8 (x + 61) = some (fE G) := by rw [e8]; exact hv_us
      have g8_0 : V8 x = some (.inr (6, [.ref (x + 1), .ref (x + 27), .int kk0, .ref (x + 53), .ref (x + 57), .ref (x + 58), .ref (x + 60), .ref (x + 61), .ref (x + 62), .ref (x + 63)])) := by rw [e8, hv_un (by omega), hv_un (by omega)]; exact hX0
      have g8_1 : V8 (x + 1) = some (.inr (2, [.ref (x + 1 + 1), .ref (x + 1 + 2), .ref (x + 1 + 6), .ref (x + 1 + 10)])) := by rw [e8, hv_un (by omega), hv_un (by omega)]; exact hP0
      have g8_2 : V8 (x + 1 + 1) = some (.inl (X.2.1 3, 6, .inr (.inr (.inr (.inr rf))))) := by rw [e8, hv_un (by omega), hv_un (by omega)]; exact hP1
      refine lv_iload_n C0.1 C0.2.1 dX6_mean_24 rfl (lv_at hl 3 rfl) ?_
      refine lv_bipush (v := 6) C0.1 C0.2.1 dX6_mean_25 (by decide) ?_
      refine lv_icmp_ge (tgt := 98) C0.1 C0.2.1 dX6_mean_27 (by decide) (fun c_27 => ?_) (fun c_27 => absurd (show nI 6 ≤ nI k from nI_le (by omega) (by omega)) c_27)
      refine lv_aload_n C0.1 C0.2.1 dX6_mean_98 rfl (lv_at hl 0 rfl) ?_
      refine gf_X6_44 C0 w g8_0 rfl dX6_mean_99 ?_
      refine lv_iload_n C0.1 C0.2.1 dX6_mean_102 rfl (lv_at hl 2 rfl) ?_
      refine lv_i2l (v := c9.toInt64) C0.1 C0.2.1 dX6_mean_103 rfl ?_
      refine hv_cVv C0 w kl_X6_206 kv_X0_divideBy rfl hO8 (c_X0_divideBy (F := F) hO8) (by decide) (by decide) rfl hl.1 rfl (Nat.le_of_ble_eq_true rfl) dX6_mean_104 ⟨Nat.le_refl _, Nat.le_refl _⟩ (fun V2 Hq lq hp3 w => ?_)
      have hV4 : V2 x = some (.inr (6, [.ref (x + 1), .ref (x + 27), .int kk0, .ref (x + 53), .ref (x + 57), .ref (x + 58), .ref (x + 60), .ref (x + 61), .ref (x + 62), .ref (x + 63)])) := by rw [hp3, hv_un (by omega)]; exact g8_0
      have hV5 : V2 (x + 1) = some (.inr (2, [.ref (x + 1 + 1), .ref (x + 1 + 2), .ref (x + 1 + 6), .ref (x + 1 + 10)])) := by rw [hp3, hv_un (by omega)]; exact g8_1
      have hV6 : V2 (x + 1 + 1) = some (.inl (X.2.1 3, 6, .inr (.inr (.inr (.inr rf))))) := by rw [hp3, hv_un (by omega)]; exact g8_2
      have hV8 : V2 (x + 61) = some (fE G) := by rw [hp3, hv_un (by omega)]; exact hG8
      have hV9 : V2 (x + 60) = some (fE (fx_divBy F (c9.toInt64))) := by rw [hp3]; exact hv_us
      refine lv_aload_n C0.1 C0.2.1 dX6_mean_107 rfl (lv_at hl 0 rfl) ?_
      refine gf_X6_44 C0 w hV4 rfl dX6_mean_108 ?_
      refine lv_iload_n C0.1 C0.2.1 dX6_mean_111 rfl (lv_at hl 1 rfl) ?_
      refine hv_cVl C0 w kl_X6_150 kv_X0_partOf rfl hV9 (c_X0_partOf hV9) (by decide) (by decide) rfl hl.1 rfl (Nat.le_of_ble_eq_true rfl) dX6_mean_112 ⟨Nat.le_refl _, Nat.le_refl _⟩ (fun x10 V11 Hq lq hp12 w => ?_)
      obtain ⟨e9, e8⟩ := hp12
      rw [e9] at w; rw [e8]; clear e9 e8
      exact hv_lret C0 w hr hlk (⟨by rw [sp_mean, if_pos hk9, ← he], by rw [hp3, e8, hv_uc (V := hv_up V (x + 60) (fE F)) (show x + 61 ≠ x + 60 by omega), hv_uu]; exact hX.lr, (fun q h7 => by rw [hp3, hv_un (by omega), e8, hv_un (by omega), hv_un (by omega)])⟩) dX6_mean_115
    | succ m9 ih =>
      intro k c9 F G Hq lq ls hi he w hl
      obtain ⟨V8, e8⟩ : ∃ V8, V8 = hv_up (hv_up V (x + 60) (fE F)) (x + 61) (fE G) := ⟨_, rfl⟩
      rw [← e8] at w
      have hO8 : V8 (x + 60) = some (fE F) := by rw [e8, hv_un (by omega)]; exact hv_us
      have hG8 : V8 (x + 61) = some (fE G) := by rw [e8]; exact hv_us
      have g8_0 : V8 x = some (.inr (6, [.ref (x + 1), .ref (x + 27), .int kk0, .ref (x + 53), .ref (x + 57), .ref (x + 58), .ref (x + 60), .ref (x + 61), .ref (x + 62), .ref (x + 63)])) := by rw [e8, hv_un (by omega), hv_un (by omega)]; exact hX0
      have g8_1 : V8 (x + 1) = some (.inr (2, [.ref (x + 1 + 1), .ref (x + 1 + 2), .ref (x + 1 + 6), .ref (x + 1 + 10)])) := by rw [e8, hv_un (by omega), hv_un (by omega)]; exact hP0
      have g8_2 : V8 (x + 1 + 1) = some (.inl (X.2.1 3, 6, .inr (.inr (.inr (.inr rf))))) := by rw [e8, hv_un (by omega), hv_un (by omega)]; exact hP1
      have hR8 : V8 (x + 1 + 14 + 2 * k) = some (rE (σ.1.1.1 k) (σ.1.1.2.1 k) (x + 1 + 14 + 2 * k + 1)) := by rw [e8, hv_un (by omega), hv_un (by omega)]; exact (hP3 k (by omega)).1
      have hN8 : V8 (x + 1 + 14 + 2 * k + 1) = some (nE X (σ.1.1.2.2 k)) := by rw [e8, hv_un (by omega), hv_un (by omega)]; exact (hP3 k (by omega)).2
      have hn8 : σ.1.1.2.1 k ≤ 16 := (hbR k (by omega)).2.1
      refine lv_iload_n C0.1 C0.2.1 dX6_mean_24 rfl (lv_at hl 3 rfl) ?_
      refine lv_bipush (v := 6) C0.1 C0.2.1 dX6_mean_25 (by decide) ?_
      refine lv_icmp_ge (tgt := 98) C0.1 C0.2.1 dX6_mean_27 (by decide) (fun c_27 => absurd c_27 (show ¬ nI 6 ≤ nI k from nI_ge (by omega) (by omega))) (fun c_27 => ?_)
      refine lv_aload_n C0.1 C0.2.1 dX6_mean_30 rfl (lv_at hl 0 rfl) ?_
      refine gf_X6_12 C0 w g8_0 rfl dX6_mean_31 ?_
      refine gf_X6_76 C0 w g8_1 rfl dX6_mean_34 ?_
      refine lv_iload_n C0.1 C0.2.1 dX6_mean_37 rfl (lv_at hl 3 rfl) ?_
      refine hv_aald 3 C0 w rfl g8_2 (hn_in (by omega) (by decide)) (by rw [nI_clamp (by omega)]; exact hP2 k (by omega)) dX6_mean_38 ?_
      refine lv_aload_n C0.1 C0.2.1 dX6_mean_39 rfl (lv_at hl 0 rfl) ?_
      refine gf_X6_12 C0 w g8_0 rfl dX6_mean_40 ?_
      refine gf_X6_76 C0 w g8_1 rfl dX6_mean_43 ?_
      refine lv_iload_n C0.1 C0.2.1 dX6_mean_46 rfl (lv_at hl 3 rfl) ?_
      refine hv_aald 3 C0 w rfl g8_2 (hn_in (by omega) (by decide)) (by rw [nI_clamp (by omega)]; exact hP2 k (by omega)) dX6_mean_47 ?_
      refine gf_X6_88 C0 w hR8 rfl dX6_mean_48 ?_
      refine lv_aload_n C0.1 C0.2.1 dX6_mean_51 rfl (lv_at hl 0 rfl) ?_
      refine gf_X6_48 C0 w g8_0 rfl dX6_mean_52 ?_
      refine hv_cVv C0 w kl_X6_106 kv_X3_reckon rfl hR8 (c_X3_reckon (k := σ.1.1.2.1 k) hR8 hN8 hG8 (by omega) (by omega)) (by decide) (by decide) rfl hl.1 rfl (Nat.le_of_ble_eq_true rfl) dX6_mean_55 ⟨Nat.le_refl _, Nat.le_refl _⟩ (fun V2 Hq lq hp3 w => ?_)
      have hV4 : V2 x = some (.inr (6, [.ref (x + 1), .ref (x + 27), .int kk0, .ref (x + 53), .ref (x + 57), .ref (x + 58), .ref (x + 60), .ref (x + 61), .ref (x + 62), .ref (x + 63)])) := by rw [hp3, hv_un (by omega)]; exact g8_0
      have hV5 : V2 (x + 1) = some (.inr (2, [.ref (x + 1 + 1), .ref (x + 1 + 2), .ref (x + 1 + 6), .ref (x + 1 + 10)])) := by rw [hp3, hv_un (by omega)]; exact g8_1
      have hV6 : V2 (x + 1 + 1) = some (.inl (X.2.1 3, 6, .inr (.inr (.inr (.inr rf))))) := by rw [hp3, hv_un (by omega)]; exact g8_2
      have hV7 : V2 (x + 60) = some (fE F) := by rw [hp3, hv_un (by omega)]; exact hO8
      have hV9 : V2 (x + 1 + 14 + 2 * k) = some (rE (σ.1.1.1 k) (σ.1.1.2.1 k) (x + 1 + 14 + 2 * k + 1)) := by rw [hp3, hv_un (by omega)]; exact hR8
      have hV10 : V2 (x + 1 + 14 + 2 * k + 1) = some (nE X (σ.1.1.2.2 k)) := by rw [hp3, hv_un (by omega)]; exact hN8
      have hV11 : V2 (x + 61) = some (fE (fx_reckon (σ.1.1.1 k) (σ.1.1.2.2 k) (σ.1.1.2.1 k))) := by rw [hp3]; exact hv_us
      refine lv_aload_n C0.1 C0.2.1 dX6_mean_58 rfl (lv_at hl 0 rfl) ?_
      refine gf_X6_48 C0 w hV4 rfl dX6_mean_59 ?_
      refine gf_X6_109 C0 w hV11 rfl dX6_mean_62 ?_
      refine lv_if_eq (tgt := 92) C0.1 C0.2.1 dX6_mean_65 (by decide) (fun c_65 => ?_) (fun c_65 => ?_)
      · skip
        refine lv_iinc (v := (nI k) + 1) (lv' := [(3, .int ((nI k) + 1)), (0, .ref x), (1, .int k9), (2, .int c9)]) C0.1 C0.2.1 dX6_mean_92 hl (k := 3) rfl rfl (by decide) rfl (fun ls hl => ?_)
        refine lv_goto (tgt := 24) C0.1 C0.2.1 dX6_mean_95 (by decide) ?_
        exact ih (k + 1) _ _ _ _ _ ls (by omega) (by rw [← he, sp_mn, if_pos c_65]) (by rw [hp3, e8, hv_uu] at w; exact w) (by have h9 := (lv_sub (l' := [(0, .ref x), (1, .int k9), (2, .int c9), (3, .int (nI k + 1))]) hl [1, 2, 3, 0] rfl); rw [nI_1] at h9; exact h9)
      · skip
        refine lv_iinc (v := c9 + 1) (lv' := [(2, .int (c9 + 1)), (0, .ref x), (1, .int k9), (3, .int (nI k))]) C0.1 C0.2.1 dX6_mean_68 hl (k := 2) rfl rfl (by decide) rfl (fun ls hl => ?_)
        refine lv_aload_n C0.1 C0.2.1 dX6_mean_71 rfl (lv_at hl 1 rfl) ?_
        refine gf_X6_44 C0 w hV4 rfl dX6_mean_72 ?_
        refine lv_aload_n C0.1 C0.2.1 dX6_mean_75 rfl (lv_at hl 1 rfl) ?_
        refine gf_X6_48 C0 w hV4 rfl dX6_mean_76 ?_
        refine gf_X6_196 C0 w hV11 rfl dX6_mean_79 ?_
        refine lv_aload_n C0.1 C0.2.1 dX6_mean_82 rfl (lv_at hl 1 rfl) ?_
        refine gf_X6_48 C0 w hV4 rfl dX6_mean_83 ?_
        refine gf_X6_200 C0 w hV11 rfl dX6_mean_86 ?_
        refine hv_cVv C0 w kl_X6_203 kv_X0_addOn rfl hV7 (c_X0_addOn (F := F) hV7) (by decide) (by decide) rfl hl.1 rfl (Nat.le_of_ble_eq_true rfl) dX6_mean_89 ⟨Nat.le_refl _, Nat.le_refl _⟩ (fun V13 Hq lq hp14 w => ?_)
        have hV15 : V13 x = some (.inr (6, [.ref (x + 1), .ref (x + 27), .int kk0, .ref (x + 53), .ref (x + 57), .ref (x + 58), .ref (x + 60), .ref (x + 61), .ref (x + 62), .ref (x + 63)])) := by rw [hp14, hv_un (by omega)]; exact hV4
        have hV16 : V13 (x + 1) = some (.inr (2, [.ref (x + 1 + 1), .ref (x + 1 + 2), .ref (x + 1 + 6), .ref (x + 1 + 10)])) := by rw [hp14, hv_un (by omega)]; exact hV5
        have hV17 : V13 (x + 1 + 1) = some (.inl (X.2.1 3, 6, .inr (.inr (.inr (.inr rf))))) := by rw [hp14, hv_un (by omega)]; exact hV6
        have hV19 : V13 (x + 1 + 14 + 2 * k) = some (rE (σ.1.1.1 k) (σ.1.1.2.1 k) (x + 1 + 14 + 2 * k + 1)) := by rw [hp14, hv_un (by omega)]; exact hV9
        have hV20 : V13 (x + 1 + 14 + 2 * k + 1) = some (nE X (σ.1.1.2.2 k)) := by rw [hp14, hv_un (by omega)]; exact hV10
        have hV21 : V13 (x + 61) = some (fE (fx_reckon (σ.1.1.1 k) (σ.1.1.2.2 k) (σ.1.1.2.1 k))) := by rw [hp14, hv_un (by omega)]; exact hV11
        have hV22 : V13 (x + 60) = some (fE (fx_addOn F ((fx_reckon (σ.1.1.1 k) (σ.1.1.2.2 k) (σ.1.1.2.1 k)).1) ((fx_reckon (σ.1.1.1 k) (σ.1.1.2.2 k) (σ.1.1.2.1 k)).2.1))) := by rw [hp14]; exact hv_us
        refine lv_iinc (v := (nI k) + 1) (lv' := [(3, .int ((nI k) + 1)), (2, .int (c9 + 1)), (0, .ref x), (1, .int k9)]) C0.1 C0.2.1 dX6_mean_92 hl (k := 3) rfl rfl (by decide) rfl (fun ls hl => ?_)
        refine lv_goto (tgt := 24) C0.1 C0.2.1 dX6_mean_95 (by decide) ?_
        exact ih (k + 1) _ _ _ _ _ ls (by omega) (by rw [← he, sp_mn, if_neg c_65]) (by rw [hp14, hp3, e8, hv_p2 (by omega)] at w; exact w) (by have h9 := (lv_sub (l' := [(0, .ref x), (1, .int k9), (2, .int (c9 + 1)), (3, .int (nI k + 1))]) hl [2, 3, 1, 0] rfl); rw [nI_1] at h9; exact h9)
  refine lv_iload_n C0.1 C0.2.1 dX6_mean_0 rfl (lv_at hl 1 rfl) ?_
  refine hv_cSi (As := [.int k9]) C0 w kl_X6_145 ks_X6_isPart (c_X6_isPart) (by decide) (by decide) rfl hl.1 rfl (Nat.le_of_ble_eq_true rfl) dX6_mean_1 ⟨Nat.le_refl _, Nat.le_refl _⟩ (fun x1 V2 Hq lq hp3 w => ?_)
  obtain ⟨e9, hz9⟩ := hp3
  rw [e9] at w; clear e9
  rcases hz9 with ⟨rfl, hb4⟩ | ⟨rfl, hb4⟩
  · skip
    refine lv_if_ne (tgt := 11) C0.1 C0.2.1 dX6_mean_4 (by decide) (fun _ => ?_) (fun h9 => absurd h9 (by decide))
    refine lv_iconst (v := 0) C0.1 C0.2.1 dX6_mean_11 (by decide) ?_
    refine lv_istore_n (lv' := [(2, .int 0), (0, .ref x), (1, .int k9)]) C0.1 C0.2.1 dX6_mean_12 rfl hl (by decide) rfl (fun ls hl => ?_)
    refine lv_aload_n C0.1 C0.2.1 dX6_mean_13 rfl (lv_at hl 1 rfl) ?_
    refine gf_X6_44 C0 w hX0 rfl dX6_mean_14 ?_
    refine lv_lconst (v := 0) C0.1 C0.2.1 dX6_mean_17 (by decide) ?_
    refine lv_lconst (v := 1) C0.1 C0.2.1 dX6_mean_18 (by decide) ?_
    refine hv_cVv C0 w kl_X6_72 kv_X0_become rfl hS3 (c_X0_become (F := LF) hS3) (by decide) (by decide) rfl hl.1 rfl (Nat.le_of_ble_eq_true rfl) dX6_mean_19 ⟨Nat.le_refl _, Nat.le_refl _⟩ (fun V6 Hq lq hp7 w => ?_)
    have hV8 : V6 x = some (.inr (6, [.ref (x + 1), .ref (x + 27), .int kk0, .ref (x + 53), .ref (x + 57), .ref (x + 58), .ref (x + 60), .ref (x + 61), .ref (x + 62), .ref (x + 63)])) := by rw [hp7, hv_un (by omega)]; exact hX0
    have hV9 : V6 (x + 1) = some (.inr (2, [.ref (x + 1 + 1), .ref (x + 1 + 2), .ref (x + 1 + 6), .ref (x + 1 + 10)])) := by rw [hp7, hv_un (by omega)]; exact hP0
    have hV10 : V6 (x + 1 + 1) = some (.inl (X.2.1 3, 6, .inr (.inr (.inr (.inr rf))))) := by rw [hp7, hv_un (by omega)]; exact hP1
    have hV11 : V6 (x + 57) = some (.inl (X.2.1 4, 6, .inr (.inr (.inr (.inr tf))))) := by rw [hp7, hv_un (by omega)]; exact hT1
    have hV13 : V6 (x + 61) = some (fE RF) := by rw [hp7, hv_un (by omega)]; exact hS4
    have hV14 : V6 (x + 58) = some (rE tk tn (x + 58 + 1)) := by rw [hp7, hv_un (by omega)]; exact hS1
    have hV15 : V6 (x + 58 + 1) = some (nE X tg) := by rw [hp7, hv_un (by omega)]; exact hS2
    have hV16 : V6 (x + 1 + 2) = some (.inr (1, [.ref (x + 1 + 2 + 1), .ref (x + 1 + 2 + 2), .ref (x + 1 + 2 + 3), .int (nI σ.1.2.1.1)])) := by rw [hp7, hv_un (by omega)]; exact hL0
    have hV17 : V6 (x + 1 + 2 + 1) = some (.inl (X.2.1 0, 4, .inl sf)) := by rw [hp7, hv_un (by omega)]; exact hL1
    have hV18 : V6 (x + 1 + 2 + 2) = some (.inl (X.2.1 0, 4, .inl sg)) := by rw [hp7, hv_un (by omega)]; exact hL2
    have hV19 : V6 (x + 1 + 2 + 3) = some (.inl (X.2.1 0, 4, .inl sh)) := by rw [hp7, hv_un (by omega)]; exact hL3
    have hV20 : V6 (x + 1 + 6) = some (.inr (1, [.ref (x + 1 + 6 + 1), .ref (x + 1 + 6 + 2), .ref (x + 1 + 6 + 3), .int (nI σ.1.2.2.1.1)])) := by rw [hp7, hv_un (by omega)]; exact hM0
    have hV21 : V6 (x + 1 + 6 + 1) = some (.inl (X.2.1 0, 8, .inl ef)) := by rw [hp7, hv_un (by omega)]; exact hM1
    have hV22 : V6 (x + 1 + 6 + 2) = some (.inl (X.2.1 0, 8, .inl eg)) := by rw [hp7, hv_un (by omega)]; exact hM2
    have hV23 : V6 (x + 1 + 6 + 3) = some (.inl (X.2.1 0, 8, .inl eh)) := by rw [hp7, hv_un (by omega)]; exact hM3
    have hV24 : V6 (x + 1 + 10) = some (.inr (1, [.ref (x + 1 + 10 + 1), .ref (x + 1 + 10 + 2), .ref (x + 1 + 10 + 3), .int (nI σ.1.2.2.2.1)])) := by rw [hp7, hv_un (by omega)]; exact hK0
    have hV25 : V6 (x + 1 + 10 + 1) = some (.inl (X.2.1 0, 8, .inl kf)) := by rw [hp7, hv_un (by omega)]; exact hK1
    have hV26 : V6 (x + 1 + 10 + 2) = some (.inl (X.2.1 0, 8, .inl kg)) := by rw [hp7, hv_un (by omega)]; exact hK2
    have hV27 : V6 (x + 1 + 10 + 3) = some (.inl (X.2.1 0, 8, .inl kh)) := by rw [hp7, hv_un (by omega)]; exact hK3
    have hV28 : V6 (x + 53) = some (.inr (4, [.ref (x + 53 + 1), .int (nI σ.2.2.1.1), .int pl, .int cl, .ref (x + 53 + 2), .ref (x + 53 + 3)])) := by rw [hp7, hv_un (by omega)]; exact hQ0
    have hV29 : V6 (x + 53 + 1) = some (.inl (X.2.1 2, 100, .inl σ.2.2.1.2)) := by rw [hp7, hv_un (by omega)]; exact hQ1
    have hV30 : V6 (x + 60) = some (fE (fx_become 0 1)) := by rw [hp7]; exact hv_us
    refine lv_iconst (v := 0) C0.1 C0.2.1 dX6_mean_22 (by decide) ?_
    refine lv_istore_n (lv' := [(3, .int 0), (2, .int 0), (0, .ref x), (1, .int k9)]) C0.1 C0.2.1 dX6_mean_23 rfl hl (by decide) rfl (fun ls hl => ?_)
    exact loop hb4 6 0 0 _ RF _ _ ls rfl rfl (by rw [hp7] at w; rw [hv_id (V := hv_up V (x + 60) (fE (fx_become 0 1))) (by rw [hv_un (by omega)]; exact hS4)]; exact w) (lv_sub hl [2, 3, 1, 0] rfl)
  · skip
    refine lv_if_ne (tgt := 11) C0.1 C0.2.1 dX6_mean_4 (by decide) (fun h9 => absurd h9 (by decide)) (fun _ => ?_)
    refine lv_ldc2 C0.1 C0.2.1 C0.2.2.2.1 (C0.2.2.2.2.1 _ kk_X6_148) dX6_mean_7 ?_
    exact hv_lret C0 w hr hlk (⟨by rw [sp_mean, if_neg hb4], hX, hv_out.rf⟩) dX6_mean_10

theorem sp_und_le {what kd : Int32} {n : Nat} {f : Nat → Int32} (h : n ≤ 16) : (sp_und what kd n f).2.1 ≤ 16 := by
  unfold sp_und
  split
  · show n - 1 ≤ 16; omega
  · split <;> exact h
theorem okX.tr2 {X : hv_X} {V : hv_V} {x : Nat} {σ : hs_S} (h : okX X V x σ) {kd : Int32} {n : Nat} {f : Nat → Int32} : okX X (hv_up (hv_up V (x + 58) (rE kd n (x + 58 + 1))) (x + 58 + 1) (nE X f)) x σ := by
  obtain ⟨k, -, -, -, -, -, ⟨-, ⟨F, a2⟩, ⟨G, a3⟩, -⟩⟩ := id h
  exact h.scr ⟨kd, n, f, by rw [hv_un (by omega)]; exact hv_us, hv_us⟩ ⟨F, by rw [hv_un (by omega), hv_un (by omega)]; exact a2⟩ ⟨G, by rw [hv_un (by omega), hv_un (by omega)]; exact a3⟩ ((hv_but1 (by omega)).up (by omega)) ((hv_but1 (by omega)).up (by omega))
theorem hv_p2b {V : hv_V} {a b : Nat} {e1 e2 g1 g2 : va_E} (hab : a ≠ b) : hv_up (hv_up (hv_up (hv_up V a e1) b e2) a g1) b g2 = hv_up (hv_up V a g1) b g2 := by
  rw [hv_uc (V := hv_up V a e1) (Ne.symm hab), hv_uu, hv_uu]
set_option maxHeartbeats 4000000 in
set_option maxRecDepth 100000 in
theorem c_X6_after {l : Launch} {X : hv_X} {V : hv_V} {x : Nat} {σ : hs_S} (hX : okX X V x σ) (hB : hs_b σ) {j1 : Nat} {k9 : Int32} (hj1 : j1 < 6) (hrj : sp_in (nI j1) 0 5) (hrk : sp_in k9 0 2) : hv_Mi l X 6 yX6_after cX6_after 4 .int V [.ref x, .int (nI j1), .int k9] (fun y V1 => y = sp_after σ (nI j1) k9 ∧ okX X V1 x σ ∧ hv_out V V1 x (x + 92)) := by
  refine hv_enter (by decide) (Nat.le_of_ble_eq_true rfl) ?_
  intro p e s m below meth c ls C0 hr hlk hnm w hl
  have hl : lv_has ls 4 [(0, .ref x), (1, .int (nI j1)), (2, .int k9)] := hl
  obtain ⟨kk0, hX0, hPg, hKp, hTx, hTp, hSc⟩ := id hX
  obtain ⟨hP0, ⟨rf, hP1, hP2⟩, hP3, hP4, hP5, hP6⟩ := id hPg
  obtain ⟨⟨tf, hT1, hT2⟩, hT3⟩ := id hTp
  obtain ⟨⟨tk, tn, tg, hS1, hS2⟩, ⟨LF, hS3⟩, ⟨RF, hS4⟩, ⟨bf, hS5, hS6⟩, hS7, uf, hS8⟩ := id hSc
  have hbR := hB.1.1
  obtain ⟨sf, sg, sh, hL0, hL1, hL2, hL3, hLa⟩ := id hP4
  obtain ⟨ef, eg, eh, hM0, hM1, hM2, hM3, hMa⟩ := id hP5
  obtain ⟨kf, kg, kh, hK0, hK1, hK2, hK3, hKa⟩ := id hP6
  obtain ⟨pl, cl, wd, vl, hQ0, hQ1, hQ2, hQ3⟩ := id hTx
  have hR_j1 : V (x + 1 + 14 + 2 * j1) = some (rE (σ.1.1.1 j1) (σ.1.1.2.1 j1) (x + 1 + 14 + 2 * j1 + 1)) := (hP3 j1 hj1).1
  have hN_j1 : V (x + 1 + 14 + 2 * j1 + 1) = some (nE X (σ.1.1.2.2 j1)) := (hP3 j1 hj1).2
  have hn_j1 : σ.1.1.2.1 j1 ≤ 16 := (hbR j1 hj1).2.1
  have kj1 : (nI j1).toNatClampNeg = j1 := nI_clamp (by omega)
  have hk8 := hB.1.2.2.1.1
  have loop : ∀ (m9 k : Nat) (T : Int32 × Nat × (Nat → Int32)) (Hq : Heap) (lq : List Loc) (ls : Array Slot), (k + m9 = σ.1.2.2.1.1) → (T.2.1 ≤ 16) → (sp_ev σ (nI j1) m9 k T = sp_aft σ (nI j1)) → hv_w X s (hv_up (hv_up V (x + 58) (rE T.1 T.2.1 (x + 58 + 1))) (x + 58 + 1) (nE X T.2.2)) Hq lq → lv_has ls 4 [(0, .ref x), (1, .int (nI j1)), (2, .int k9), (3, .int (nI k))] → W p l e (hv_rm 6 0 0) s m ([.ref x, .int (nI j1), .int k9] : List Value).toArray below meth c Hq lq 0 0 (MQ below (hv_Qi X (fun y V1 => y = sp_after σ (nI j1) k9 ∧ okX X V1 x σ ∧ hv_out V V1 x (x + 92))) ([.ref x, .int (nI j1), .int k9] : List Value).toArray s 0 0 X.2.2.1) (F0 m 36 ls []) := by
    intro m9
    induction m9 with
    | zero =>
      intro k T Hq lq ls hi hT16 he w hl
      have he : T = sp_aft σ (nI j1) := he
      obtain ⟨V8, e8⟩ : ∃ V8, V8 = hv_up (hv_up V (x + 58) (rE T.1 T.2.1 (x + 58 + 1))) (x + 58 + 1) (nE X T.2.2) := ⟨_, rfl⟩
      rw [← e8] at w
      have hT8 : V8 (x + 58) = some (rE T.1 T.2.1 (x + 58 + 1)) := by rw [e8, hv_un (by omega)]; exact hv_us
      have hG8 : V8 (x + 58 + 1) = some (nE X T.2.2) := by rw [e8]; exact hv_us
      have g8_0 : V8 x = some (.inr (6, [.ref (x + 1), .ref (x + 27), .int kk0, .ref (x + 53), .ref (x + 57), .ref (x + 58), .ref (x + 60), .ref (x + 61), .ref (x + 62), .ref (x + 63)])) := by rw [e8, hv_un (by omega), hv_un (by omega)]; exact hX0
      have g8_1 : V8 (x + 1) = some (.inr (2, [.ref (x + 1 + 1), .ref (x + 1 + 2), .ref (x + 1 + 6), .ref (x + 1 + 10)])) := by rw [e8, hv_un (by omega), hv_un (by omega)]; exact hP0
      have g8_12 : V8 (x + 1 + 6) = some (.inr (1, [.ref (x + 1 + 6 + 1), .ref (x + 1 + 6 + 2), .ref (x + 1 + 6 + 3), .int (nI σ.1.2.2.1.1)])) := by rw [e8, hv_un (by omega), hv_un (by omega)]; exact hM0
      have g8_13 : V8 (x + 1 + 6 + 1) = some (.inl (X.2.1 0, 8, .inl ef)) := by rw [e8, hv_un (by omega), hv_un (by omega)]; exact hM1
      have g8_14 : V8 (x + 1 + 6 + 2) = some (.inl (X.2.1 0, 8, .inl eg)) := by rw [e8, hv_un (by omega), hv_un (by omega)]; exact hM2
      refine lv_iload_n C0.1 C0.2.1 dX6_after_36 rfl (lv_at hl 3 rfl) ?_
      refine lv_aload_n C0.1 C0.2.1 dX6_after_37 rfl (lv_at hl 0 rfl) ?_
      refine gf_X6_12 C0 w g8_0 rfl dX6_after_38 ?_
      refine gf_X6_210 C0 w g8_1 rfl dX6_after_41 ?_
      refine gf_X6_213 C0 w g8_12 rfl dX6_after_44 ?_
      refine lv_icmp_ge (tgt := 91) C0.1 C0.2.1 dX6_after_47 (by decide) (fun c_47 => ?_) (fun c_47 => absurd (nI_le (by omega) (by omega)) c_47)
      refine lv_iload_n C0.1 C0.2.1 dX6_after_91 rfl (lv_at hl 2 rfl) ?_
      refine lv_if_ne (tgt := 103) C0.1 C0.2.1 dX6_after_92 (by decide) (fun c_92 => ?_) (fun c_92 => ?_)
      · skip
        refine lv_iload_n C0.1 C0.2.1 dX6_after_103 rfl (lv_at hl 2 rfl) ?_
        refine lv_iconst (v := 1) C0.1 C0.2.1 dX6_after_104 (by decide) ?_
        refine lv_icmp_ne (tgt := 118) C0.1 C0.2.1 dX6_after_105 (by decide) (fun c_105 => ?_) (fun c_105 => ?_)
        · skip
          refine lv_aload_n C0.1 C0.2.1 dX6_after_118 rfl (lv_at hl 0 rfl) ?_
          refine gf_X6_37 C0 w g8_0 rfl dX6_after_119 ?_
          refine gf_X6_119 C0 w hT8 rfl dX6_after_122 ?_
          exact hv_iret C0 w hr hlk (⟨by rw [sp_after, if_pos ⟨hrj, hrk⟩, if_neg c_92, if_neg c_105, ← he], by rw [e8]; exact hX.tr2, (fun q h7 => by rw [e8, hv_un (by omega), hv_un (by omega)])⟩) dX6_after_125
        · skip
          refine lv_aload_n C0.1 C0.2.1 dX6_after_108 rfl (lv_at hl 0 rfl) ?_
          refine gf_X6_37 C0 w g8_0 rfl dX6_after_109 ?_
          refine hv_cVi C0 w kl_X6_142 kv_X3_flaw rfl hT8 (c_X3_flaw hT8 hG8 (by omega)) (by decide) (by decide) rfl hl.1 rfl (Nat.le_of_ble_eq_true rfl) dX6_after_112 ⟨Nat.le_refl _, Nat.le_refl _⟩ (fun x1 V2 Hq lq hp3 w => ?_)
          obtain ⟨e9, e8⟩ := hp3
          rw [e9] at w; rw [e8]; clear e9 e8
          refine lv_goto (tgt := 125) C0.1 C0.2.1 dX6_after_115 (by decide) ?_
          exact hv_iret C0 w hr hlk (⟨by rw [sp_after, if_pos ⟨hrj, hrk⟩, if_neg c_92, if_pos c_105, ← he], by rw [e8]; exact hX.tr2, (fun q h7 => by rw [e8, hv_un (by omega), hv_un (by omega)])⟩) dX6_after_125
      · skip
        refine lv_aload_n C0.1 C0.2.1 dX6_after_95 rfl (lv_at hl 0 rfl) ?_
        refine gf_X6_37 C0 w g8_0 rfl dX6_after_96 ?_
        refine gf_X6_88 C0 w hT8 rfl dX6_after_99 ?_
        exact hv_iret C0 w hr hlk (⟨by rw [sp_after, if_pos ⟨hrj, hrk⟩, if_pos c_92, ← he], by rw [e8]; exact hX.tr2, (fun q h7 => by rw [e8, hv_un (by omega), hv_un (by omega)])⟩) dX6_after_102
    | succ m9 ih =>
      intro k T Hq lq ls hi hT16 he w hl
      obtain ⟨V8, e8⟩ : ∃ V8, V8 = hv_up (hv_up V (x + 58) (rE T.1 T.2.1 (x + 58 + 1))) (x + 58 + 1) (nE X T.2.2) := ⟨_, rfl⟩
      rw [← e8] at w
      have hT8 : V8 (x + 58) = some (rE T.1 T.2.1 (x + 58 + 1)) := by rw [e8, hv_un (by omega)]; exact hv_us
      have hG8 : V8 (x + 58 + 1) = some (nE X T.2.2) := by rw [e8]; exact hv_us
      have g8_0 : V8 x = some (.inr (6, [.ref (x + 1), .ref (x + 27), .int kk0, .ref (x + 53), .ref (x + 57), .ref (x + 58), .ref (x + 60), .ref (x + 61), .ref (x + 62), .ref (x + 63)])) := by rw [e8, hv_un (by omega), hv_un (by omega)]; exact hX0
      have g8_1 : V8 (x + 1) = some (.inr (2, [.ref (x + 1 + 1), .ref (x + 1 + 2), .ref (x + 1 + 6), .ref (x + 1 + 10)])) := by rw [e8, hv_un (by omega), hv_un (by omega)]; exact hP0
      have g8_12 : V8 (x + 1 + 6) = some (.inr (1, [.ref (x + 1 + 6 + 1), .ref (x + 1 + 6 + 2), .ref (x + 1 + 6 + 3), .int (nI σ.1.2.2.1.1)])) := by rw [e8, hv_un (by omega), hv_un (by omega)]; exact hM0
      have g8_13 : V8 (x + 1 + 6 + 1) = some (.inl (X.2.1 0, 8, .inl ef)) := by rw [e8, hv_un (by omega), hv_un (by omega)]; exact hM1
      have g8_14 : V8 (x + 1 + 6 + 2) = some (.inl (X.2.1 0, 8, .inl eg)) := by rw [e8, hv_un (by omega), hv_un (by omega)]; exact hM2
      refine lv_iload_n C0.1 C0.2.1 dX6_after_36 rfl (lv_at hl 3 rfl) ?_
      refine lv_aload_n C0.1 C0.2.1 dX6_after_37 rfl (lv_at hl 0 rfl) ?_
      refine gf_X6_12 C0 w g8_0 rfl dX6_after_38 ?_
      refine gf_X6_210 C0 w g8_1 rfl dX6_after_41 ?_
      refine gf_X6_213 C0 w g8_12 rfl dX6_after_44 ?_
      refine lv_icmp_ge (tgt := 91) C0.1 C0.2.1 dX6_after_47 (by decide) (fun c_47 => absurd c_47 (nI_ge (by omega) (by omega))) (fun c_47 => ?_)
      refine lv_aload_n C0.1 C0.2.1 dX6_after_50 rfl (lv_at hl 0 rfl) ?_
      refine gf_X6_12 C0 w g8_0 rfl dX6_after_51 ?_
      refine gf_X6_210 C0 w g8_1 rfl dX6_after_54 ?_
      refine gf_X6_214 C0 w g8_12 rfl dX6_after_57 ?_
      refine lv_iload_n C0.1 C0.2.1 dX6_after_60 rfl (lv_at hl 3 rfl) ?_
      refine hv_iald C0 w g8_14 (hn_in (by omega) (by decide)) dX6_after_61 ?_
      have hc1 : (nI k).toNatClampNeg = k := nI_clamp (by omega)
      rw [hc1]
      refine lv_iload_n C0.1 C0.2.1 dX6_after_62 rfl (lv_at hl 1 rfl) ?_
      refine lv_icmp_ne (tgt := 85) C0.1 C0.2.1 dX6_after_63 (by decide) (fun c_63 => ?_) (fun c_63 => ?_)
      · skip
        refine lv_iinc (v := (nI k) + 1) (lv' := [(3, .int ((nI k) + 1)), (0, .ref x), (1, .int (nI j1)), (2, .int k9)]) C0.1 C0.2.1 dX6_after_85 hl (k := 3) rfl rfl (by decide) rfl (fun ls hl => ?_)
        refine lv_goto (tgt := 36) C0.1 C0.2.1 dX6_after_88 (by decide) ?_
        exact ih (k + 1) T _ _ ls (by omega) hT16 (by rw [← he, sp_ev, if_neg (by rw [← (hMa k (by omega)).2.1]; exact c_63)]) (by rw [e8] at w; exact w) (by have h9 := (lv_sub (l' := [(0, .ref x), (1, .int (nI j1)), (2, .int k9), (3, .int (nI k + 1))]) hl [1, 2, 3, 0] rfl); rw [nI_1] at h9; exact h9)
      · skip
        refine lv_aload_n C0.1 C0.2.1 dX6_after_66 rfl (lv_at hl 0 rfl) ?_
        refine gf_X6_37 C0 w g8_0 rfl dX6_after_67 ?_
        refine lv_aload_n C0.1 C0.2.1 dX6_after_70 rfl (lv_at hl 0 rfl) ?_
        refine gf_X6_12 C0 w g8_0 rfl dX6_after_71 ?_
        refine gf_X6_210 C0 w g8_1 rfl dX6_after_74 ?_
        refine gf_X6_217 C0 w g8_12 rfl dX6_after_77 ?_
        refine lv_iload_n C0.1 C0.2.1 dX6_after_80 rfl (lv_at hl 3 rfl) ?_
        refine hv_iald C0 w g8_13 (hn_in (by omega) (by decide)) dX6_after_81 ?_
        have hc2 : (nI k).toNatClampNeg = k := nI_clamp (by omega)
        rw [hc2]
        refine hv_cVv C0 w kl_X6_220 kv_X3_undergo rfl hT8 (c_X3_undergo hT8 hG8 hT16) (by decide) (by decide) rfl hl.1 rfl (Nat.le_of_ble_eq_true rfl) dX6_after_82 ⟨Nat.le_refl _, Nat.le_refl _⟩ (fun V4 Hq lq hp5 w => ?_)
        refine lv_iinc (v := (nI k) + 1) (lv' := [(3, .int ((nI k) + 1)), (0, .ref x), (1, .int (nI j1)), (2, .int k9)]) C0.1 C0.2.1 dX6_after_85 hl (k := 3) rfl rfl (by decide) rfl (fun ls hl => ?_)
        refine lv_goto (tgt := 36) C0.1 C0.2.1 dX6_after_88 (by decide) ?_
        exact ih (k + 1) (sp_und (ef k) T.1 T.2.1 T.2.2) _ _ ls (by omega) (sp_und_le hT16) (by rw [← he, sp_ev, if_pos (by rw [← (hMa k (by omega)).2.1]; exact c_63), (hMa k (by omega)).1]) (by rw [hp5, e8, hv_p2b (by omega)] at w; exact w) (by have h9 := (lv_sub (l' := [(0, .ref x), (1, .int (nI j1)), (2, .int k9), (3, .int (nI k + 1))]) hl [1, 2, 3, 0] rfl); rw [nI_1] at h9; exact h9)
  refine lv_iload_n C0.1 C0.2.1 dX6_after_0 rfl (lv_at hl 1 rfl) ?_
  refine hv_cSi (As := [.int (nI j1)]) C0 w kl_X6_60 ks_X6_isRow (c_X6_isRow) (by decide) (by decide) rfl hl.1 rfl (Nat.le_of_ble_eq_true rfl) dX6_after_1 ⟨Nat.le_refl _, Nat.le_refl _⟩ (fun x1 V2 Hq lq hp3 w => ?_)
  obtain ⟨e9, hz9⟩ := hp3
  rw [e9] at w; clear e9
  obtain ⟨ex9, -⟩ | ⟨-, hno⟩ := hz9
  rotate_left
  · exact absurd hrj hno
  rw [ex9]; clear ex9
  refine lv_if_eq (tgt := 16) C0.1 C0.2.1 dX6_after_4 (by decide) (fun h9 => absurd h9 (by decide)) (fun _ => ?_)
  refine lv_iload_n C0.1 C0.2.1 dX6_after_7 rfl (lv_at hl 2 rfl) ?_
  refine lv_iconst (v := 0) C0.1 C0.2.1 dX6_after_8 (by decide) ?_
  refine lv_iconst (v := 2) C0.1 C0.2.1 dX6_after_9 (by decide) ?_
  refine hv_cSi (As := [.int k9, .int 0, .int 2]) C0 w kl_X6_68 ks_X6_within (c_X6_within) (by decide) (by decide) rfl hl.1 rfl (Nat.le_of_ble_eq_true rfl) dX6_after_10 ⟨Nat.le_refl _, Nat.le_refl _⟩ (fun x4 V5 Hq lq hp6 w => ?_)
  obtain ⟨e9, hz9⟩ := hp6
  rw [e9] at w; clear e9
  obtain ⟨ex9, -⟩ | ⟨-, hno⟩ := hz9
  rotate_left
  · exact absurd hrk hno
  rw [ex9]; clear ex9
  refine lv_if_ne (tgt := 18) C0.1 C0.2.1 dX6_after_13 (by decide) (fun _ => ?_) (fun h9 => absurd h9 (by decide))
  refine lv_aload_n C0.1 C0.2.1 dX6_after_18 rfl (lv_at hl 0 rfl) ?_
  refine gf_X6_37 C0 w hX0 rfl dX6_after_19 ?_
  refine lv_aload_n C0.1 C0.2.1 dX6_after_22 rfl (lv_at hl 0 rfl) ?_
  refine gf_X6_12 C0 w hX0 rfl dX6_after_23 ?_
  refine gf_X6_76 C0 w hP0 rfl dX6_after_26 ?_
  refine lv_iload_n C0.1 C0.2.1 dX6_after_29 rfl (lv_at hl 1 rfl) ?_
  refine hv_aald 3 C0 w rfl hP1 (hn_in hj1 (by decide)) (by rw [kj1]; exact hP2 j1 hj1) dX6_after_30 ?_
  refine hv_cVv C0 w kl_X6_102 kv_X3_becomeAs rfl hS1 (c_X3_becomeAs hS1 hS2 hR_j1 hN_j1 (by omega) (by omega)) (by decide) (by decide) rfl hl.1 rfl (Nat.le_of_ble_eq_true rfl) dX6_after_31 ⟨Nat.le_refl _, Nat.le_refl _⟩ (fun V8 Hq lq hp9 w => ?_)
  have hN9 : V8 (x + 58 + 1) = some (nE X (va_cpy (σ.1.1.2.2 j1) tg 0 0 16)) := by rw [hp9]; exact hv_us
  have w := w.as hN9 (g := (σ.1.1.2.2 j1)) (fun i9 hi9 => by simp [va_cpy, hi9])
  rw [hp9, hv_uu] at w
  obtain ⟨V10, eV11⟩ : ∃ V9, V9 = hv_up (hv_up V (x + 58) (rE (σ.1.1.1 j1) (σ.1.1.2.1 j1) (x + 58 + 1))) (x + 58 + 1) (nE X (σ.1.1.2.2 j1)) := ⟨_, rfl⟩
  have w : hv_w X s V10 Hq lq := by rw [eV11]; exact w
  have hV12 : V10 x = some (.inr (6, [.ref (x + 1), .ref (x + 27), .int kk0, .ref (x + 53), .ref (x + 57), .ref (x + 58), .ref (x + 60), .ref (x + 61), .ref (x + 62), .ref (x + 63)])) := by rw [eV11, hv_un (by omega), hv_un (by omega)]; exact hX0
  have hV13 : V10 (x + 1) = some (.inr (2, [.ref (x + 1 + 1), .ref (x + 1 + 2), .ref (x + 1 + 6), .ref (x + 1 + 10)])) := by rw [eV11, hv_un (by omega), hv_un (by omega)]; exact hP0
  have hV14 : V10 (x + 1 + 1) = some (.inl (X.2.1 3, 6, .inr (.inr (.inr (.inr rf))))) := by rw [eV11, hv_un (by omega), hv_un (by omega)]; exact hP1
  have hV15 : V10 (x + 60) = some (fE LF) := by rw [eV11, hv_un (by omega), hv_un (by omega)]; exact hS3
  have hV16 : V10 (x + 61) = some (fE RF) := by rw [eV11, hv_un (by omega), hv_un (by omega)]; exact hS4
  have hV17 : V10 (x + 1 + 6) = some (.inr (1, [.ref (x + 1 + 6 + 1), .ref (x + 1 + 6 + 2), .ref (x + 1 + 6 + 3), .int (nI σ.1.2.2.1.1)])) := by rw [eV11, hv_un (by omega), hv_un (by omega)]; exact hM0
  have hV18 : V10 (x + 1 + 6 + 1) = some (.inl (X.2.1 0, 8, .inl ef)) := by rw [eV11, hv_un (by omega), hv_un (by omega)]; exact hM1
  have hV19 : V10 (x + 1 + 6 + 2) = some (.inl (X.2.1 0, 8, .inl eg)) := by rw [eV11, hv_un (by omega), hv_un (by omega)]; exact hM2
  have hV20 : V10 (x + 58) = some (rE (σ.1.1.1 j1) (σ.1.1.2.1 j1) (x + 58 + 1)) := by rw [eV11, hv_un (by omega)]; exact hv_us
  have hV21 : V10 (x + 58 + 1) = some (nE X (σ.1.1.2.2 j1)) := by rw [eV11]; exact hv_us
  refine lv_iconst (v := 0) C0.1 C0.2.1 dX6_after_34 (by decide) ?_
  refine lv_istore_n (lv' := [(3, .int 0), (0, .ref x), (1, .int (nI j1)), (2, .int k9)]) C0.1 C0.2.1 dX6_after_35 rfl hl (by decide) rfl (fun ls hl => ?_)
  exact loop σ.1.2.2.1.1 0 (σ.1.1.1 j1, σ.1.1.2.1 j1, σ.1.1.2.2 j1) _ _ ls (by omega) (hbR j1 hj1).2.1 (by rw [sp_aft, kj1]) (by rw [eV11] at w; exact w) (lv_sub hl [1, 2, 3, 0] rfl)

set_option maxHeartbeats 4000000 in
set_option maxRecDepth 100000 in
theorem n_X6_after {l : Launch} {X : hv_X} {V : hv_V} {x : Nat} {σ : hs_S} (hX : okX X V x σ) (hB : hs_b σ) {r k9 : Int32} (hno : ¬ (sp_in r 0 5 ∧ sp_in k9 0 2)) : hv_Mi l X 6 yX6_after cX6_after 4 .int V [.ref x, .int r, .int k9] (fun y V1 => y = sp_after σ r k9 ∧ okX X V1 x σ ∧ hv_out V V1 x (x + 92)) := by
  refine hv_enter (by decide) (Nat.le_of_ble_eq_true rfl) ?_
  intro p e s m below meth c ls C0 hr hlk hnm w hl
  have hl : lv_has ls 4 [(0, .ref x), (1, .int r), (2, .int k9)] := hl
  obtain ⟨kk0, hX0, hPg, hKp, hTx, hTp, hSc⟩ := id hX
  obtain ⟨hP0, ⟨rf, hP1, hP2⟩, hP3, hP4, hP5, hP6⟩ := id hPg
  obtain ⟨⟨tf, hT1, hT2⟩, hT3⟩ := id hTp
  obtain ⟨⟨tk, tn, tg, hS1, hS2⟩, ⟨LF, hS3⟩, ⟨RF, hS4⟩, ⟨bf, hS5, hS6⟩, hS7, uf, hS8⟩ := id hSc
  have hbR := hB.1.1
  obtain ⟨sf, sg, sh, hL0, hL1, hL2, hL3, hLa⟩ := id hP4
  obtain ⟨ef, eg, eh, hM0, hM1, hM2, hM3, hMa⟩ := id hP5
  obtain ⟨kf, kg, kh, hK0, hK1, hK2, hK3, hKa⟩ := id hP6
  obtain ⟨pl, cl, wd, vl, hQ0, hQ1, hQ2, hQ3⟩ := id hTx
  refine lv_iload_n C0.1 C0.2.1 dX6_after_0 rfl (lv_at hl 1 rfl) ?_
  refine hv_cSi (As := [.int r]) C0 w kl_X6_60 ks_X6_isRow (c_X6_isRow) (by decide) (by decide) rfl hl.1 rfl (Nat.le_of_ble_eq_true rfl) dX6_after_1 ⟨Nat.le_refl _, Nat.le_refl _⟩ (fun x1 V2 Hq lq hp3 w => ?_)
  obtain ⟨e9, hz9⟩ := hp3
  rw [e9] at w; clear e9
  rcases hz9 with ⟨rfl, hb4⟩ | ⟨rfl, hb4⟩
  · skip
    have ihb4 := hb4
    obtain ⟨j1, hj1, rfl⟩ := sp_inN (k := 5) (by decide) hb4
    have kj1 : (nI j1).toNatClampNeg = j1 := nI_clamp (by omega)
    have hR_j1 : V (x + 1 + 14 + 2 * j1) = some (rE (σ.1.1.1 j1) (σ.1.1.2.1 j1) (x + 1 + 14 + 2 * j1 + 1)) := (hP3 j1 hj1).1
    have hN_j1 : V (x + 1 + 14 + 2 * j1 + 1) = some (nE X (σ.1.1.2.2 j1)) := (hP3 j1 hj1).2
    have hn_j1 : σ.1.1.2.1 j1 ≤ 16 := (hbR j1 hj1).2.1
    refine lv_if_eq (tgt := 16) C0.1 C0.2.1 dX6_after_4 (by decide) (fun h9 => absurd h9 (by decide)) (fun _ => ?_)
    refine lv_iload_n C0.1 C0.2.1 dX6_after_7 rfl (lv_at hl 2 rfl) ?_
    refine lv_iconst (v := 0) C0.1 C0.2.1 dX6_after_8 (by decide) ?_
    refine lv_iconst (v := 2) C0.1 C0.2.1 dX6_after_9 (by decide) ?_
    refine hv_cSi (As := [.int k9, .int 0, .int 2]) C0 w kl_X6_68 ks_X6_within (c_X6_within) (by decide) (by decide) rfl hl.1 rfl (Nat.le_of_ble_eq_true rfl) dX6_after_10 ⟨Nat.le_refl _, Nat.le_refl _⟩ (fun x5 V6 Hq lq hp7 w => ?_)
    obtain ⟨e9, hz9⟩ := hp7
    rw [e9] at w; clear e9
    rcases hz9 with ⟨rfl, hb8⟩ | ⟨rfl, hb8⟩
    · skip
      refine lv_if_ne (tgt := 18) C0.1 C0.2.1 dX6_after_13 (by decide) (fun _ => ?_) (fun h9 => absurd h9 (by decide))
      exact absurd ⟨ihb4, hb8⟩ hno
    · skip
      refine lv_if_ne (tgt := 18) C0.1 C0.2.1 dX6_after_13 (by decide) (fun h9 => absurd h9 (by decide)) (fun _ => ?_)
      refine lv_iconst (v := -1) C0.1 C0.2.1 dX6_after_16 (by decide) ?_
      exact hv_iret C0 w hr hlk (⟨by rw [sp_after, if_neg hno], hX, hv_out.rf⟩) dX6_after_17
  · skip
    refine lv_if_eq (tgt := 16) C0.1 C0.2.1 dX6_after_4 (by decide) (fun _ => ?_) (fun h9 => absurd h9 (by decide))
    refine lv_iconst (v := -1) C0.1 C0.2.1 dX6_after_16 (by decide) ?_
    exact hv_iret C0 w hr hlk (⟨by rw [sp_after, if_neg hno], hX, hv_out.rf⟩) dX6_after_17

theorem m_X6_after {l : Launch} {X : hv_X} {V : hv_V} {x : Nat} {σ : hs_S} (hX : okX X V x σ) (hB : hs_b σ) {r k9 : Int32} : hv_Mi l X 6 yX6_after cX6_after 4 .int V [.ref x, .int r, .int k9] (fun y V1 => y = sp_after σ r k9 ∧ okX X V1 x σ ∧ hv_out V V1 x (x + 92)) := by
  by_cases h : sp_in r 0 5 ∧ sp_in k9 0 2
  · obtain ⟨h1, h3⟩ := id h
    obtain ⟨j1, hj1, rfl⟩ := sp_inN (k := 5) (by decide) h1
    exact c_X6_after hX hB hj1 h1 h3
  · exact n_X6_after hX hB h
