theorem okX.scr {X : hv_X} {V V1 : hv_V} {x : Nat} {σ : hs_S} (h : okX X V x σ) (h1 : ∃ (kd : Int32) (n : Nat) (f : Nat → Int32), ok_row X V1 (x + 58) kd n f) (h2 : ∃ F : fx_F, V1 (x + 60) = some (fE F)) (h3 : ∃ F : fx_F, V1 (x + 61) = some (fE F)) (b1 : hv_but V V1 x (x + 58)) (b2 : hv_but V V1 (x + 62) (x + 92)) : okX X V1 x σ := by
  obtain ⟨k, g0, g1, g2, g3, g4, g5⟩ := h
  exact ⟨k, (b1 x (by omega) (by omega)).trans g0, g1.fr (b1.sub (by omega) (by omega)), g2.fr (b1.sub (by omega) (by omega)), g3.fr (b1.sub (by omega) (by omega)), g4.fr (b1 _ (by omega) (by omega)) (b2.sub (by omega) (by omega)), g5.gen h1 h2 h3 (b2.sub (by omega) (by omega)) (b2.sub (by omega) (by omega))⟩
theorem okX.left {X : hv_X} {V : hv_V} {x : Nat} {σ : hs_S} (h : okX X V x σ) {F : fx_F} : okX X (hv_up V (x + 60) (fE F)) x σ := by
  obtain ⟨k, -, -, -, -, -, ⟨⟨kd, n, f, a1⟩, -, ⟨G, a3⟩, -⟩⟩ := id h
  exact h.scr ⟨kd, n, f, a1.fr (hv_but1 (by omega))⟩ ⟨F, hv_us⟩ ⟨G, (hv_un (by omega)).trans a3⟩ (hv_but1 (by omega)) (hv_but1 (by omega))
theorem okX.tri {X : hv_X} {V : hv_V} {x : Nat} {σ : hs_S} (h : okX X V x σ) {F : fx_F} {kd : Int32} {n : Nat} {f : Nat → Int32} : okX X (hv_up (hv_up (hv_up V (x + 60) (fE F)) (x + 58) (rE kd n (x + 58 + 1))) (x + 58 + 1) (nE X f)) x σ := by
  obtain ⟨k, -, -, -, -, -, ⟨-, -, ⟨G, a3⟩, -⟩⟩ := id h
  exact h.scr ⟨kd, n, f, by rw [hv_un (by omega)]; exact hv_us, hv_us⟩ ⟨F, by rw [hv_un (by omega), hv_un (by omega)]; exact hv_us⟩ ⟨G, by rw [hv_un (by omega), hv_un (by omega), hv_un (by omega)]; exact a3⟩ (((hv_but1 (by omega)).up (by omega)).up (by omega)) (((hv_but1 (by omega)).up (by omega)).up (by omega))
theorem hv_q3 {V : hv_V} {a b c : Nat} {e1 e2 e3 g1 g3 : va_E} (hab : a ≠ b) (hac : a ≠ c) (hbc : b ≠ c) : hv_up (hv_up (hv_up (hv_up (hv_up V a e1) b e2) c e3) c g3) a g1 = hv_up (hv_up (hv_up V a g1) b e2) c g3 := by
  funext q
  by_cases h1 : q = a
  · subst h1; rw [hv_us, hv_un hac, hv_un hab, hv_us]
  · rw [hv_un h1]
    by_cases h3 : q = c
    · subst h3; rw [hv_us, hv_us]
    · rw [hv_un h3, hv_un h3, hv_un h3]
      by_cases h2 : q = b
      · subst h2; rw [hv_us, hv_us]
      · rw [hv_un h2, hv_un h1, hv_un h2, hv_un h1]
theorem hs_updu (f : Nat → Int32) (i : Nat) (a b : Int32) : upd (upd f i a) i b = upd f i b := by
  funext j
  by_cases h : j = i <;> simp [upd, h]
set_option maxHeartbeats 4000000 in
set_option maxRecDepth 100000 in
theorem c_X6_othersAreAsSeen {l : Launch} {X : hv_X} {V : hv_V} {x : Nat} {σ : hs_S} (hX : okX X V x σ) (hB : hs_b σ) {r : Int32} : hv_Mi l X 5 yX6_othersAreAsSeen cX6_othersAreAsSeen 3 .boolean V [.ref x, .int r] (fun y V1 => hv_B (sp_others σ r = true) y ∧ ∃ F : fx_F, V1 = hv_up V (x + 60) (fE F)) := by
  refine hv_enter (by decide) (Nat.le_of_ble_eq_true rfl) ?_
  intro p e s m below meth c ls C0 hr hlk hnm w hl
  have hl : lv_has ls 3 [(0, .ref x), (1, .int r)] := hl
  obtain ⟨kk0, hX0, hPg, hKp, hTx, hTp, hSc⟩ := id hX
  obtain ⟨hP0, ⟨rf, hP1, hP2⟩, hP3, hP4, hP5, hP6⟩ := id hPg
  obtain ⟨⟨tf, hT1, hT2⟩, hT3⟩ := id hTp
  obtain ⟨⟨tk, tn, tg, hS1, hS2⟩, ⟨LF, hS3⟩, ⟨RF, hS4⟩, ⟨bf, hS5, hS6⟩, hS7, uf, hS8⟩ := id hSc
  have hbR := hB.1.1
  obtain ⟨sf, sg, sh, hL0, hL1, hL2, hL3, hLa⟩ := id hP4
  obtain ⟨ef, eg, eh, hM0, hM1, hM2, hM3, hMa⟩ := id hP5
  obtain ⟨kf, kg, kh, hK0, hK1, hK2, hK3, hKa⟩ := id hP6
  obtain ⟨pl, cl, wd, vl, hQ0, hQ1, hQ2, hQ3⟩ := id hTx
  have loop : ∀ (m9 k : Nat) (F : fx_F) (Hq : Heap) (lq : List Loc) (ls : Array Slot), (k + m9 = 6) → (sp_ot σ r m9 k = sp_others σ r) → hv_w X s (hv_up V (x + 60) (fE F)) Hq lq → lv_has ls 3 [(0, .ref x), (1, .int r), (2, .int (nI k))] → W p l e (hv_rm 5 0 0) s m ([.ref x, .int r] : List Value).toArray below meth c Hq lq 0 0 (MQ below (hv_Qi X (fun y V1 => hv_B (sp_others σ r = true) y ∧ ∃ F : fx_F, V1 = hv_up V (x + 60) (fE F))) ([.ref x, .int r] : List Value).toArray s 0 0 X.2.2.1) (F0 m 2 ls []) := by
    intro m9
    induction m9 with
    | zero =>
      intro k F Hq lq ls hi he w hl
      have he : true = sp_others σ r := he
      obtain ⟨V8, e8⟩ : ∃ V8, V8 = hv_up V (x + 60) (fE F) := ⟨_, rfl⟩
      rw [← e8] at w
      have hO8 : V8 (x + 60) = some (fE F) := by rw [e8]; exact hv_us
      have g8_0 : V8 x = some (.inr (6, [.ref (x + 1), .ref (x + 27), .int kk0, .ref (x + 53), .ref (x + 57), .ref (x + 58), .ref (x + 60), .ref (x + 61), .ref (x + 62), .ref (x + 63)])) := by rw [e8, hv_un (by omega)]; exact hX0
      have g8_1 : V8 (x + 1) = some (.inr (2, [.ref (x + 1 + 1), .ref (x + 1 + 2), .ref (x + 1 + 6), .ref (x + 1 + 10)])) := by rw [e8, hv_un (by omega)]; exact hP0
      have g8_2 : V8 (x + 1 + 1) = some (.inl (X.2.1 3, 6, .inr (.inr (.inr (.inr rf))))) := by rw [e8, hv_un (by omega)]; exact hP1
      refine lv_iload_n C0.1 C0.2.1 dX6_othersAreAsSeen_2 rfl (lv_at hl 2 rfl) ?_
      refine lv_bipush (v := 6) C0.1 C0.2.1 dX6_othersAreAsSeen_3 (by decide) ?_
      refine lv_icmp_ge (tgt := 61) C0.1 C0.2.1 dX6_othersAreAsSeen_5 (by decide) (fun c_5 => ?_) (fun c_5 => absurd (show nI 6 ≤ nI k from nI_le (by omega) (by omega)) c_5)
      refine lv_iconst (v := 1) C0.1 C0.2.1 dX6_othersAreAsSeen_61 (by decide) ?_
      exact hv_zret C0 w hr hlk (by decide) (⟨Or.inl ⟨rfl, he.symm⟩, F, e8⟩) dX6_othersAreAsSeen_62
    | succ m9 ih =>
      intro k F Hq lq ls hi he w hl
      obtain ⟨V8, e8⟩ : ∃ V8, V8 = hv_up V (x + 60) (fE F) := ⟨_, rfl⟩
      rw [← e8] at w
      have hO8 : V8 (x + 60) = some (fE F) := by rw [e8]; exact hv_us
      have g8_0 : V8 x = some (.inr (6, [.ref (x + 1), .ref (x + 27), .int kk0, .ref (x + 53), .ref (x + 57), .ref (x + 58), .ref (x + 60), .ref (x + 61), .ref (x + 62), .ref (x + 63)])) := by rw [e8, hv_un (by omega)]; exact hX0
      have g8_1 : V8 (x + 1) = some (.inr (2, [.ref (x + 1 + 1), .ref (x + 1 + 2), .ref (x + 1 + 6), .ref (x + 1 + 10)])) := by rw [e8, hv_un (by omega)]; exact hP0
      have g8_2 : V8 (x + 1 + 1) = some (.inl (X.2.1 3, 6, .inr (.inr (.inr (.inr rf))))) := by rw [e8, hv_un (by omega)]; exact hP1
      have hR8 : V8 (x + 1 + 14 + 2 * k) = some (rE (σ.1.1.1 k) (σ.1.1.2.1 k) (x + 1 + 14 + 2 * k + 1)) := by rw [e8, hv_un (by omega)]; exact (hP3 k (by omega)).1
      have hN8 : V8 (x + 1 + 14 + 2 * k + 1) = some (nE X (σ.1.1.2.2 k)) := by rw [e8, hv_un (by omega)]; exact (hP3 k (by omega)).2
      have hn8 : σ.1.1.2.1 k ≤ 16 := (hbR k (by omega)).2.1
      refine lv_iload_n C0.1 C0.2.1 dX6_othersAreAsSeen_2 rfl (lv_at hl 2 rfl) ?_
      refine lv_bipush (v := 6) C0.1 C0.2.1 dX6_othersAreAsSeen_3 (by decide) ?_
      refine lv_icmp_ge (tgt := 61) C0.1 C0.2.1 dX6_othersAreAsSeen_5 (by decide) (fun c_5 => absurd c_5 (show ¬ nI 6 ≤ nI k from nI_ge (by omega) (by omega))) (fun c_5 => ?_)
      refine lv_iload_n C0.1 C0.2.1 dX6_othersAreAsSeen_8 rfl (lv_at hl 2 rfl) ?_
      refine lv_iload_n C0.1 C0.2.1 dX6_othersAreAsSeen_9 rfl (lv_at hl 1 rfl) ?_
      refine lv_icmp_eq (tgt := 55) C0.1 C0.2.1 dX6_othersAreAsSeen_10 (by decide) (fun c_10 => ?_) (fun c_10 => ?_)
      · skip
        refine lv_iinc (v := (nI k) + 1) (lv' := [(2, .int ((nI k) + 1)), (0, .ref x), (1, .int r)]) C0.1 C0.2.1 dX6_othersAreAsSeen_55 hl (k := 2) rfl rfl (by decide) rfl (fun ls hl => ?_)
        refine lv_goto (tgt := 2) C0.1 C0.2.1 dX6_othersAreAsSeen_58 (by decide) ?_
        exact ih (k + 1) F _ _ ls (by omega) (by rw [← he, sp_ot, if_pos c_10]) (by rw [e8] at w; exact w) (by have h9 := (lv_sub (l' := [(0, .ref x), (1, .int r), (2, .int (nI k + 1))]) hl [1, 2, 0] rfl); rw [nI_1] at h9; exact h9)
      · skip
        refine lv_aload_n C0.1 C0.2.1 dX6_othersAreAsSeen_13 rfl (lv_at hl 0 rfl) ?_
        refine gf_X6_12 C0 w g8_0 rfl dX6_othersAreAsSeen_14 ?_
        refine gf_X6_76 C0 w g8_1 rfl dX6_othersAreAsSeen_17 ?_
        refine lv_iload_n C0.1 C0.2.1 dX6_othersAreAsSeen_20 rfl (lv_at hl 2 rfl) ?_
        refine hv_aald 3 C0 w rfl g8_2 (hn_in (by omega) (by decide)) (by rw [nI_clamp (by omega)]; exact hP2 k (by omega)) dX6_othersAreAsSeen_21 ?_
        refine lv_aload_n C0.1 C0.2.1 dX6_othersAreAsSeen_22 rfl (lv_at hl 0 rfl) ?_
        refine gf_X6_12 C0 w g8_0 rfl dX6_othersAreAsSeen_23 ?_
        refine gf_X6_76 C0 w g8_1 rfl dX6_othersAreAsSeen_26 ?_
        refine lv_iload_n C0.1 C0.2.1 dX6_othersAreAsSeen_29 rfl (lv_at hl 2 rfl) ?_
        refine hv_aald 3 C0 w rfl g8_2 (hn_in (by omega) (by decide)) (by rw [nI_clamp (by omega)]; exact hP2 k (by omega)) dX6_othersAreAsSeen_30 ?_
        refine gf_X6_88 C0 w hR8 rfl dX6_othersAreAsSeen_31 ?_
        refine lv_aload_n C0.1 C0.2.1 dX6_othersAreAsSeen_34 rfl (lv_at hl 0 rfl) ?_
        refine gf_X6_44 C0 w g8_0 rfl dX6_othersAreAsSeen_35 ?_
        refine hv_cVv C0 w kl_X6_106 kv_X3_reckon rfl hR8 (c_X3_reckon (k := σ.1.1.2.1 k) hR8 hN8 hO8 (by omega) (by omega)) (by decide) (by decide) rfl hl.1 rfl (Nat.le_of_ble_eq_true rfl) dX6_othersAreAsSeen_38 ⟨Nat.le_refl _, Nat.le_refl _⟩ (fun V2 Hq lq hp3 w => ?_)
        have hV4 : V2 x = some (.inr (6, [.ref (x + 1), .ref (x + 27), .int kk0, .ref (x + 53), .ref (x + 57), .ref (x + 58), .ref (x + 60), .ref (x + 61), .ref (x + 62), .ref (x + 63)])) := by rw [hp3, hv_un (by omega)]; exact g8_0
        have hV5 : V2 (x + 1) = some (.inr (2, [.ref (x + 1 + 1), .ref (x + 1 + 2), .ref (x + 1 + 6), .ref (x + 1 + 10)])) := by rw [hp3, hv_un (by omega)]; exact g8_1
        have hV6 : V2 (x + 1 + 1) = some (.inl (X.2.1 3, 6, .inr (.inr (.inr (.inr rf))))) := by rw [hp3, hv_un (by omega)]; exact g8_2
        have hV8 : V2 (x + 1 + 14 + 2 * k) = some (rE (σ.1.1.1 k) (σ.1.1.2.1 k) (x + 1 + 14 + 2 * k + 1)) := by rw [hp3, hv_un (by omega)]; exact hR8
        have hV9 : V2 (x + 1 + 14 + 2 * k + 1) = some (nE X (σ.1.1.2.2 k)) := by rw [hp3, hv_un (by omega)]; exact hN8
        have hV10 : V2 (x + 60) = some (fE (fx_reckon (σ.1.1.1 k) (σ.1.1.2.2 k) (σ.1.1.2.1 k))) := by rw [hp3]; exact hv_us
        have hX9 : okX X V2 x σ := by rw [hp3, e8, hv_uu]; exact hX.left
        refine lv_aload_n C0.1 C0.2.1 dX6_othersAreAsSeen_41 rfl (lv_at hl 0 rfl) ?_
        refine lv_iload_n C0.1 C0.2.1 dX6_othersAreAsSeen_42 rfl (lv_at hl 2 rfl) ?_
        refine lv_aload_n C0.1 C0.2.1 dX6_othersAreAsSeen_43 rfl (lv_at hl 0 rfl) ?_
        refine gf_X6_44 C0 w hV4 rfl dX6_othersAreAsSeen_44 ?_
        refine hv_cVi C0 w kl_X6_188 kv_X6_isAsSeen rfl hV4 (c_X6_isAsSeen hX9 hB hV10) (by decide) (by decide) rfl hl.1 rfl (Nat.le_of_ble_eq_true rfl) dX6_othersAreAsSeen_47 ⟨Nat.le_refl _, Nat.le_refl _⟩ (fun x11 V12 Hq lq hp13 w => ?_)
        obtain ⟨e9, hz9⟩ := hp13
        rw [e9] at w; clear e9
        rcases hz9 with ⟨rfl, hb14⟩ | ⟨rfl, hb14⟩
        · skip
          refine lv_if_ne (tgt := 55) C0.1 C0.2.1 dX6_othersAreAsSeen_50 (by decide) (fun _ => ?_) (fun h9 => absurd h9 (by decide))
          refine lv_iinc (v := (nI k) + 1) (lv' := [(2, .int ((nI k) + 1)), (0, .ref x), (1, .int r)]) C0.1 C0.2.1 dX6_othersAreAsSeen_55 hl (k := 2) rfl rfl (by decide) rfl (fun ls hl => ?_)
          refine lv_goto (tgt := 2) C0.1 C0.2.1 dX6_othersAreAsSeen_58 (by decide) ?_
          exact ih (k + 1) _ _ _ ls (by omega) (by rw [← he, sp_ot, if_neg c_10, if_pos hb14]) (by rw [hp3, e8, hv_uu] at w; exact w) (by have h9 := (lv_sub (l' := [(0, .ref x), (1, .int r), (2, .int (nI k + 1))]) hl [1, 2, 0] rfl); rw [nI_1] at h9; exact h9)
        · skip
          refine lv_if_ne (tgt := 55) C0.1 C0.2.1 dX6_othersAreAsSeen_50 (by decide) (fun h9 => absurd h9 (by decide)) (fun _ => ?_)
          refine lv_iconst (v := 0) C0.1 C0.2.1 dX6_othersAreAsSeen_53 (by decide) ?_
          exact hv_zret C0 w hr hlk (by decide) (⟨Or.inr ⟨rfl, by rw [← he, sp_ot, if_neg c_10, if_neg hb14]; decide⟩, _, by rw [hp3, e8, hv_uu]⟩) dX6_othersAreAsSeen_54
  refine lv_iconst (v := 0) C0.1 C0.2.1 dX6_othersAreAsSeen_0 (by decide) ?_
  refine lv_istore_n (lv' := [(2, .int 0), (0, .ref x), (1, .int r)]) C0.1 C0.2.1 dX6_othersAreAsSeen_1 rfl hl (by decide) rfl (fun ls hl => ?_)
  exact loop 6 0 LF _ _ ls rfl rfl (by rw [hv_id hS3]; exact w) (lv_sub hl [1, 2, 0] rfl)

set_option maxHeartbeats 4000000 in
set_option maxRecDepth 100000 in
theorem c_X6_fits {l : Launch} {X : hv_X} {V : hv_V} {x : Nat} {σ : hs_S} (hX : okX X V x σ) (hB : hs_b σ) {j1 i1 : Nat} {k9 : Int32} (hj1 : j1 < 6) (hi1 : i1 < 16) (hrj : sp_in (nI j1) 0 5) (hri : sp_in (nI i1) 0 (nI (σ.1.1.2.1 j1) - 1)) (hrk : sp_in k9 0 1) : hv_Mi l X 6 yX6_fits cX6_fits 7 .int V [.ref x, .int (nI j1), .int (nI i1), .int k9] (fun y V1 => y = sp_fits σ (nI j1) (nI i1) k9 ∧ okX X V1 x σ ∧ hv_out V V1 x (x + 92)) := by
  refine hv_enter (by decide) (Nat.le_of_ble_eq_true rfl) ?_
  intro p e s m below meth c ls C0 hr hlk hnm w hl
  have hl : lv_has ls 7 [(0, .ref x), (1, .int (nI j1)), (2, .int (nI i1)), (3, .int k9)] := hl
  obtain ⟨kk0, hX0, hPg, hKp, hTx, hTp, hSc⟩ := id hX
  obtain ⟨hP0, ⟨rf, hP1, hP2⟩, hP3, hP4, hP5, hP6⟩ := id hPg
  obtain ⟨⟨tf, hT1, hT2⟩, hT3⟩ := id hTp
  obtain ⟨⟨tk, tn, tg, hS1, hS2⟩, ⟨LF, hS3⟩, ⟨RF, hS4⟩, ⟨bf, hS5, hS6⟩, hS7, uf, hS8⟩ := id hSc
  have hbR := hB.1.1
  obtain ⟨sf, sg, sh, hL0, hL1, hL2, hL3, hLa⟩ := id hP4
  obtain ⟨ef, eg, eh, hM0, hM1, hM2, hM3, hMa⟩ := id hP5
  obtain ⟨kf, kg, kh, hK0, hK1, hK2, hK3, hKa⟩ := id hP6
  obtain ⟨pl, cl, wd, vl, hQ0, hQ1, hQ2, hQ3⟩ := id hTx
  have hR_j1 : V (x + 1 + 14 + 2 * j1) = some (rE (σ.1.1.1 j1) (σ.1.1.2.1 j1) (x + 1 + 14 + 2 * j1 + 1)) := (hP3 j1 hj1).1
  have hN_j1 : V (x + 1 + 14 + 2 * j1 + 1) = some (nE X (σ.1.1.2.2 j1)) := (hP3 j1 hj1).2
  have hn_j1 : σ.1.1.2.1 j1 ≤ 16 := (hbR j1 hj1).2.1
  have kj1 : (nI j1).toNatClampNeg = j1 := nI_clamp (by omega)
  have ki1 : (nI i1).toNatClampNeg = i1 := nI_clamp (by omega)
  have loop : ∀ (hres : sp_fits σ (nI j1) (nI i1) k9 = if k9 = 0 then (sp_ft σ j1 i1 100 0 (-5)).1 else (sp_ft σ j1 i1 100 0 (-5)).2) (v9 : Nat) (c9 a9 : Int32) (F : fx_F) (g : Nat → Int32) (Hq : Heap) (lq : List Loc) (ls : Array Slot), (v9 ≤ 100) → (∀ z9, upd g i1 z9 = upd (σ.1.1.2.2 j1) i1 z9) → (sp_ft σ j1 i1 v9 c9 a9 = sp_ft σ j1 i1 100 0 (-5)) → hv_w X s (hv_up (hv_up (hv_up V (x + 60) (fE F)) (x + 58) (rE (σ.1.1.1 j1) (σ.1.1.2.1 j1) (x + 58 + 1))) (x + 58 + 1) (nE X g)) Hq lq → lv_has ls 7 [(0, .ref x), (1, .int (nI j1)), (2, .int (nI i1)), (3, .int k9), (4, .int c9), (5, .int a9), (6, .int (nI v9 - 1))] → W p l e (hv_rm 6 0 0) s m ([.ref x, .int (nI j1), .int (nI i1), .int k9] : List Value).toArray below meth c Hq lq 0 0 (MQ below (hv_Qi X (fun y V1 => y = sp_fits σ (nI j1) (nI i1) k9 ∧ okX X V1 x σ ∧ hv_out V V1 x (x + 92))) ([.ref x, .int (nI j1), .int (nI i1), .int k9] : List Value).toArray s 0 0 X.2.2.1) (F0 m 86 ls []) := by
    intro hres v9
    induction v9 with
    | zero =>
      intro c9 a9 F g Hq lq ls hi hg he w hl
      have he : (c9, a9) = sp_ft σ j1 i1 100 0 (-5) := he
      obtain ⟨V8, e8⟩ : ∃ V8, V8 = hv_up (hv_up (hv_up V (x + 60) (fE F)) (x + 58) (rE (σ.1.1.1 j1) (σ.1.1.2.1 j1) (x + 58 + 1))) (x + 58 + 1) (nE X g) := ⟨_, rfl⟩
      rw [← e8] at w
      have hO8 : V8 (x + 60) = some (fE F) := by rw [e8, hv_un (by omega), hv_un (by omega)]; exact hv_us
      have hT8 : V8 (x + 58) = some (rE (σ.1.1.1 j1) (σ.1.1.2.1 j1) (x + 58 + 1)) := by rw [e8, hv_un (by omega)]; exact hv_us
      have hG8 : V8 (x + 58 + 1) = some (nE X g) := by rw [e8]; exact hv_us
      have g8_0 : V8 x = some (.inr (6, [.ref (x + 1), .ref (x + 27), .int kk0, .ref (x + 53), .ref (x + 57), .ref (x + 58), .ref (x + 60), .ref (x + 61), .ref (x + 62), .ref (x + 63)])) := by rw [e8, hv_un (by omega), hv_un (by omega), hv_un (by omega)]; exact hX0
      have g8_1 : V8 (x + 1) = some (.inr (2, [.ref (x + 1 + 1), .ref (x + 1 + 2), .ref (x + 1 + 6), .ref (x + 1 + 10)])) := by rw [e8, hv_un (by omega), hv_un (by omega), hv_un (by omega)]; exact hP0
      have g8_2 : V8 (x + 1 + 1) = some (.inl (X.2.1 3, 6, .inr (.inr (.inr (.inr rf))))) := by rw [e8, hv_un (by omega), hv_un (by omega), hv_un (by omega)]; exact hP1
      have g8_5 : V8 (x + 61) = some (fE RF) := by rw [e8, hv_un (by omega), hv_un (by omega), hv_un (by omega)]; exact hS4
      refine lv_iload C0.1 C0.2.1 dX6_fits_86 (lv_at hl 6 rfl) ?_
      refine lv_if_lt (tgt := 145) C0.1 C0.2.1 dX6_fits_88 (by decide) (fun c_88 => ?_) (fun c_88 => absurd (by decide) c_88)
      refine lv_iload_n C0.1 C0.2.1 dX6_fits_145 rfl (lv_at hl 3 rfl) ?_
      refine lv_if_ne (tgt := 154) C0.1 C0.2.1 dX6_fits_146 (by decide) (fun c_146 => ?_) (fun c_146 => ?_)
      · skip
        refine lv_iload C0.1 C0.2.1 dX6_fits_154 (lv_at hl 5 rfl) ?_
        exact hv_iret C0 w hr hlk (⟨by rw [hres, if_neg c_146, ← he], by rw [e8]; exact hX.tri, (fun q h7 => by rw [e8, hv_un (by omega), hv_un (by omega), hv_un (by omega)])⟩) dX6_fits_156
      · skip
        refine lv_iload C0.1 C0.2.1 dX6_fits_149 (lv_at hl 4 rfl) ?_
        refine lv_goto (tgt := 156) C0.1 C0.2.1 dX6_fits_151 (by decide) ?_
        exact hv_iret C0 w hr hlk (⟨by rw [hres, if_pos c_146, ← he], by rw [e8]; exact hX.tri, (fun q h7 => by rw [e8, hv_un (by omega), hv_un (by omega), hv_un (by omega)])⟩) dX6_fits_156
    | succ v9 ih =>
      intro c9 a9 F g Hq lq ls hi hg he w hl
      rw [nI_pred] at hl
      obtain ⟨V8, e8⟩ : ∃ V8, V8 = hv_up (hv_up (hv_up V (x + 60) (fE F)) (x + 58) (rE (σ.1.1.1 j1) (σ.1.1.2.1 j1) (x + 58 + 1))) (x + 58 + 1) (nE X g) := ⟨_, rfl⟩
      rw [← e8] at w
      have hO8 : V8 (x + 60) = some (fE F) := by rw [e8, hv_un (by omega), hv_un (by omega)]; exact hv_us
      have hT8 : V8 (x + 58) = some (rE (σ.1.1.1 j1) (σ.1.1.2.1 j1) (x + 58 + 1)) := by rw [e8, hv_un (by omega)]; exact hv_us
      have hG8 : V8 (x + 58 + 1) = some (nE X g) := by rw [e8]; exact hv_us
      have g8_0 : V8 x = some (.inr (6, [.ref (x + 1), .ref (x + 27), .int kk0, .ref (x + 53), .ref (x + 57), .ref (x + 58), .ref (x + 60), .ref (x + 61), .ref (x + 62), .ref (x + 63)])) := by rw [e8, hv_un (by omega), hv_un (by omega), hv_un (by omega)]; exact hX0
      have g8_1 : V8 (x + 1) = some (.inr (2, [.ref (x + 1 + 1), .ref (x + 1 + 2), .ref (x + 1 + 6), .ref (x + 1 + 10)])) := by rw [e8, hv_un (by omega), hv_un (by omega), hv_un (by omega)]; exact hP0
      have g8_2 : V8 (x + 1 + 1) = some (.inl (X.2.1 3, 6, .inr (.inr (.inr (.inr rf))))) := by rw [e8, hv_un (by omega), hv_un (by omega), hv_un (by omega)]; exact hP1
      have g8_5 : V8 (x + 61) = some (fE RF) := by rw [e8, hv_un (by omega), hv_un (by omega), hv_un (by omega)]; exact hS4
      refine lv_iload C0.1 C0.2.1 dX6_fits_86 (lv_at hl 6 rfl) ?_
      refine lv_if_lt (tgt := 145) C0.1 C0.2.1 dX6_fits_88 (by decide) (fun c_88 => absurd c_88 (nI_pos (by omega))) (fun c_88 => ?_)
      refine lv_aload_n C0.1 C0.2.1 dX6_fits_91 rfl (lv_at hl 0 rfl) ?_
      refine gf_X6_37 C0 w g8_0 rfl dX6_fits_92 ?_
      refine gf_X6_139 C0 w hT8 rfl dX6_fits_95 ?_
      refine lv_iload_n C0.1 C0.2.1 dX6_fits_98 rfl (lv_at hl 2 rfl) ?_
      refine lv_iload C0.1 C0.2.1 dX6_fits_99 (lv_at hl 6 rfl) ?_
      refine hv_iast C0 w hG8 (hn_in (by omega) (by decide)) dX6_fits_101 (fun Hq lq w => ?_)
      have hc1 : (nI i1).toNatClampNeg = i1 := nI_clamp (by omega)
      rw [hc1] at w
      obtain ⟨V2, eV3⟩ : ∃ V9, V9 = hv_up V8 (x + 58 + 1) (.inl (X.2.1 0, 16, .inl (upd g i1 (nI v9)))) := ⟨_, rfl⟩
      have w : hv_w X s V2 Hq lq := by rw [eV3]; exact w
      have hV4 : V2 x = some (.inr (6, [.ref (x + 1), .ref (x + 27), .int kk0, .ref (x + 53), .ref (x + 57), .ref (x + 58), .ref (x + 60), .ref (x + 61), .ref (x + 62), .ref (x + 63)])) := by rw [eV3, hv_un (by omega)]; exact g8_0
      have hV5 : V2 (x + 1) = some (.inr (2, [.ref (x + 1 + 1), .ref (x + 1 + 2), .ref (x + 1 + 6), .ref (x + 1 + 10)])) := by rw [eV3, hv_un (by omega)]; exact g8_1
      have hV6 : V2 (x + 1 + 1) = some (.inl (X.2.1 3, 6, .inr (.inr (.inr (.inr rf))))) := by rw [eV3, hv_un (by omega)]; exact g8_2
      have hV7 : V2 (x + 61) = some (fE RF) := by rw [eV3, hv_un (by omega)]; exact g8_5
      have hV8 : V2 (x + 60) = some (fE F) := by rw [eV3, hv_un (by omega)]; exact hO8
      have hV9 : V2 (x + 58) = some (rE (σ.1.1.1 j1) (σ.1.1.2.1 j1) (x + 58 + 1)) := by rw [eV3, hv_un (by omega)]; exact hT8
      have hV11 : V2 (x + 58 + 1) = some (.inl (X.2.1 0, 16, .inl (upd g i1 (nI v9)))) := by rw [eV3]; exact hv_us
      rw [hg] at eV3
      have hV12 : V2 (x + 58 + 1) = some (nE X (upd (σ.1.1.2.2 j1) i1 (nI v9))) := by rw [eV3]; exact hv_us
      refine lv_aload_n C0.1 C0.2.1 dX6_fits_102 rfl (lv_at hl 0 rfl) ?_
      refine gf_X6_37 C0 w hV4 rfl dX6_fits_103 ?_
      refine lv_aload_n C0.1 C0.2.1 dX6_fits_106 rfl (lv_at hl 0 rfl) ?_
      refine gf_X6_37 C0 w hV4 rfl dX6_fits_107 ?_
      refine gf_X6_88 C0 w hV9 rfl dX6_fits_110 ?_
      refine lv_aload_n C0.1 C0.2.1 dX6_fits_113 rfl (lv_at hl 0 rfl) ?_
      refine gf_X6_44 C0 w hV4 rfl dX6_fits_114 ?_
      refine hv_cVv C0 w kl_X6_106 kv_X3_reckon rfl hV9 (c_X3_reckon (k := σ.1.1.2.1 j1) hV9 hV12 hV8 (by omega) (by omega)) (by decide) (by decide) rfl hl.1 rfl (Nat.le_of_ble_eq_true rfl) dX6_fits_117 ⟨Nat.le_refl _, Nat.le_refl _⟩ (fun V14 Hq lq hp15 w => ?_)
      have hV16 : V14 x = some (.inr (6, [.ref (x + 1), .ref (x + 27), .int kk0, .ref (x + 53), .ref (x + 57), .ref (x + 58), .ref (x + 60), .ref (x + 61), .ref (x + 62), .ref (x + 63)])) := by rw [hp15, hv_un (by omega)]; exact hV4
      have hV17 : V14 (x + 1) = some (.inr (2, [.ref (x + 1 + 1), .ref (x + 1 + 2), .ref (x + 1 + 6), .ref (x + 1 + 10)])) := by rw [hp15, hv_un (by omega)]; exact hV5
      have hV18 : V14 (x + 1 + 1) = some (.inl (X.2.1 3, 6, .inr (.inr (.inr (.inr rf))))) := by rw [hp15, hv_un (by omega)]; exact hV6
      have hV19 : V14 (x + 61) = some (fE RF) := by rw [hp15, hv_un (by omega)]; exact hV7
      have hV21 : V14 (x + 58) = some (rE (σ.1.1.1 j1) (σ.1.1.2.1 j1) (x + 58 + 1)) := by rw [hp15, hv_un (by omega)]; exact hV9
      have hV22 : V14 (x + 58 + 1) = some (nE X (upd (σ.1.1.2.2 j1) i1 (nI v9))) := by rw [hp15, hv_un (by omega)]; exact hV12
      have hV23 : V14 (x + 60) = some (fE (fx_reckon (σ.1.1.1 j1) (upd (σ.1.1.2.2 j1) i1 (nI v9)) (σ.1.1.2.1 j1))) := by rw [hp15]; exact hv_us
      have hX9 : okX X V14 x σ := by rw [hp15, eV3, e8, hv_q3 (by omega) (by omega) (by omega)]; exact hX.tri
      refine lv_aload_n C0.1 C0.2.1 dX6_fits_120 rfl (lv_at hl 0 rfl) ?_
      refine lv_iload_n C0.1 C0.2.1 dX6_fits_121 rfl (lv_at hl 1 rfl) ?_
      refine lv_aload_n C0.1 C0.2.1 dX6_fits_122 rfl (lv_at hl 0 rfl) ?_
      refine gf_X6_44 C0 w hV16 rfl dX6_fits_123 ?_
      refine hv_cVi C0 w kl_X6_188 kv_X6_isAsSeen rfl hV16 (c_X6_isAsSeen hX9 hB hV23) (by decide) (by decide) rfl hl.1 rfl (Nat.le_of_ble_eq_true rfl) dX6_fits_126 ⟨Nat.le_refl _, Nat.le_refl _⟩ (fun x24 V25 Hq lq hp26 w => ?_)
      obtain ⟨e9, hz9⟩ := hp26
      rw [e9] at w; clear e9
      rcases hz9 with ⟨rfl, hb27⟩ | ⟨rfl, hb27⟩
      · skip
        refine lv_if_eq (tgt := 139) C0.1 C0.2.1 dX6_fits_129 (by decide) (fun h9 => absurd h9 (by decide)) (fun _ => ?_)
        refine lv_iinc (v := c9 + 1) (lv' := [(4, .int (c9 + 1)), (0, .ref x), (1, .int (nI j1)), (2, .int (nI i1)), (3, .int k9), (5, .int a9), (6, .int (nI v9))]) C0.1 C0.2.1 dX6_fits_132 hl (k := 4) rfl rfl (by decide) rfl (fun ls hl => ?_)
        refine lv_iload C0.1 C0.2.1 dX6_fits_135 (lv_at hl 6 rfl) ?_
        refine lv_istore (lv' := [(5, .int (nI v9)), (4, .int (c9 + 1)), (0, .ref x), (1, .int (nI j1)), (2, .int (nI i1)), (3, .int k9), (6, .int (nI v9))]) C0.1 C0.2.1 dX6_fits_137 hl (by decide) rfl (fun ls hl => ?_)
        refine lv_iinc (v := (nI v9) + (-1)) (lv' := [(6, .int ((nI v9) + (-1))), (5, .int (nI v9)), (4, .int (c9 + 1)), (0, .ref x), (1, .int (nI j1)), (2, .int (nI i1)), (3, .int k9)]) C0.1 C0.2.1 dX6_fits_139 hl (k := 6) rfl rfl (by decide) rfl (fun ls hl => ?_)
        refine lv_goto (tgt := 86) C0.1 C0.2.1 dX6_fits_142 (by decide) ?_
        exact ih _ _ _ _ _ _ ls (by omega) (by intro z9; rw [hs_updu]) (by rw [← he, sp_ft, if_pos hb27]) (by rw [hp15, eV3, e8, hv_q3 (by omega) (by omega) (by omega)] at w; exact w) (by have h9 := (lv_sub (l' := [(0, .ref x), (1, .int (nI j1)), (2, .int (nI i1)), (3, .int k9), (4, .int (c9 + 1)), (5, .int (nI v9)), (6, .int (nI v9 + (-1)))]) hl [3, 4, 5, 6, 2, 1, 0] rfl); rw [hn_dec] at h9; exact h9)
      · skip
        refine lv_if_eq (tgt := 139) C0.1 C0.2.1 dX6_fits_129 (by decide) (fun _ => ?_) (fun h9 => absurd h9 (by decide))
        refine lv_iinc (v := (nI v9) + (-1)) (lv' := [(6, .int ((nI v9) + (-1))), (0, .ref x), (1, .int (nI j1)), (2, .int (nI i1)), (3, .int k9), (4, .int c9), (5, .int a9)]) C0.1 C0.2.1 dX6_fits_139 hl (k := 6) rfl rfl (by decide) rfl (fun ls hl => ?_)
        refine lv_goto (tgt := 86) C0.1 C0.2.1 dX6_fits_142 (by decide) ?_
        exact ih _ _ _ _ _ _ ls (by omega) (by intro z9; rw [hs_updu]) (by rw [← he, sp_ft, if_neg hb27]) (by rw [hp15, eV3, e8, hv_q3 (by omega) (by omega) (by omega)] at w; exact w) (by have h9 := (lv_sub (l' := [(0, .ref x), (1, .int (nI j1)), (2, .int (nI i1)), (3, .int k9), (4, .int c9), (5, .int a9), (6, .int (nI v9 + (-1)))]) hl [1, 2, 3, 4, 5, 6, 0] rfl); rw [hn_dec] at h9; exact h9)
  refine lv_iload_n C0.1 C0.2.1 dX6_fits_0 rfl (lv_at hl 1 rfl) ?_
  refine hv_cSi (As := [.int (nI j1)]) C0 w kl_X6_60 ks_X6_isRow (c_X6_isRow) (by decide) (by decide) rfl hl.1 rfl (Nat.le_of_ble_eq_true rfl) dX6_fits_1 ⟨Nat.le_refl _, Nat.le_refl _⟩ (fun x1 V2 Hq lq hp3 w => ?_)
  obtain ⟨e9, hz9⟩ := hp3
  rw [e9] at w; clear e9
  obtain ⟨ex9, -⟩ | ⟨-, hno⟩ := hz9
  rotate_left
  · exact absurd hrj hno
  rw [ex9]; clear ex9
  refine lv_if_eq (tgt := 38) C0.1 C0.2.1 dX6_fits_4 (by decide) (fun h9 => absurd h9 (by decide)) (fun _ => ?_)
  refine lv_iload_n C0.1 C0.2.1 dX6_fits_7 rfl (lv_at hl 2 rfl) ?_
  refine lv_iconst (v := 0) C0.1 C0.2.1 dX6_fits_8 (by decide) ?_
  refine lv_aload_n C0.1 C0.2.1 dX6_fits_9 rfl (lv_at hl 0 rfl) ?_
  refine gf_X6_12 C0 w hX0 rfl dX6_fits_10 ?_
  refine gf_X6_76 C0 w hP0 rfl dX6_fits_13 ?_
  refine lv_iload_n C0.1 C0.2.1 dX6_fits_16 rfl (lv_at hl 1 rfl) ?_
  refine hv_aald 3 C0 w rfl hP1 (hn_in hj1 (by decide)) (by rw [kj1]; exact hP2 j1 hj1) dX6_fits_17 ?_
  refine gf_X6_88 C0 w hR_j1 rfl dX6_fits_18 ?_
  refine lv_iconst (v := 1) C0.1 C0.2.1 dX6_fits_21 (by decide) ?_
  refine lv_isub C0.1 C0.2.1 dX6_fits_22 ?_
  refine hv_cSi (As := [.int (nI i1), .int 0, .int ((nI (σ.1.1.2.1 j1)) - 1)]) C0 w kl_X6_68 ks_X6_within (c_X6_within) (by decide) (by decide) rfl hl.1 rfl (Nat.le_of_ble_eq_true rfl) dX6_fits_23 ⟨Nat.le_refl _, Nat.le_refl _⟩ (fun x4 V5 Hq lq hp6 w => ?_)
  obtain ⟨e9, hz9⟩ := hp6
  rw [e9] at w; clear e9
  obtain ⟨ex9, -⟩ | ⟨-, hno⟩ := hz9
  rotate_left
  · exact absurd hri hno
  rw [ex9]; clear ex9
  refine lv_if_eq (tgt := 38) C0.1 C0.2.1 dX6_fits_26 (by decide) (fun h9 => absurd h9 (by decide)) (fun _ => ?_)
  refine lv_iload_n C0.1 C0.2.1 dX6_fits_29 rfl (lv_at hl 3 rfl) ?_
  refine lv_iconst (v := 0) C0.1 C0.2.1 dX6_fits_30 (by decide) ?_
  refine lv_iconst (v := 1) C0.1 C0.2.1 dX6_fits_31 (by decide) ?_
  refine hv_cSi (As := [.int k9, .int 0, .int 1]) C0 w kl_X6_68 ks_X6_within (c_X6_within) (by decide) (by decide) rfl hl.1 rfl (Nat.le_of_ble_eq_true rfl) dX6_fits_32 ⟨Nat.le_refl _, Nat.le_refl _⟩ (fun x7 V8 Hq lq hp9 w => ?_)
  obtain ⟨e9, hz9⟩ := hp9
  rw [e9] at w; clear e9
  obtain ⟨ex9, -⟩ | ⟨-, hno⟩ := hz9
  rotate_left
  · exact absurd hrk hno
  rw [ex9]; clear ex9
  refine lv_if_ne (tgt := 40) C0.1 C0.2.1 dX6_fits_35 (by decide) (fun _ => ?_) (fun h9 => absurd h9 (by decide))
  refine lv_aload_n C0.1 C0.2.1 dX6_fits_40 rfl (lv_at hl 0 rfl) ?_
  refine lv_iload_n C0.1 C0.2.1 dX6_fits_41 rfl (lv_at hl 1 rfl) ?_
  refine hv_cVi C0 w kl_X6_185 kv_X6_othersAreAsSeen rfl hX0 (c_X6_othersAreAsSeen hX hB) (by decide) (by decide) rfl hl.1 rfl (Nat.le_of_ble_eq_true rfl) dX6_fits_42 ⟨Nat.le_refl _, Nat.le_refl _⟩ (fun x10 V11 Hq lq hp12 w => ?_)
  obtain ⟨hz9, F9, hp12b⟩ := hp12
  rcases hz9 with ⟨rfl, hw13⟩ | ⟨rfl, hw13⟩
  · skip
    have hV14 : V11 x = some (.inr (6, [.ref (x + 1), .ref (x + 27), .int kk0, .ref (x + 53), .ref (x + 57), .ref (x + 58), .ref (x + 60), .ref (x + 61), .ref (x + 62), .ref (x + 63)])) := by rw [hp12b, hv_un (by omega)]; exact hX0
    have hV15 : V11 (x + 1) = some (.inr (2, [.ref (x + 1 + 1), .ref (x + 1 + 2), .ref (x + 1 + 6), .ref (x + 1 + 10)])) := by rw [hp12b, hv_un (by omega)]; exact hP0
    have hV16 : V11 (x + 1 + 1) = some (.inl (X.2.1 3, 6, .inr (.inr (.inr (.inr rf))))) := by rw [hp12b, hv_un (by omega)]; exact hP1
    have hV17 : V11 (x + 57) = some (.inl (X.2.1 4, 6, .inr (.inr (.inr (.inr tf))))) := by rw [hp12b, hv_un (by omega)]; exact hT1
    have hV19 : V11 (x + 61) = some (fE RF) := by rw [hp12b, hv_un (by omega)]; exact hS4
    have hV20 : V11 (x + 58) = some (rE tk tn (x + 58 + 1)) := by rw [hp12b, hv_un (by omega)]; exact hS1
    have hV21 : V11 (x + 58 + 1) = some (nE X tg) := by rw [hp12b, hv_un (by omega)]; exact hS2
    have hV22 : V11 (x + 1 + 2) = some (.inr (1, [.ref (x + 1 + 2 + 1), .ref (x + 1 + 2 + 2), .ref (x + 1 + 2 + 3), .int (nI σ.1.2.1.1)])) := by rw [hp12b, hv_un (by omega)]; exact hL0
    have hV23 : V11 (x + 1 + 2 + 1) = some (.inl (X.2.1 0, 4, .inl sf)) := by rw [hp12b, hv_un (by omega)]; exact hL1
    have hV24 : V11 (x + 1 + 2 + 2) = some (.inl (X.2.1 0, 4, .inl sg)) := by rw [hp12b, hv_un (by omega)]; exact hL2
    have hV25 : V11 (x + 1 + 2 + 3) = some (.inl (X.2.1 0, 4, .inl sh)) := by rw [hp12b, hv_un (by omega)]; exact hL3
    have hV26 : V11 (x + 1 + 6) = some (.inr (1, [.ref (x + 1 + 6 + 1), .ref (x + 1 + 6 + 2), .ref (x + 1 + 6 + 3), .int (nI σ.1.2.2.1.1)])) := by rw [hp12b, hv_un (by omega)]; exact hM0
    have hV27 : V11 (x + 1 + 6 + 1) = some (.inl (X.2.1 0, 8, .inl ef)) := by rw [hp12b, hv_un (by omega)]; exact hM1
    have hV28 : V11 (x + 1 + 6 + 2) = some (.inl (X.2.1 0, 8, .inl eg)) := by rw [hp12b, hv_un (by omega)]; exact hM2
    have hV29 : V11 (x + 1 + 6 + 3) = some (.inl (X.2.1 0, 8, .inl eh)) := by rw [hp12b, hv_un (by omega)]; exact hM3
    have hV30 : V11 (x + 1 + 10) = some (.inr (1, [.ref (x + 1 + 10 + 1), .ref (x + 1 + 10 + 2), .ref (x + 1 + 10 + 3), .int (nI σ.1.2.2.2.1)])) := by rw [hp12b, hv_un (by omega)]; exact hK0
    have hV31 : V11 (x + 1 + 10 + 1) = some (.inl (X.2.1 0, 8, .inl kf)) := by rw [hp12b, hv_un (by omega)]; exact hK1
    have hV32 : V11 (x + 1 + 10 + 2) = some (.inl (X.2.1 0, 8, .inl kg)) := by rw [hp12b, hv_un (by omega)]; exact hK2
    have hV33 : V11 (x + 1 + 10 + 3) = some (.inl (X.2.1 0, 8, .inl kh)) := by rw [hp12b, hv_un (by omega)]; exact hK3
    have hV34 : V11 (x + 53) = some (.inr (4, [.ref (x + 53 + 1), .int (nI σ.2.2.1.1), .int pl, .int cl, .ref (x + 53 + 2), .ref (x + 53 + 3)])) := by rw [hp12b, hv_un (by omega)]; exact hQ0
    have hV35 : V11 (x + 53 + 1) = some (.inl (X.2.1 2, 100, .inl σ.2.2.1.2)) := by rw [hp12b, hv_un (by omega)]; exact hQ1
    have hV36 : V11 (x + 1 + 14 + 2 * j1) = some (rE (σ.1.1.1 j1) (σ.1.1.2.1 j1) (x + 1 + 14 + 2 * j1 + 1)) := by rw [hp12b, hv_un (by omega)]; exact hR_j1
    have hV37 : V11 (x + 1 + 14 + 2 * j1 + 1) = some (nE X (σ.1.1.2.2 j1)) := by rw [hp12b, hv_un (by omega)]; exact hN_j1
    have hV38 : V11 (x + 60) = some (fE F9) := by rw [hp12b]; exact hv_us
    refine lv_if_ne (tgt := 59) C0.1 C0.2.1 dX6_fits_45 (by decide) (fun _ => ?_) (fun h9 => absurd h9 (by decide))
    refine lv_aload_n C0.1 C0.2.1 dX6_fits_59 rfl (lv_at hl 0 rfl) ?_
    refine gf_X6_37 C0 w hV14 rfl dX6_fits_60 ?_
    refine lv_aload_n C0.1 C0.2.1 dX6_fits_63 rfl (lv_at hl 0 rfl) ?_
    refine gf_X6_12 C0 w hV14 rfl dX6_fits_64 ?_
    refine gf_X6_76 C0 w hV15 rfl dX6_fits_67 ?_
    refine lv_iload_n C0.1 C0.2.1 dX6_fits_70 rfl (lv_at hl 1 rfl) ?_
    refine hv_aald 3 C0 w rfl hV16 (hn_in hj1 (by decide)) (by rw [kj1]; exact hP2 j1 hj1) dX6_fits_71 ?_
    refine hv_cVv C0 w kl_X6_102 kv_X3_becomeAs rfl hV20 (c_X3_becomeAs hV20 hV21 hV36 hV37 (by omega) (by omega)) (by decide) (by decide) rfl hl.1 rfl (Nat.le_of_ble_eq_true rfl) dX6_fits_72 ⟨Nat.le_refl _, Nat.le_refl _⟩ (fun V40 Hq lq hp41 w => ?_)
    have hN9 : V40 (x + 58 + 1) = some (nE X (va_cpy (σ.1.1.2.2 j1) tg 0 0 16)) := by rw [hp41]; exact hv_us
    have w := w.as hN9 (g := (σ.1.1.2.2 j1)) (fun i9 hi9 => by simp [va_cpy, hi9])
    rw [hp41, hv_uu] at w
    obtain ⟨V42, eV43⟩ : ∃ V9, V9 = hv_up (hv_up V11 (x + 58) (rE (σ.1.1.1 j1) (σ.1.1.2.1 j1) (x + 58 + 1))) (x + 58 + 1) (nE X (σ.1.1.2.2 j1)) := ⟨_, rfl⟩
    have w : hv_w X s V42 Hq lq := by rw [eV43]; exact w
    have hV44 : V42 x = some (.inr (6, [.ref (x + 1), .ref (x + 27), .int kk0, .ref (x + 53), .ref (x + 57), .ref (x + 58), .ref (x + 60), .ref (x + 61), .ref (x + 62), .ref (x + 63)])) := by rw [eV43, hv_un (by omega), hv_un (by omega)]; exact hV14
    have hV45 : V42 (x + 1) = some (.inr (2, [.ref (x + 1 + 1), .ref (x + 1 + 2), .ref (x + 1 + 6), .ref (x + 1 + 10)])) := by rw [eV43, hv_un (by omega), hv_un (by omega)]; exact hV15
    have hV46 : V42 (x + 1 + 1) = some (.inl (X.2.1 3, 6, .inr (.inr (.inr (.inr rf))))) := by rw [eV43, hv_un (by omega), hv_un (by omega)]; exact hV16
    have hV47 : V42 (x + 61) = some (fE RF) := by rw [eV43, hv_un (by omega), hv_un (by omega)]; exact hV19
    have hV48 : V42 (x + 1 + 6) = some (.inr (1, [.ref (x + 1 + 6 + 1), .ref (x + 1 + 6 + 2), .ref (x + 1 + 6 + 3), .int (nI σ.1.2.2.1.1)])) := by rw [eV43, hv_un (by omega), hv_un (by omega)]; exact hV26
    have hV49 : V42 (x + 1 + 6 + 1) = some (.inl (X.2.1 0, 8, .inl ef)) := by rw [eV43, hv_un (by omega), hv_un (by omega)]; exact hV27
    have hV50 : V42 (x + 1 + 6 + 2) = some (.inl (X.2.1 0, 8, .inl eg)) := by rw [eV43, hv_un (by omega), hv_un (by omega)]; exact hV28
    have hV51 : V42 (x + 60) = some (fE F9) := by rw [eV43, hv_un (by omega), hv_un (by omega)]; exact hV38
    have hV52 : V42 (x + 58) = some (rE (σ.1.1.1 j1) (σ.1.1.2.1 j1) (x + 58 + 1)) := by rw [eV43, hv_un (by omega)]; exact hv_us
    have hV53 : V42 (x + 58 + 1) = some (nE X (σ.1.1.2.2 j1)) := by rw [eV43]; exact hv_us
    refine lv_iconst (v := 0) C0.1 C0.2.1 dX6_fits_75 (by decide) ?_
    refine lv_istore (lv' := [(4, .int 0), (0, .ref x), (1, .int (nI j1)), (2, .int (nI i1)), (3, .int k9)]) C0.1 C0.2.1 dX6_fits_76 hl (by decide) rfl (fun ls hl => ?_)
    refine lv_bipush (v := -5) C0.1 C0.2.1 dX6_fits_78 (by decide) ?_
    refine lv_istore (lv' := [(5, .int (-5)), (4, .int 0), (0, .ref x), (1, .int (nI j1)), (2, .int (nI i1)), (3, .int k9)]) C0.1 C0.2.1 dX6_fits_80 hl (by decide) rfl (fun ls hl => ?_)
    refine lv_bipush (v := 99) C0.1 C0.2.1 dX6_fits_82 (by decide) ?_
    refine lv_istore (lv' := [(6, .int 99), (5, .int (-5)), (4, .int 0), (0, .ref x), (1, .int (nI j1)), (2, .int (nI i1)), (3, .int k9)]) C0.1 C0.2.1 dX6_fits_84 hl (by decide) rfl (fun ls hl => ?_)
    have hres : sp_fits σ (nI j1) (nI i1) k9 = if k9 = 0 then (sp_ft σ j1 i1 100 0 (-5)).1 else (sp_ft σ j1 i1 100 0 (-5)).2 := by rw [sp_fits, kj1, ki1, if_pos ⟨hrj, hri, hrk⟩, if_pos hw13]
    exact loop hres 100 0 (-5) _ _ _ _ ls (Nat.le_refl _) (fun _ => rfl) rfl (by rw [eV43, hp12b] at w; exact w) (lv_sub hl [3, 4, 5, 6, 2, 1, 0] rfl)
  · skip
    have hV54 : V11 x = some (.inr (6, [.ref (x + 1), .ref (x + 27), .int kk0, .ref (x + 53), .ref (x + 57), .ref (x + 58), .ref (x + 60), .ref (x + 61), .ref (x + 62), .ref (x + 63)])) := by rw [hp12b, hv_un (by omega)]; exact hX0
    have hV55 : V11 (x + 1) = some (.inr (2, [.ref (x + 1 + 1), .ref (x + 1 + 2), .ref (x + 1 + 6), .ref (x + 1 + 10)])) := by rw [hp12b, hv_un (by omega)]; exact hP0
    have hV56 : V11 (x + 1 + 1) = some (.inl (X.2.1 3, 6, .inr (.inr (.inr (.inr rf))))) := by rw [hp12b, hv_un (by omega)]; exact hP1
    have hV57 : V11 (x + 57) = some (.inl (X.2.1 4, 6, .inr (.inr (.inr (.inr tf))))) := by rw [hp12b, hv_un (by omega)]; exact hT1
    have hV59 : V11 (x + 61) = some (fE RF) := by rw [hp12b, hv_un (by omega)]; exact hS4
    have hV60 : V11 (x + 58) = some (rE tk tn (x + 58 + 1)) := by rw [hp12b, hv_un (by omega)]; exact hS1
    have hV61 : V11 (x + 58 + 1) = some (nE X tg) := by rw [hp12b, hv_un (by omega)]; exact hS2
    have hV62 : V11 (x + 1 + 2) = some (.inr (1, [.ref (x + 1 + 2 + 1), .ref (x + 1 + 2 + 2), .ref (x + 1 + 2 + 3), .int (nI σ.1.2.1.1)])) := by rw [hp12b, hv_un (by omega)]; exact hL0
    have hV63 : V11 (x + 1 + 2 + 1) = some (.inl (X.2.1 0, 4, .inl sf)) := by rw [hp12b, hv_un (by omega)]; exact hL1
    have hV64 : V11 (x + 1 + 2 + 2) = some (.inl (X.2.1 0, 4, .inl sg)) := by rw [hp12b, hv_un (by omega)]; exact hL2
    have hV65 : V11 (x + 1 + 2 + 3) = some (.inl (X.2.1 0, 4, .inl sh)) := by rw [hp12b, hv_un (by omega)]; exact hL3
    have hV66 : V11 (x + 1 + 6) = some (.inr (1, [.ref (x + 1 + 6 + 1), .ref (x + 1 + 6 + 2), .ref (x + 1 + 6 + 3), .int (nI σ.1.2.2.1.1)])) := by rw [hp12b, hv_un (by omega)]; exact hM0
    have hV67 : V11 (x + 1 + 6 + 1) = some (.inl (X.2.1 0, 8, .inl ef)) := by rw [hp12b, hv_un (by omega)]; exact hM1
    have hV68 : V11 (x + 1 + 6 + 2) = some (.inl (X.2.1 0, 8, .inl eg)) := by rw [hp12b, hv_un (by omega)]; exact hM2
    have hV69 : V11 (x + 1 + 6 + 3) = some (.inl (X.2.1 0, 8, .inl eh)) := by rw [hp12b, hv_un (by omega)]; exact hM3
    have hV70 : V11 (x + 1 + 10) = some (.inr (1, [.ref (x + 1 + 10 + 1), .ref (x + 1 + 10 + 2), .ref (x + 1 + 10 + 3), .int (nI σ.1.2.2.2.1)])) := by rw [hp12b, hv_un (by omega)]; exact hK0
    have hV71 : V11 (x + 1 + 10 + 1) = some (.inl (X.2.1 0, 8, .inl kf)) := by rw [hp12b, hv_un (by omega)]; exact hK1
    have hV72 : V11 (x + 1 + 10 + 2) = some (.inl (X.2.1 0, 8, .inl kg)) := by rw [hp12b, hv_un (by omega)]; exact hK2
    have hV73 : V11 (x + 1 + 10 + 3) = some (.inl (X.2.1 0, 8, .inl kh)) := by rw [hp12b, hv_un (by omega)]; exact hK3
    have hV74 : V11 (x + 53) = some (.inr (4, [.ref (x + 53 + 1), .int (nI σ.2.2.1.1), .int pl, .int cl, .ref (x + 53 + 2), .ref (x + 53 + 3)])) := by rw [hp12b, hv_un (by omega)]; exact hQ0
    have hV75 : V11 (x + 53 + 1) = some (.inl (X.2.1 2, 100, .inl σ.2.2.1.2)) := by rw [hp12b, hv_un (by omega)]; exact hQ1
    have hV76 : V11 (x + 1 + 14 + 2 * j1) = some (rE (σ.1.1.1 j1) (σ.1.1.2.1 j1) (x + 1 + 14 + 2 * j1 + 1)) := by rw [hp12b, hv_un (by omega)]; exact hR_j1
    have hV77 : V11 (x + 1 + 14 + 2 * j1 + 1) = some (nE X (σ.1.1.2.2 j1)) := by rw [hp12b, hv_un (by omega)]; exact hN_j1
    have hV78 : V11 (x + 60) = some (fE F9) := by rw [hp12b]; exact hv_us
    refine lv_if_ne (tgt := 59) C0.1 C0.2.1 dX6_fits_45 (by decide) (fun h9 => absurd h9 (by decide)) (fun _ => ?_)
    refine lv_iload_n C0.1 C0.2.1 dX6_fits_48 rfl (lv_at hl 3 rfl) ?_
    refine lv_if_ne (tgt := 56) C0.1 C0.2.1 dX6_fits_49 (by decide) (fun c_49 => ?_) (fun c_49 => ?_)
    · skip
      refine lv_bipush (v := -5) C0.1 C0.2.1 dX6_fits_56 (by decide) ?_
      exact hv_iret C0 w hr hlk (⟨by rw [sp_fits, kj1, ki1, if_pos ⟨hrj, hri, hrk⟩, if_neg hw13, if_neg c_49], ⟨kk0, (by rw [hp12b, hv_un (by omega)] : _ = V x).trans hX0, hPg.fr (fun q h7 h8 => by rw [hp12b, hv_un (by omega)]), hKp.fr (fun q h7 h8 => by rw [hp12b, hv_un (by omega)]), hTx.fr (fun q h7 h8 => by rw [hp12b, hv_un (by omega)]), hTp.fr (by rw [hp12b, hv_un (by omega)]) (fun q h7 h8 => by rw [hp12b, hv_un (by omega)]), hSc.gen ⟨tk, tn, tg, (by rw [hp12b, hv_un (by omega)] : _ = V (x + 58)).trans hS1, (by rw [hp12b, hv_un (by omega)] : _ = V (x + 58 + 1)).trans hS2⟩ ⟨_, by rw [hp12b]; exact hv_us⟩ ⟨RF, (by rw [hp12b, hv_un (by omega)] : _ = V (x + 61)).trans hS4⟩ (fun q h7 h8 => by rw [hp12b, hv_un (by omega)]) (fun q h7 h8 => by rw [hp12b, hv_un (by omega)])⟩, (fun q h7 => by rw [hp12b, hv_un (by omega)])⟩) dX6_fits_58
    · skip
      refine lv_iconst (v := 0) C0.1 C0.2.1 dX6_fits_52 (by decide) ?_
      refine lv_goto (tgt := 58) C0.1 C0.2.1 dX6_fits_53 (by decide) ?_
      exact hv_iret C0 w hr hlk (⟨by rw [sp_fits, kj1, ki1, if_pos ⟨hrj, hri, hrk⟩, if_neg hw13, if_pos c_49], ⟨kk0, (by rw [hp12b, hv_un (by omega)] : _ = V x).trans hX0, hPg.fr (fun q h7 h8 => by rw [hp12b, hv_un (by omega)]), hKp.fr (fun q h7 h8 => by rw [hp12b, hv_un (by omega)]), hTx.fr (fun q h7 h8 => by rw [hp12b, hv_un (by omega)]), hTp.fr (by rw [hp12b, hv_un (by omega)]) (fun q h7 h8 => by rw [hp12b, hv_un (by omega)]), hSc.gen ⟨tk, tn, tg, (by rw [hp12b, hv_un (by omega)] : _ = V (x + 58)).trans hS1, (by rw [hp12b, hv_un (by omega)] : _ = V (x + 58 + 1)).trans hS2⟩ ⟨_, by rw [hp12b]; exact hv_us⟩ ⟨RF, (by rw [hp12b, hv_un (by omega)] : _ = V (x + 61)).trans hS4⟩ (fun q h7 h8 => by rw [hp12b, hv_un (by omega)]) (fun q h7 h8 => by rw [hp12b, hv_un (by omega)])⟩, (fun q h7 => by rw [hp12b, hv_un (by omega)])⟩) dX6_fits_58

set_option maxHeartbeats 4000000 in
set_option maxRecDepth 100000 in
theorem n_X6_fits {l : Launch} {X : hv_X} {V : hv_V} {x : Nat} {σ : hs_S} (hX : okX X V x σ) (hB : hs_b σ) {r i k9 : Int32} (hno : ¬ (sp_in r 0 5 ∧ sp_in i (0) (nI (σ.1.1.2.1 r.toNatClampNeg) - 1) ∧ sp_in k9 0 1)) : hv_Mi l X 6 yX6_fits cX6_fits 7 .int V [.ref x, .int r, .int i, .int k9] (fun y V1 => y = sp_fits σ r i k9 ∧ okX X V1 x σ ∧ hv_out V V1 x (x + 92)) := by
  refine hv_enter (by decide) (Nat.le_of_ble_eq_true rfl) ?_
  intro p e s m below meth c ls C0 hr hlk hnm w hl
  have hl : lv_has ls 7 [(0, .ref x), (1, .int r), (2, .int i), (3, .int k9)] := hl
  obtain ⟨kk0, hX0, hPg, hKp, hTx, hTp, hSc⟩ := id hX
  obtain ⟨hP0, ⟨rf, hP1, hP2⟩, hP3, hP4, hP5, hP6⟩ := id hPg
  obtain ⟨⟨tf, hT1, hT2⟩, hT3⟩ := id hTp
  obtain ⟨⟨tk, tn, tg, hS1, hS2⟩, ⟨LF, hS3⟩, ⟨RF, hS4⟩, ⟨bf, hS5, hS6⟩, hS7, uf, hS8⟩ := id hSc
  have hbR := hB.1.1
  obtain ⟨sf, sg, sh, hL0, hL1, hL2, hL3, hLa⟩ := id hP4
  obtain ⟨ef, eg, eh, hM0, hM1, hM2, hM3, hMa⟩ := id hP5
  obtain ⟨kf, kg, kh, hK0, hK1, hK2, hK3, hKa⟩ := id hP6
  obtain ⟨pl, cl, wd, vl, hQ0, hQ1, hQ2, hQ3⟩ := id hTx
  refine lv_iload_n C0.1 C0.2.1 dX6_fits_0 rfl (lv_at hl 1 rfl) ?_
  refine hv_cSi (As := [.int r]) C0 w kl_X6_60 ks_X6_isRow (c_X6_isRow) (by decide) (by decide) rfl hl.1 rfl (Nat.le_of_ble_eq_true rfl) dX6_fits_1 ⟨Nat.le_refl _, Nat.le_refl _⟩ (fun x1 V2 Hq lq hp3 w => ?_)
  obtain ⟨e9, hz9⟩ := hp3
  rw [e9] at w; clear e9
  rcases hz9 with ⟨rfl, hb4⟩ | ⟨rfl, hb4⟩
  · skip
    have ihb4 := hb4
    obtain ⟨j1, hj1, rfl⟩ := sp_inN (k := 5) (by decide) hb4
    have kj1 : (nI j1).toNatClampNeg = j1 := nI_clamp (by omega)
    have hR_j1 : V (x + 1 + 14 + 2 * j1) = some (rE (σ.1.1.1 j1) (σ.1.1.2.1 j1) (x + 1 + 14 + 2 * j1 + 1)) := (hP3 j1 hj1).1
    have hN_j1 : V (x + 1 + 14 + 2 * j1 + 1) = some (nE X (σ.1.1.2.2 j1)) := (hP3 j1 hj1).2
    have hn_j1 : σ.1.1.2.1 j1 ≤ 16 := (hbR j1 hj1).2.1
    refine lv_if_eq (tgt := 38) C0.1 C0.2.1 dX6_fits_4 (by decide) (fun h9 => absurd h9 (by decide)) (fun _ => ?_)
    refine lv_iload_n C0.1 C0.2.1 dX6_fits_7 rfl (lv_at hl 2 rfl) ?_
    refine lv_iconst (v := 0) C0.1 C0.2.1 dX6_fits_8 (by decide) ?_
    refine lv_aload_n C0.1 C0.2.1 dX6_fits_9 rfl (lv_at hl 0 rfl) ?_
    refine gf_X6_12 C0 w hX0 rfl dX6_fits_10 ?_
    refine gf_X6_76 C0 w hP0 rfl dX6_fits_13 ?_
    refine lv_iload_n C0.1 C0.2.1 dX6_fits_16 rfl (lv_at hl 1 rfl) ?_
    refine hv_aald 3 C0 w rfl hP1 (hn_in hj1 (by decide)) (by rw [kj1]; exact hP2 j1 hj1) dX6_fits_17 ?_
    refine gf_X6_88 C0 w hR_j1 rfl dX6_fits_18 ?_
    refine lv_iconst (v := 1) C0.1 C0.2.1 dX6_fits_21 (by decide) ?_
    refine lv_isub C0.1 C0.2.1 dX6_fits_22 ?_
    refine hv_cSi (As := [.int i, .int 0, .int ((nI (σ.1.1.2.1 j1)) - 1)]) C0 w kl_X6_68 ks_X6_within (c_X6_within) (by decide) (by decide) rfl hl.1 rfl (Nat.le_of_ble_eq_true rfl) dX6_fits_23 ⟨Nat.le_refl _, Nat.le_refl _⟩ (fun x5 V6 Hq lq hp7 w => ?_)
    obtain ⟨e9, hz9⟩ := hp7
    rw [e9] at w; clear e9
    rcases hz9 with ⟨rfl, hb8⟩ | ⟨rfl, hb8⟩
    · skip
      refine lv_if_eq (tgt := 38) C0.1 C0.2.1 dX6_fits_26 (by decide) (fun h9 => absurd h9 (by decide)) (fun _ => ?_)
      refine lv_iload_n C0.1 C0.2.1 dX6_fits_29 rfl (lv_at hl 3 rfl) ?_
      refine lv_iconst (v := 0) C0.1 C0.2.1 dX6_fits_30 (by decide) ?_
      refine lv_iconst (v := 1) C0.1 C0.2.1 dX6_fits_31 (by decide) ?_
      refine hv_cSi (As := [.int k9, .int 0, .int 1]) C0 w kl_X6_68 ks_X6_within (c_X6_within) (by decide) (by decide) rfl hl.1 rfl (Nat.le_of_ble_eq_true rfl) dX6_fits_32 ⟨Nat.le_refl _, Nat.le_refl _⟩ (fun x9 V10 Hq lq hp11 w => ?_)
      obtain ⟨e9, hz9⟩ := hp11
      rw [e9] at w; clear e9
      rcases hz9 with ⟨rfl, hb12⟩ | ⟨rfl, hb12⟩
      · skip
        refine lv_if_ne (tgt := 40) C0.1 C0.2.1 dX6_fits_35 (by decide) (fun _ => ?_) (fun h9 => absurd h9 (by decide))
        exact absurd ⟨ihb4, by rw [kj1]; exact hb8, hb12⟩ hno
      · skip
        refine lv_if_ne (tgt := 40) C0.1 C0.2.1 dX6_fits_35 (by decide) (fun h9 => absurd h9 (by decide)) (fun _ => ?_)
        refine lv_iconst (v := -1) C0.1 C0.2.1 dX6_fits_38 (by decide) ?_
        exact hv_iret C0 w hr hlk (⟨by rw [sp_fits, if_neg hno], hX, hv_out.rf⟩) dX6_fits_39
    · skip
      refine lv_if_eq (tgt := 38) C0.1 C0.2.1 dX6_fits_26 (by decide) (fun _ => ?_) (fun h9 => absurd h9 (by decide))
      refine lv_iconst (v := -1) C0.1 C0.2.1 dX6_fits_38 (by decide) ?_
      exact hv_iret C0 w hr hlk (⟨by rw [sp_fits, if_neg hno], hX, hv_out.rf⟩) dX6_fits_39
  · skip
    refine lv_if_eq (tgt := 38) C0.1 C0.2.1 dX6_fits_4 (by decide) (fun _ => ?_) (fun h9 => absurd h9 (by decide))
    refine lv_iconst (v := -1) C0.1 C0.2.1 dX6_fits_38 (by decide) ?_
    exact hv_iret C0 w hr hlk (⟨by rw [sp_fits, if_neg hno], hX, hv_out.rf⟩) dX6_fits_39

theorem m_X6_fits {l : Launch} {X : hv_X} {V : hv_V} {x : Nat} {σ : hs_S} (hX : okX X V x σ) (hB : hs_b σ) {r i k9 : Int32} : hv_Mi l X 6 yX6_fits cX6_fits 7 .int V [.ref x, .int r, .int i, .int k9] (fun y V1 => y = sp_fits σ r i k9 ∧ okX X V1 x σ ∧ hv_out V V1 x (x + 92)) := by
  by_cases h : sp_in r 0 5 ∧ sp_in i (0) (nI (σ.1.1.2.1 r.toNatClampNeg) - 1) ∧ sp_in k9 0 1
  · obtain ⟨h1, h2, h3⟩ := id h
    obtain ⟨j1, hj1, rfl⟩ := sp_inN (k := 5) (by decide) h1
    have kj1 : (nI j1).toNatClampNeg = j1 := nI_clamp (by omega)
    rw [kj1] at h2
    have hn := (hB.1.1 j1 hj1).2.1
    obtain ⟨i1, hi1, rfl⟩ := vp_in_of ((hs_inm (by omega)).mp h2) (by omega)
    exact c_X6_fits hX hB hj1 (by omega) h1 h2 h3
  · exact n_X6_fits hX hB h
