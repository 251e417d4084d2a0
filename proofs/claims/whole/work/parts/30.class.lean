def sp_c2 (σ : hs_S) (j : Nat) (F : fx_F) : Nat → Nat → Int32 → Int32
  | 0, _, c => c
  | m + 1, k, c => sp_c2 σ j F m (k + 1) (if fx_above F (sp_w σ j (k + 1)) then c + 1 else c)
def sp_c1 (σ : hs_S) (i j : Nat) : Nat → Nat → Int32 → Int32
  | 0, _, c => c
  | m + 1, k, c => sp_c1 σ i j m (k + 1) (sp_c2 σ j (sp_w σ i k) (σ.1.1.2.1 j) 0 c)
def sp_ca (σ : hs_S) (i j : Nat) : Int32 := sp_c1 σ i j (σ.1.1.2.1 i) 1 0
def sp_odds (σ : hs_S) (a b k : Int32) : Int64 := if sp_in a 0 5 ∧ sp_in b 0 5 ∧ sp_in k 0 1 then (if nI (σ.1.1.2.1 a.toNatClampNeg) * nI (σ.1.1.2.1 b.toNatClampNeg) = 0 then -9223372036854775808 else fx_part (fx_become (sp_ca σ a.toNatClampNeg b.toNatClampNeg).toInt64 (nI (σ.1.1.2.1 a.toNatClampNeg) * nI (σ.1.1.2.1 b.toNatClampNeg)).toInt64) k) else -9223372036854775808
/-- but for left and the beginnings V1 is V; the first k beginnings are row j's -/
def ok_cnt (σ : hs_S) (V V1 : hv_V) (x j k : Nat) : Prop := (∀ q : Nat, (q < x + 76 ∨ x + 92 ≤ q) → q ≠ x + 60 → V1 q = V q) ∧ (∀ i, i < 16 → ∃ F : fx_F, V1 (x + 76 + i) = some (fE F)) ∧ (∃ F : fx_F, V1 (x + 60) = some (fE F)) ∧ ∀ i, i < k → V1 (x + 76 + i) = some (fE (sp_w σ j (i + 1)))
theorem ok_cnt.okX {X : hv_X} {V V1 : hv_V} {x j k : Nat} {σ : hs_S} (h : ok_cnt σ V V1 x j k) (hX : okX X V x σ) : okX X V1 x σ := by
  obtain ⟨h1, h2, h3, -⟩ := h
  obtain ⟨kk, g0, g1, g2, g3, g4, ⟨⟨kd, n, f, a1⟩, -, ⟨G, a3⟩, ⟨bf, a4, a5⟩, -, u, a7⟩⟩ := hX
  have hb : ∀ lo hi, hi ≤ x + 60 → hv_but V V1 lo hi := fun lo hi hh q q1 q2 => h1 q (by omega) (by omega)
  have hb2 : ∀ lo hi, x + 60 < lo → hi ≤ x + 76 → hv_but V V1 lo hi := fun lo hi h8 hh q q1 q2 => h1 q (by omega) (by omega)
  exact ⟨kk, (h1 x (by omega) (by omega)).trans g0, g1.fr (hb _ _ (by omega)), g2.fr (hb _ _ (by omega)), g3.fr (hb _ _ (by omega)), g4.fr (h1 _ (by omega) (by omega)) (hb2 _ _ (by omega) (by omega)), ⟨kd, n, f, a1.fr (hb _ _ (by omega))⟩, h3, ⟨G, (h1 _ (by omega) (by omega)).trans a3⟩, ⟨bf, (h1 _ (by omega) (by omega)).trans a4, a5⟩, h2, u, (h1 _ (by omega) (by omega)).trans a7⟩
set_option maxHeartbeats 4000000 in
set_option maxRecDepth 100000 in
theorem c_X6_countAbove {l : Launch} {X : hv_X} {V : hv_V} {x : Nat} {σ : hs_S} (hX : okX X V x σ) (hB : hs_b σ) {j1 j2 : Nat} (hj1 : j1 < 6) (hj2 : j2 < 6) : hv_Mi l X 5 yX6_countAbove cX6_countAbove 6 .int V [.ref x, .ref (x + 1 + 14 + 2 * j1), .ref (x + 1 + 14 + 2 * j2)] (fun y V1 => y = sp_ca σ j1 j2 ∧ ok_cnt σ V V1 x j2 (σ.1.1.2.1 j2)) := by
  refine hv_enter (by decide) (Nat.le_of_ble_eq_true rfl) ?_
  intro p e s m below meth c ls C0 hr hlk hnm w hl
  have hl : lv_has ls 6 [(0, .ref x), (1, .ref (x + 1 + 14 + 2 * j1)), (2, .ref (x + 1 + 14 + 2 * j2))] := hl
  obtain ⟨kk0, hX0, hPg, hKp, hTx, hTp, hSc⟩ := id hX
  obtain ⟨hP0, ⟨rf, hP1, hP2⟩, hP3, hP4, hP5, hP6⟩ := id hPg
  obtain ⟨⟨tf, hT1, hT2⟩, hT3⟩ := id hTp
  obtain ⟨⟨tk, tn, tg, hS1, hS2⟩, ⟨LF, hS3⟩, ⟨RF, hS4⟩, ⟨bf, hS5, hS6⟩, hS7, uf, hS8⟩ := id hSc
  have hbR := hB.1.1
  obtain ⟨sf, sg, sh, hL0, hL1, hL2, hL3, hLa⟩ := id hP4
  obtain ⟨ef, eg, eh, hM0, hM1, hM2, hM3, hMa⟩ := id hP5
  obtain ⟨kf, kg, kh, hK0, hK1, hK2, hK3, hKa⟩ := id hP6
  obtain ⟨pl, cl, wd, vl, hQ0, hQ1, hQ2, hQ3⟩ := id hTx
  have hn_j1 : σ.1.1.2.1 j1 ≤ 16 := (hbR j1 hj1).2.1
  have hn_j2 : σ.1.1.2.1 j2 ≤ 16 := (hbR j2 hj2).2.1
  have loop3 : ∀ (i : Nat) (hi16 : i ≤ 16) (c0 : Int32) (kk9 : ∀ (c8 : Int32) (V8 : hv_V) (Hq : Heap) (lq : List Loc) (ls : Array Slot), c8 = sp_c2 σ j2 (sp_w σ j1 i) (σ.1.1.2.1 j2) 0 c0 → ok_cnt σ V V8 x j2 (σ.1.1.2.1 j2) → hv_w X s V8 Hq lq → lv_has ls 6 [(0, .ref x), (1, .ref (x + 1 + 14 + 2 * j1)), (2, .ref (x + 1 + 14 + 2 * j2)), (3, .int c8), (4, .int (nI (i + 1)))] → W p l e (hv_rm 5 0 0) s m ([.ref x, .ref (x + 1 + 14 + 2 * j1), .ref (x + 1 + 14 + 2 * j2)] : List Value).toArray below meth c Hq lq 0 0 (MQ below (hv_Qi X (fun y V1 => y = sp_ca σ j1 j2 ∧ ok_cnt σ V V1 x j2 (σ.1.1.2.1 j2))) ([.ref x, .ref (x + 1 + 14 + 2 * j1), .ref (x + 1 + 14 + 2 * j2)] : List Value).toArray s 0 0 X.2.2.1) (F0 m 34 ls [])) (m9 k : Nat) (c9 : Int32) (V8 : hv_V) (Hq : Heap) (lq : List Loc) (ls : Array Slot), (k + m9 = σ.1.1.2.1 j2) → (sp_c2 σ j2 (sp_w σ j1 i) m9 k c9 = sp_c2 σ j2 (sp_w σ j1 i) (σ.1.1.2.1 j2) 0 c0) → (V8 (x + 60) = some (fE (sp_w σ j1 i))) → ok_cnt σ V V8 x j2 (σ.1.1.2.1 j2) → hv_w X s V8 Hq lq → lv_has ls 6 [(0, .ref x), (1, .ref (x + 1 + 14 + 2 * j1)), (2, .ref (x + 1 + 14 + 2 * j2)), (3, .int c9), (4, .int (nI i)), (5, .int (nI k))] → W p l e (hv_rm 5 0 0) s m ([.ref x, .ref (x + 1 + 14 + 2 * j1), .ref (x + 1 + 14 + 2 * j2)] : List Value).toArray below meth c Hq lq 0 0 (MQ below (hv_Qi X (fun y V1 => y = sp_ca σ j1 j2 ∧ ok_cnt σ V V1 x j2 (σ.1.1.2.1 j2))) ([.ref x, .ref (x + 1 + 14 + 2 * j1), .ref (x + 1 + 14 + 2 * j2)] : List Value).toArray s 0 0 X.2.2.1) (F0 m 56 ls []) := by
    intro i hi16 c0 kk9 m9
    induction m9 with
    | zero =>
      intro k c9 V8 Hq lq ls hi he hF8 hc w hl
      have he : c9 = sp_c2 σ j2 (sp_w σ j1 i) (σ.1.1.2.1 j2) 0 c0 := he
      have g8_0 : V8 x = some (xE x kk0) := (hc.1 x (by omega) (by omega)).trans hX0
      have g8_1 : V8 (x + 62) = some (qE X 5 16 bf) := (hc.1 (x + 62) (by omega) (by omega)).trans hS5
      have g8_j1 : V8 (x + 1 + 14 + 2 * j1) = some (rE (σ.1.1.1 j1) (σ.1.1.2.1 j1) (x + 1 + 14 + 2 * j1 + 1)) := (hc.1 _ (by omega) (by omega)).trans (hP3 j1 hj1).1
      have g8n_j1 : V8 (x + 1 + 14 + 2 * j1 + 1) = some (nE X (σ.1.1.2.2 j1)) := (hc.1 _ (by omega) (by omega)).trans (hP3 j1 hj1).2
      have g8_j2 : V8 (x + 1 + 14 + 2 * j2) = some (rE (σ.1.1.1 j2) (σ.1.1.2.1 j2) (x + 1 + 14 + 2 * j2 + 1)) := (hc.1 _ (by omega) (by omega)).trans (hP3 j2 hj2).1
      have g8n_j2 : V8 (x + 1 + 14 + 2 * j2 + 1) = some (nE X (σ.1.1.2.2 j2)) := (hc.1 _ (by omega) (by omega)).trans (hP3 j2 hj2).2
      refine lv_iload C0.1 C0.2.1 dX6_countAbove_56 (lv_at hl 5 rfl) ?_
      refine lv_aload_n C0.1 C0.2.1 dX6_countAbove_58 rfl (lv_at hl 2 rfl) ?_
      refine gf_X6_88 C0 w g8_j2 rfl dX6_countAbove_59 ?_
      refine lv_icmp_ge (tgt := 91) C0.1 C0.2.1 dX6_countAbove_62 (by decide) (fun c_62 => ?_) (fun c_62 => absurd (nI_le (by omega) (by omega)) c_62)
      refine lv_iinc (v := (nI i) + 1) (lv' := [(4, .int ((nI i) + 1)), (0, .ref x), (1, .ref (x + 1 + 14 + 2 * j1)), (2, .ref (x + 1 + 14 + 2 * j2)), (3, .int c9), (5, .int (nI k))]) C0.1 C0.2.1 dX6_countAbove_91 hl (k := 4) rfl rfl (by decide) rfl (fun ls hl => ?_)
      refine lv_goto (tgt := 34) C0.1 C0.2.1 dX6_countAbove_94 (by decide) ?_
      exact kk9 c9 _ _ _ ls he hc w (by have h9 := (lv_sub (l' := [(0, .ref x), (1, .ref (x + 1 + 14 + 2 * j1)), (2, .ref (x + 1 + 14 + 2 * j2)), (3, .int c9), (4, .int (nI i + 1))]) hl [1, 2, 3, 4, 0] rfl); rw [nI_1] at h9; exact h9)
    | succ m9 ih =>
      intro k c9 V8 Hq lq ls hi he hF8 hc w hl
      have g8_0 : V8 x = some (xE x kk0) := (hc.1 x (by omega) (by omega)).trans hX0
      have g8_1 : V8 (x + 62) = some (qE X 5 16 bf) := (hc.1 (x + 62) (by omega) (by omega)).trans hS5
      have g8_j1 : V8 (x + 1 + 14 + 2 * j1) = some (rE (σ.1.1.1 j1) (σ.1.1.2.1 j1) (x + 1 + 14 + 2 * j1 + 1)) := (hc.1 _ (by omega) (by omega)).trans (hP3 j1 hj1).1
      have g8n_j1 : V8 (x + 1 + 14 + 2 * j1 + 1) = some (nE X (σ.1.1.2.2 j1)) := (hc.1 _ (by omega) (by omega)).trans (hP3 j1 hj1).2
      have g8_j2 : V8 (x + 1 + 14 + 2 * j2) = some (rE (σ.1.1.1 j2) (σ.1.1.2.1 j2) (x + 1 + 14 + 2 * j2 + 1)) := (hc.1 _ (by omega) (by omega)).trans (hP3 j2 hj2).1
      have g8n_j2 : V8 (x + 1 + 14 + 2 * j2 + 1) = some (nE X (σ.1.1.2.2 j2)) := (hc.1 _ (by omega) (by omega)).trans (hP3 j2 hj2).2
      have hB8 : V8 (x + 76 + k) = some (fE (sp_w σ j2 (k + 1))) := hc.2.2.2 k (by omega)
      refine lv_iload C0.1 C0.2.1 dX6_countAbove_56 (lv_at hl 5 rfl) ?_
      refine lv_aload_n C0.1 C0.2.1 dX6_countAbove_58 rfl (lv_at hl 2 rfl) ?_
      refine gf_X6_88 C0 w g8_j2 rfl dX6_countAbove_59 ?_
      refine lv_icmp_ge (tgt := 91) C0.1 C0.2.1 dX6_countAbove_62 (by decide) (fun c_62 => absurd c_62 (nI_ge (by omega) (by omega))) (fun c_62 => ?_)
      refine lv_aload_n C0.1 C0.2.1 dX6_countAbove_65 rfl (lv_at hl 0 rfl) ?_
      refine gf_X6_44 C0 w g8_0 rfl dX6_countAbove_66 ?_
      refine lv_aload_n C0.1 C0.2.1 dX6_countAbove_69 rfl (lv_at hl 0 rfl) ?_
      refine gf_X6_51 C0 w g8_0 rfl dX6_countAbove_70 ?_
      refine lv_iload C0.1 C0.2.1 dX6_countAbove_73 (lv_at hl 5 rfl) ?_
      refine hv_aald 5 C0 w rfl g8_1 (hn_in (by omega) (by decide)) (by rw [nI_clamp (by omega)]; exact hS6 k (by omega)) dX6_countAbove_75 ?_
      refine hv_cVi C0 w kl_X6_161 kv_X0_isAbove rfl hF8 (c_X0_isAbove (F := sp_w σ j1 i) hF8 (G := sp_w σ j2 (k + 1)) hB8) (by decide) (by decide) rfl hl.1 rfl (Nat.le_of_ble_eq_true rfl) dX6_countAbove_76 ⟨Nat.le_refl _, Nat.le_refl _⟩ (fun x1 V2 Hq lq hp3 w => ?_)
      obtain ⟨e9, hz9⟩ := hp3
      rw [e9] at w; clear e9
      rcases hz9 with ⟨rfl, ha4⟩ | ⟨rfl, ha4⟩
      · skip
        refine lv_if_eq (tgt := 85) C0.1 C0.2.1 dX6_countAbove_79 (by decide) (fun h9 => absurd h9 (by decide)) (fun _ => ?_)
        refine lv_iinc (v := c9 + 1) (lv' := [(3, .int (c9 + 1)), (0, .ref x), (1, .ref (x + 1 + 14 + 2 * j1)), (2, .ref (x + 1 + 14 + 2 * j2)), (4, .int (nI i)), (5, .int (nI k))]) C0.1 C0.2.1 dX6_countAbove_82 hl (k := 3) rfl rfl (by decide) rfl (fun ls hl => ?_)
        refine lv_iinc (v := (nI k) + 1) (lv' := [(5, .int ((nI k) + 1)), (3, .int (c9 + 1)), (0, .ref x), (1, .ref (x + 1 + 14 + 2 * j1)), (2, .ref (x + 1 + 14 + 2 * j2)), (4, .int (nI i))]) C0.1 C0.2.1 dX6_countAbove_85 hl (k := 5) rfl rfl (by decide) rfl (fun ls hl => ?_)
        refine lv_goto (tgt := 56) C0.1 C0.2.1 dX6_countAbove_88 (by decide) ?_
        exact ih (k + 1) _ _ _ _ ls (by omega) (by rw [← he, sp_c2, if_pos ha4]) hF8 hc w (by have h9 := (lv_sub (l' := [(0, .ref x), (1, .ref (x + 1 + 14 + 2 * j1)), (2, .ref (x + 1 + 14 + 2 * j2)), (3, .int (c9 + 1)), (4, .int (nI i)), (5, .int (nI k + 1))]) hl [2, 3, 4, 1, 5, 0] rfl); rw [nI_1] at h9; exact h9)
      · skip
        refine lv_if_eq (tgt := 85) C0.1 C0.2.1 dX6_countAbove_79 (by decide) (fun _ => ?_) (fun h9 => absurd h9 (by decide))
        refine lv_iinc (v := (nI k) + 1) (lv' := [(5, .int ((nI k) + 1)), (0, .ref x), (1, .ref (x + 1 + 14 + 2 * j1)), (2, .ref (x + 1 + 14 + 2 * j2)), (3, .int c9), (4, .int (nI i))]) C0.1 C0.2.1 dX6_countAbove_85 hl (k := 5) rfl rfl (by decide) rfl (fun ls hl => ?_)
        refine lv_goto (tgt := 56) C0.1 C0.2.1 dX6_countAbove_88 (by decide) ?_
        exact ih (k + 1) _ _ _ _ ls (by omega) (by rw [← he, sp_c2, if_neg ha4]) hF8 hc w (by have h9 := (lv_sub (l' := [(0, .ref x), (1, .ref (x + 1 + 14 + 2 * j1)), (2, .ref (x + 1 + 14 + 2 * j2)), (3, .int c9), (4, .int (nI i)), (5, .int (nI k + 1))]) hl [1, 2, 3, 4, 5, 0] rfl); rw [nI_1] at h9; exact h9)
  have loop2 : ∀ (m9 i : Nat) (c9 : Int32) (V8 : hv_V) (Hq : Heap) (lq : List Loc) (ls : Array Slot), (i + m9 = σ.1.1.2.1 j1 + 1) → (sp_c1 σ j1 j2 m9 i c9 = sp_ca σ j1 j2) → ok_cnt σ V V8 x j2 (σ.1.1.2.1 j2) → hv_w X s V8 Hq lq → lv_has ls 6 [(0, .ref x), (1, .ref (x + 1 + 14 + 2 * j1)), (2, .ref (x + 1 + 14 + 2 * j2)), (3, .int c9), (4, .int (nI i))] → W p l e (hv_rm 5 0 0) s m ([.ref x, .ref (x + 1 + 14 + 2 * j1), .ref (x + 1 + 14 + 2 * j2)] : List Value).toArray below meth c Hq lq 0 0 (MQ below (hv_Qi X (fun y V1 => y = sp_ca σ j1 j2 ∧ ok_cnt σ V V1 x j2 (σ.1.1.2.1 j2))) ([.ref x, .ref (x + 1 + 14 + 2 * j1), .ref (x + 1 + 14 + 2 * j2)] : List Value).toArray s 0 0 X.2.2.1) (F0 m 34 ls []) := by
    intro m9
    induction m9 with
    | zero =>
      intro i c9 V8 Hq lq ls hi he hc w hl
      have he : c9 = sp_ca σ j1 j2 := he
      have g8_0 : V8 x = some (xE x kk0) := (hc.1 x (by omega) (by omega)).trans hX0
      have g8_1 : V8 (x + 62) = some (qE X 5 16 bf) := (hc.1 (x + 62) (by omega) (by omega)).trans hS5
      have g8_j1 : V8 (x + 1 + 14 + 2 * j1) = some (rE (σ.1.1.1 j1) (σ.1.1.2.1 j1) (x + 1 + 14 + 2 * j1 + 1)) := (hc.1 _ (by omega) (by omega)).trans (hP3 j1 hj1).1
      have g8n_j1 : V8 (x + 1 + 14 + 2 * j1 + 1) = some (nE X (σ.1.1.2.2 j1)) := (hc.1 _ (by omega) (by omega)).trans (hP3 j1 hj1).2
      have g8_j2 : V8 (x + 1 + 14 + 2 * j2) = some (rE (σ.1.1.1 j2) (σ.1.1.2.1 j2) (x + 1 + 14 + 2 * j2 + 1)) := (hc.1 _ (by omega) (by omega)).trans (hP3 j2 hj2).1
      have g8n_j2 : V8 (x + 1 + 14 + 2 * j2 + 1) = some (nE X (σ.1.1.2.2 j2)) := (hc.1 _ (by omega) (by omega)).trans (hP3 j2 hj2).2
      refine lv_iload C0.1 C0.2.1 dX6_countAbove_34 (lv_at hl 4 rfl) ?_
      refine lv_aload_n C0.1 C0.2.1 dX6_countAbove_36 rfl (lv_at hl 1 rfl) ?_
      refine gf_X6_88 C0 w g8_j1 rfl dX6_countAbove_37 ?_
      refine lv_icmp_gt (tgt := 97) C0.1 C0.2.1 dX6_countAbove_40 (by decide) (fun c_40 => ?_) (fun c_40 => absurd (nI_lt (by omega) (by omega)) c_40)
      refine lv_iload_n C0.1 C0.2.1 dX6_countAbove_97 rfl (lv_at hl 3 rfl) ?_
      exact hv_iret C0 w hr hlk (⟨he, hc⟩) dX6_countAbove_98
    | succ m9 ih =>
      intro i c9 V8 Hq lq ls hi he hc w hl
      have g8_0 : V8 x = some (xE x kk0) := (hc.1 x (by omega) (by omega)).trans hX0
      have g8_1 : V8 (x + 62) = some (qE X 5 16 bf) := (hc.1 (x + 62) (by omega) (by omega)).trans hS5
      have g8_j1 : V8 (x + 1 + 14 + 2 * j1) = some (rE (σ.1.1.1 j1) (σ.1.1.2.1 j1) (x + 1 + 14 + 2 * j1 + 1)) := (hc.1 _ (by omega) (by omega)).trans (hP3 j1 hj1).1
      have g8n_j1 : V8 (x + 1 + 14 + 2 * j1 + 1) = some (nE X (σ.1.1.2.2 j1)) := (hc.1 _ (by omega) (by omega)).trans (hP3 j1 hj1).2
      have g8_j2 : V8 (x + 1 + 14 + 2 * j2) = some (rE (σ.1.1.1 j2) (σ.1.1.2.1 j2) (x + 1 + 14 + 2 * j2 + 1)) := (hc.1 _ (by omega) (by omega)).trans (hP3 j2 hj2).1
      have g8n_j2 : V8 (x + 1 + 14 + 2 * j2 + 1) = some (nE X (σ.1.1.2.2 j2)) := (hc.1 _ (by omega) (by omega)).trans (hP3 j2 hj2).2
      obtain ⟨G8, hG8⟩ := hc.2.2.1
      refine lv_iload C0.1 C0.2.1 dX6_countAbove_34 (lv_at hl 4 rfl) ?_
      refine lv_aload_n C0.1 C0.2.1 dX6_countAbove_36 rfl (lv_at hl 1 rfl) ?_
      refine gf_X6_88 C0 w g8_j1 rfl dX6_countAbove_37 ?_
      refine lv_icmp_gt (tgt := 97) C0.1 C0.2.1 dX6_countAbove_40 (by decide) (fun c_40 => absurd c_40 (nI_nlt (by omega) (by omega))) (fun c_40 => ?_)
      refine lv_aload_n C0.1 C0.2.1 dX6_countAbove_43 rfl (lv_at hl 1 rfl) ?_
      refine lv_iload C0.1 C0.2.1 dX6_countAbove_44 (lv_at hl 4 rfl) ?_
      refine lv_aload_n C0.1 C0.2.1 dX6_countAbove_46 rfl (lv_at hl 0 rfl) ?_
      refine gf_X6_44 C0 w g8_0 rfl dX6_countAbove_47 ?_
      refine hv_cVv C0 w kl_X6_106 kv_X3_reckon rfl g8_j1 (c_X3_reckon (k := i) g8_j1 g8n_j1 hG8 (by omega) (by omega)) (by decide) (by decide) rfl hl.1 rfl (Nat.le_of_ble_eq_true rfl) dX6_countAbove_50 ⟨Nat.le_refl _, Nat.le_refl _⟩ (fun V2 Hq lq hp3 w => ?_)
      have hV4 : V2 x = some (.inr (6, [.ref (x + 1), .ref (x + 27), .int kk0, .ref (x + 53), .ref (x + 57), .ref (x + 58), .ref (x + 60), .ref (x + 61), .ref (x + 62), .ref (x + 63)])) := by rw [hp3, hv_un (by omega)]; exact g8_0
      have hV5 : V2 (x + 62) = some (.inl (X.2.1 5, 16, .inr (.inr (.inr (.inr bf))))) := by rw [hp3, hv_un (by omega)]; exact g8_1
      have hV6 : V2 (x + 1 + 14 + 2 * j1) = some (rE (σ.1.1.1 j1) (σ.1.1.2.1 j1) (x + 1 + 14 + 2 * j1 + 1)) := by rw [hp3, hv_un (by omega)]; exact g8_j1
      have hV7 : V2 (x + 1 + 14 + 2 * j1 + 1) = some (nE X (σ.1.1.2.2 j1)) := by rw [hp3, hv_un (by omega)]; exact g8n_j1
      have hV8 : V2 (x + 1 + 14 + 2 * j2) = some (rE (σ.1.1.1 j2) (σ.1.1.2.1 j2) (x + 1 + 14 + 2 * j2 + 1)) := by rw [hp3, hv_un (by omega)]; exact g8_j2
      have hV9 : V2 (x + 1 + 14 + 2 * j2 + 1) = some (nE X (σ.1.1.2.2 j2)) := by rw [hp3, hv_un (by omega)]; exact g8n_j2
      have hV11 : V2 (x + 60) = some (fE (fx_reckon (σ.1.1.1 j1) (σ.1.1.2.2 j1) i)) := by rw [hp3]; exact hv_us
      refine lv_iconst (v := 0) C0.1 C0.2.1 dX6_countAbove_53 (by decide) ?_
      refine lv_istore (lv' := [(5, .int 0), (0, .ref x), (1, .ref (x + 1 + 14 + 2 * j1)), (2, .ref (x + 1 + 14 + 2 * j2)), (3, .int c9), (4, .int (nI i))]) C0.1 C0.2.1 dX6_countAbove_54 hl (by decide) rfl (fun ls hl => ?_)
      have hc9 : ok_cnt σ V V2 x j2 (σ.1.1.2.1 j2) := ⟨fun q q1 q2 => by rw [hp3, hv_un q2]; exact hc.1 q q1 q2, fun i9 hi9 => (hc.2.1 i9 hi9).elim fun F h9 => ⟨F, by rw [hp3, hv_un (by omega)]; exact h9⟩, ⟨_, hV11⟩, fun i9 hi9 => by rw [hp3, hv_un (by omega)]; exact hc.2.2.2 i9 hi9⟩
      exact loop3 i (by omega) c9 (fun c8 V8 Hq lq ls e9 hc w hl => ih (i + 1) c8 V8 Hq lq ls (by omega) (by rw [← he, sp_c1, e9]) hc w hl) (σ.1.1.2.1 j2) 0 c9 _ _ _ ls (by omega) rfl hV11 hc9 w (lv_sub hl [1, 2, 3, 4, 5, 0] rfl)
  have loop1 : ∀ (m9 k : Nat) (V8 : hv_V) (Hq : Heap) (lq : List Loc) (ls : Array Slot), (k + m9 = σ.1.1.2.1 j2) → ok_cnt σ V V8 x j2 k → hv_w X s V8 Hq lq → lv_has ls 6 [(0, .ref x), (1, .ref (x + 1 + 14 + 2 * j1)), (2, .ref (x + 1 + 14 + 2 * j2)), (3, .int (nI k))] → W p l e (hv_rm 5 0 0) s m ([.ref x, .ref (x + 1 + 14 + 2 * j1), .ref (x + 1 + 14 + 2 * j2)] : List Value).toArray below meth c Hq lq 0 0 (MQ below (hv_Qi X (fun y V1 => y = sp_ca σ j1 j2 ∧ ok_cnt σ V V1 x j2 (σ.1.1.2.1 j2))) ([.ref x, .ref (x + 1 + 14 + 2 * j1), .ref (x + 1 + 14 + 2 * j2)] : List Value).toArray s 0 0 X.2.2.1) (F0 m 2 ls []) := by
    intro m9
    induction m9 with
    | zero =>
      intro k V8 Hq lq ls hk hc w hl
      have hk : k = σ.1.1.2.1 j2 := hk
      have g8_0 : V8 x = some (xE x kk0) := (hc.1 x (by omega) (by omega)).trans hX0
      have g8_1 : V8 (x + 62) = some (qE X 5 16 bf) := (hc.1 (x + 62) (by omega) (by omega)).trans hS5
      have g8_j1 : V8 (x + 1 + 14 + 2 * j1) = some (rE (σ.1.1.1 j1) (σ.1.1.2.1 j1) (x + 1 + 14 + 2 * j1 + 1)) := (hc.1 _ (by omega) (by omega)).trans (hP3 j1 hj1).1
      have g8n_j1 : V8 (x + 1 + 14 + 2 * j1 + 1) = some (nE X (σ.1.1.2.2 j1)) := (hc.1 _ (by omega) (by omega)).trans (hP3 j1 hj1).2
      have g8_j2 : V8 (x + 1 + 14 + 2 * j2) = some (rE (σ.1.1.1 j2) (σ.1.1.2.1 j2) (x + 1 + 14 + 2 * j2 + 1)) := (hc.1 _ (by omega) (by omega)).trans (hP3 j2 hj2).1
      have g8n_j2 : V8 (x + 1 + 14 + 2 * j2 + 1) = some (nE X (σ.1.1.2.2 j2)) := (hc.1 _ (by omega) (by omega)).trans (hP3 j2 hj2).2
      refine lv_iload_n C0.1 C0.2.1 dX6_countAbove_2 rfl (lv_at hl 3 rfl) ?_
      refine lv_aload_n C0.1 C0.2.1 dX6_countAbove_3 rfl (lv_at hl 2 rfl) ?_
      refine gf_X6_88 C0 w g8_j2 rfl dX6_countAbove_4 ?_
      refine lv_icmp_ge (tgt := 29) C0.1 C0.2.1 dX6_countAbove_7 (by decide) (fun c_7 => ?_) (fun c_7 => absurd (nI_le (by omega) (by omega)) c_7)
      refine lv_iconst (v := 0) C0.1 C0.2.1 dX6_countAbove_29 (by decide) ?_
      refine lv_istore_n (lv' := [(3, .int 0), (0, .ref x), (1, .ref (x + 1 + 14 + 2 * j1)), (2, .ref (x + 1 + 14 + 2 * j2))]) C0.1 C0.2.1 dX6_countAbove_30 rfl hl (by decide) rfl (fun ls hl => ?_)
      refine lv_iconst (v := 1) C0.1 C0.2.1 dX6_countAbove_31 (by decide) ?_
      refine lv_istore (lv' := [(4, .int 1), (3, .int 0), (0, .ref x), (1, .ref (x + 1 + 14 + 2 * j1)), (2, .ref (x + 1 + 14 + 2 * j2))]) C0.1 C0.2.1 dX6_countAbove_32 hl (by decide) rfl (fun ls hl => ?_)
      exact loop2 (σ.1.1.2.1 j1) 1 0 _ _ _ ls (by omega) rfl (hk ▸ hc) w (lv_sub hl [2, 3, 4, 1, 0] rfl)
    | succ m9 ih =>
      intro k V8 Hq lq ls hi hc w hl
      have g8_0 : V8 x = some (xE x kk0) := (hc.1 x (by omega) (by omega)).trans hX0
      have g8_1 : V8 (x + 62) = some (qE X 5 16 bf) := (hc.1 (x + 62) (by omega) (by omega)).trans hS5
      have g8_j1 : V8 (x + 1 + 14 + 2 * j1) = some (rE (σ.1.1.1 j1) (σ.1.1.2.1 j1) (x + 1 + 14 + 2 * j1 + 1)) := (hc.1 _ (by omega) (by omega)).trans (hP3 j1 hj1).1
      have g8n_j1 : V8 (x + 1 + 14 + 2 * j1 + 1) = some (nE X (σ.1.1.2.2 j1)) := (hc.1 _ (by omega) (by omega)).trans (hP3 j1 hj1).2
      have g8_j2 : V8 (x + 1 + 14 + 2 * j2) = some (rE (σ.1.1.1 j2) (σ.1.1.2.1 j2) (x + 1 + 14 + 2 * j2 + 1)) := (hc.1 _ (by omega) (by omega)).trans (hP3 j2 hj2).1
      have g8n_j2 : V8 (x + 1 + 14 + 2 * j2 + 1) = some (nE X (σ.1.1.2.2 j2)) := (hc.1 _ (by omega) (by omega)).trans (hP3 j2 hj2).2
      obtain ⟨G8, hG8⟩ := hc.2.1 k (by omega)
      refine lv_iload_n C0.1 C0.2.1 dX6_countAbove_2 rfl (lv_at hl 3 rfl) ?_
      refine lv_aload_n C0.1 C0.2.1 dX6_countAbove_3 rfl (lv_at hl 2 rfl) ?_
      refine gf_X6_88 C0 w g8_j2 rfl dX6_countAbove_4 ?_
      refine lv_icmp_ge (tgt := 29) C0.1 C0.2.1 dX6_countAbove_7 (by decide) (fun c_7 => absurd c_7 (nI_ge (by omega) (by omega))) (fun c_7 => ?_)
      refine lv_aload_n C0.1 C0.2.1 dX6_countAbove_10 rfl (lv_at hl 2 rfl) ?_
      refine lv_iload_n C0.1 C0.2.1 dX6_countAbove_11 rfl (lv_at hl 3 rfl) ?_
      refine lv_iconst (v := 1) C0.1 C0.2.1 dX6_countAbove_12 (by decide) ?_
      refine lv_iadd C0.1 C0.2.1 dX6_countAbove_13 ?_
      rw [nI_1]
      refine lv_aload_n C0.1 C0.2.1 dX6_countAbove_14 rfl (lv_at hl 0 rfl) ?_
      refine gf_X6_51 C0 w g8_0 rfl dX6_countAbove_15 ?_
      refine lv_iload_n C0.1 C0.2.1 dX6_countAbove_18 rfl (lv_at hl 3 rfl) ?_
      refine hv_aald 5 C0 w rfl g8_1 (hn_in (by omega) (by decide)) (by rw [nI_clamp (by omega)]; exact hS6 k (by omega)) dX6_countAbove_19 ?_
      refine hv_cVv C0 w kl_X6_106 kv_X3_reckon rfl g8_j2 (c_X3_reckon (k := k + 1) g8_j2 g8n_j2 hG8 (by omega) (by omega)) (by decide) (by decide) rfl hl.1 rfl (Nat.le_of_ble_eq_true rfl) dX6_countAbove_20 ⟨Nat.le_refl _, Nat.le_refl _⟩ (fun V2 Hq lq hp3 w => ?_)
      have hV4 : V2 x = some (.inr (6, [.ref (x + 1), .ref (x + 27), .int kk0, .ref (x + 53), .ref (x + 57), .ref (x + 58), .ref (x + 60), .ref (x + 61), .ref (x + 62), .ref (x + 63)])) := by rw [hp3, hv_un (by omega)]; exact g8_0
      have hV5 : V2 (x + 62) = some (.inl (X.2.1 5, 16, .inr (.inr (.inr (.inr bf))))) := by rw [hp3, hv_un (by omega)]; exact g8_1
      have hV6 : V2 (x + 1 + 14 + 2 * j1) = some (rE (σ.1.1.1 j1) (σ.1.1.2.1 j1) (x + 1 + 14 + 2 * j1 + 1)) := by rw [hp3, hv_un (by omega)]; exact g8_j1
      have hV7 : V2 (x + 1 + 14 + 2 * j1 + 1) = some (nE X (σ.1.1.2.2 j1)) := by rw [hp3, hv_un (by omega)]; exact g8n_j1
      have hV8 : V2 (x + 1 + 14 + 2 * j2) = some (rE (σ.1.1.1 j2) (σ.1.1.2.1 j2) (x + 1 + 14 + 2 * j2 + 1)) := by rw [hp3, hv_un (by omega)]; exact g8_j2
      have hV9 : V2 (x + 1 + 14 + 2 * j2 + 1) = some (nE X (σ.1.1.2.2 j2)) := by rw [hp3, hv_un (by omega)]; exact g8n_j2
      have hV11 : V2 (x + 76 + k) = some (fE (fx_reckon (σ.1.1.1 j2) (σ.1.1.2.2 j2) (k + 1))) := by rw [hp3]; exact hv_us
      refine lv_iinc (v := (nI k) + 1) (lv' := [(3, .int ((nI k) + 1)), (0, .ref x), (1, .ref (x + 1 + 14 + 2 * j1)), (2, .ref (x + 1 + 14 + 2 * j2))]) C0.1 C0.2.1 dX6_countAbove_23 hl (k := 3) rfl rfl (by decide) rfl (fun ls hl => ?_)
      refine lv_goto (tgt := 2) C0.1 C0.2.1 dX6_countAbove_26 (by decide) ?_
      have hc9 : ok_cnt σ V V2 x j2 (k + 1) := ⟨fun q q1 q2 => by rw [hp3, hv_un (by omega)]; exact hc.1 q q1 q2, fun i9 hi9 => by
        by_cases h9 : i9 = k
        · subst h9; exact ⟨_, by rw [hp3]; exact hv_us⟩
        · exact (hc.2.1 i9 hi9).elim fun F h8 => ⟨F, by rw [hp3, hv_un (by omega)]; exact h8⟩, hc.2.2.1.elim fun F h8 => ⟨F, by rw [hp3, hv_un (by omega)]; exact h8⟩, fun i9 hi9 => by
        by_cases h9 : i9 = k
        · subst h9; rw [hp3]; exact hv_us
        · rw [hp3, hv_un (by omega)]; exact hc.2.2.2 i9 (by omega)⟩
      exact ih (k + 1) _ _ _ ls (by omega) hc9 w (by have h9 := (lv_sub (l' := [(0, .ref x), (1, .ref (x + 1 + 14 + 2 * j1)), (2, .ref (x + 1 + 14 + 2 * j2)), (3, .int (nI k + 1))]) hl [1, 2, 3, 0] rfl); rw [nI_1] at h9; exact h9)
  refine lv_iconst (v := 0) C0.1 C0.2.1 dX6_countAbove_0 (by decide) ?_
  refine lv_istore_n (lv' := [(3, .int 0), (0, .ref x), (1, .ref (x + 1 + 14 + 2 * j1)), (2, .ref (x + 1 + 14 + 2 * j2))]) C0.1 C0.2.1 dX6_countAbove_1 rfl hl (by decide) rfl (fun ls hl => ?_)
  exact loop1 (σ.1.1.2.1 j2) 0 V _ _ ls (by omega) ⟨fun _ _ _ => rfl, hS7, ⟨LF, hS3⟩, fun _ h9 => absurd h9 (Nat.not_lt_zero _)⟩ w (lv_sub hl [1, 2, 3, 0] rfl)

set_option maxHeartbeats 4000000 in
set_option maxRecDepth 100000 in
theorem m_X6_odds {l : Launch} {X : hv_X} {V : hv_V} {x : Nat} {σ : hs_S} (hX : okX X V x σ) (hB : hs_b σ) {a b k9 : Int32} : hv_Ml l X 6 yX6_odds cX6_odds 5 V [.ref x, .int a, .int b, .int k9] (fun y V1 => y = sp_odds σ a b k9 ∧ okX X V1 x σ ∧ hv_out V V1 x (x + 92)) := by
  refine hv_enter (by decide) (Nat.le_of_ble_eq_true rfl) ?_
  intro p e s m below meth c ls C0 hr hlk hnm w hl
  have hl : lv_has ls 5 [(0, .ref x), (1, .int a), (2, .int b), (3, .int k9)] := hl
  obtain ⟨kk0, hX0, hPg, hKp, hTx, hTp, hSc⟩ := id hX
  obtain ⟨hP0, ⟨rf, hP1, hP2⟩, hP3, hP4, hP5, hP6⟩ := id hPg
  obtain ⟨⟨tf, hT1, hT2⟩, hT3⟩ := id hTp
  obtain ⟨⟨tk, tn, tg, hS1, hS2⟩, ⟨LF, hS3⟩, ⟨RF, hS4⟩, ⟨bf, hS5, hS6⟩, hS7, uf, hS8⟩ := id hSc
  have hbR := hB.1.1
  obtain ⟨sf, sg, sh, hL0, hL1, hL2, hL3, hLa⟩ := id hP4
  obtain ⟨ef, eg, eh, hM0, hM1, hM2, hM3, hMa⟩ := id hP5
  obtain ⟨kf, kg, kh, hK0, hK1, hK2, hK3, hKa⟩ := id hP6
  obtain ⟨pl, cl, wd, vl, hQ0, hQ1, hQ2, hQ3⟩ := id hTx
  refine lv_iload_n C0.1 C0.2.1 dX6_odds_0 rfl (lv_at hl 1 rfl) ?_
  refine hv_cSi (As := [.int a]) C0 w kl_X6_60 ks_X6_isRow (c_X6_isRow) (by decide) (by decide) rfl hl.1 rfl (Nat.le_of_ble_eq_true rfl) dX6_odds_1 ⟨Nat.le_refl _, Nat.le_refl _⟩ (fun x1 V2 Hq lq hp3 w => ?_)
  obtain ⟨e9, hz9⟩ := hp3
  rw [e9] at w; clear e9
  rcases hz9 with ⟨rfl, hb4⟩ | ⟨rfl, hb4⟩
  · skip
    have ihb4 := hb4
    obtain ⟨j1, hj1, rfl⟩ := sp_inN (k := 5) (by decide) hb4
    have kj1 : (nI j1).toNatClampNeg = j1 := nI_clamp (by omega)
    have hR_j1 : V (x + 1 + 14 + 2 * j1) = some (rE (σ.1.1.1 j1) (σ.1.1.2.1 j1) (x + 1 + 14 + 2 * j1 + 1)) := (hP3 j1 hj1).1
    have hN_j1 : V (x + 1 + 14 + 2 * j1 + 1) = some (nE X (σ.1.1.2.2 j1)) := (hP3 j1 hj1).2
    have hn_j1 : σ.1.1.2.1 j1 ≤ 16 := (hbR j1 hj1).2.1
    refine lv_if_eq (tgt := 21) C0.1 C0.2.1 dX6_odds_4 (by decide) (fun h9 => absurd h9 (by decide)) (fun _ => ?_)
    refine lv_iload_n C0.1 C0.2.1 dX6_odds_7 rfl (lv_at hl 2 rfl) ?_
    refine hv_cSi (As := [.int b]) C0 w kl_X6_60 ks_X6_isRow (c_X6_isRow) (by decide) (by decide) rfl hl.1 rfl (Nat.le_of_ble_eq_true rfl) dX6_odds_8 ⟨Nat.le_refl _, Nat.le_refl _⟩ (fun x5 V6 Hq lq hp7 w => ?_)
    obtain ⟨e9, hz9⟩ := hp7
    rw [e9] at w; clear e9
    rcases hz9 with ⟨rfl, hb8⟩ | ⟨rfl, hb8⟩
    · skip
      have ihb8 := hb8
      obtain ⟨j2, hj2, rfl⟩ := sp_inN (k := 5) (by decide) hb8
      have kj2 : (nI j2).toNatClampNeg = j2 := nI_clamp (by omega)
      have hR_j2 : V (x + 1 + 14 + 2 * j2) = some (rE (σ.1.1.1 j2) (σ.1.1.2.1 j2) (x + 1 + 14 + 2 * j2 + 1)) := (hP3 j2 hj2).1
      have hN_j2 : V (x + 1 + 14 + 2 * j2 + 1) = some (nE X (σ.1.1.2.2 j2)) := (hP3 j2 hj2).2
      have hn_j2 : σ.1.1.2.1 j2 ≤ 16 := (hbR j2 hj2).2.1
      refine lv_if_eq (tgt := 21) C0.1 C0.2.1 dX6_odds_11 (by decide) (fun h9 => absurd h9 (by decide)) (fun _ => ?_)
      refine lv_iload_n C0.1 C0.2.1 dX6_odds_14 rfl (lv_at hl 3 rfl) ?_
      refine hv_cSi (As := [.int k9]) C0 w kl_X6_145 ks_X6_isPart (c_X6_isPart) (by decide) (by decide) rfl hl.1 rfl (Nat.le_of_ble_eq_true rfl) dX6_odds_15 ⟨Nat.le_refl _, Nat.le_refl _⟩ (fun x9 V10 Hq lq hp11 w => ?_)
      obtain ⟨e9, hz9⟩ := hp11
      rw [e9] at w; clear e9
      rcases hz9 with ⟨rfl, hb12⟩ | ⟨rfl, hb12⟩
      · skip
        refine lv_if_ne (tgt := 25) C0.1 C0.2.1 dX6_odds_18 (by decide) (fun _ => ?_) (fun h9 => absurd h9 (by decide))
        refine lv_aload_n C0.1 C0.2.1 dX6_odds_25 rfl (lv_at hl 0 rfl) ?_
        refine gf_X6_12 C0 w hX0 rfl dX6_odds_26 ?_
        refine gf_X6_76 C0 w hP0 rfl dX6_odds_29 ?_
        refine lv_iload_n C0.1 C0.2.1 dX6_odds_32 rfl (lv_at hl 1 rfl) ?_
        refine hv_aald 3 C0 w rfl hP1 (hn_in hj1 (by decide)) (by rw [kj1]; exact hP2 j1 hj1) dX6_odds_33 ?_
        refine gf_X6_88 C0 w hR_j1 rfl dX6_odds_34 ?_
        refine lv_aload_n C0.1 C0.2.1 dX6_odds_37 rfl (lv_at hl 0 rfl) ?_
        refine gf_X6_12 C0 w hX0 rfl dX6_odds_38 ?_
        refine gf_X6_76 C0 w hP0 rfl dX6_odds_41 ?_
        refine lv_iload_n C0.1 C0.2.1 dX6_odds_44 rfl (lv_at hl 2 rfl) ?_
        refine hv_aald 3 C0 w rfl hP1 (hn_in hj2 (by decide)) (by rw [kj2]; exact hP2 j2 hj2) dX6_odds_45 ?_
        refine gf_X6_88 C0 w hR_j2 rfl dX6_odds_46 ?_
        refine lv_imul C0.1 C0.2.1 dX6_odds_49 ?_
        refine lv_istore (lv' := [(4, .int ((nI (σ.1.1.2.1 j1)) * (nI (σ.1.1.2.1 j2)))), (0, .ref x), (1, .int (nI j1)), (2, .int (nI j2)), (3, .int k9)]) C0.1 C0.2.1 dX6_odds_50 hl (by decide) rfl (fun ls hl => ?_)
        refine lv_iload C0.1 C0.2.1 dX6_odds_52 (lv_at hl 0 rfl) ?_
        refine lv_if_ne (tgt := 61) C0.1 C0.2.1 dX6_odds_54 (by decide) (fun c_54 => ?_) (fun c_54 => ?_)
        · skip
          refine lv_aload_n C0.1 C0.2.1 dX6_odds_61 rfl (lv_at hl 1 rfl) ?_
          refine gf_X6_44 C0 w hX0 rfl dX6_odds_62 ?_
          refine lv_aload_n C0.1 C0.2.1 dX6_odds_65 rfl (lv_at hl 1 rfl) ?_
          refine lv_aload_n C0.1 C0.2.1 dX6_odds_66 rfl (lv_at hl 1 rfl) ?_
          refine gf_X6_12 C0 w hX0 rfl dX6_odds_67 ?_
          refine gf_X6_76 C0 w hP0 rfl dX6_odds_70 ?_
          refine lv_iload_n C0.1 C0.2.1 dX6_odds_73 rfl (lv_at hl 2 rfl) ?_
          refine hv_aald 3 C0 w rfl hP1 (hn_in hj1 (by decide)) (by rw [kj1]; exact hP2 j1 hj1) dX6_odds_74 ?_
          refine lv_aload_n C0.1 C0.2.1 dX6_odds_75 rfl (lv_at hl 1 rfl) ?_
          refine gf_X6_12 C0 w hX0 rfl dX6_odds_76 ?_
          refine gf_X6_76 C0 w hP0 rfl dX6_odds_79 ?_
          refine lv_iload_n C0.1 C0.2.1 dX6_odds_82 rfl (lv_at hl 3 rfl) ?_
          refine hv_aald 3 C0 w rfl hP1 (hn_in hj2 (by decide)) (by rw [kj2]; exact hP2 j2 hj2) dX6_odds_83 ?_
          refine hv_cVi C0 w kl_X6_192 kv_X6_countAbove rfl hX0 (c_X6_countAbove hX hB hj1 hj2) (by decide) (by decide) rfl hl.1 rfl (Nat.le_of_ble_eq_true rfl) dX6_odds_84 ⟨Nat.le_refl _, Nat.le_refl _⟩ (fun x13 V14 Hq lq hp15 w => ?_)
          obtain ⟨ex9, hc9⟩ := hp15
          rw [ex9]; clear ex9
          have hX9 := hc9.okX hX
          obtain ⟨kk0, hX0, hPg, hKp, hTx, hTp, hSc⟩ := id hX9
          obtain ⟨⟨tk, tn, tg, hS1, hS2⟩, ⟨LF, hS3⟩, ⟨RF, hS4⟩, ⟨bf, hS5, hS6⟩, hS7, uf, hS8⟩ := id hSc
          refine lv_i2l (v := (sp_ca σ j1 j2).toInt64) C0.1 C0.2.1 dX6_odds_87 rfl ?_
          refine lv_iload C0.1 C0.2.1 dX6_odds_88 (lv_at hl 0 rfl) ?_
          refine lv_i2l (v := ((nI (σ.1.1.2.1 j1)) * (nI (σ.1.1.2.1 j2))).toInt64) C0.1 C0.2.1 dX6_odds_90 rfl ?_
          refine hv_cVv C0 w kl_X6_72 kv_X0_become rfl hS3 (c_X0_become (F := LF) hS3) (by decide) (by decide) rfl hl.1 rfl (Nat.le_of_ble_eq_true rfl) dX6_odds_91 ⟨Nat.le_refl _, Nat.le_refl _⟩ (fun V17 Hq lq hp18 w => ?_)
          have hV19 : V17 x = some (.inr (6, [.ref (x + 1), .ref (x + 27), .int kk0, .ref (x + 53), .ref (x + 57), .ref (x + 58), .ref (x + 60), .ref (x + 61), .ref (x + 62), .ref (x + 63)])) := by rw [hp18, hv_un (by omega)]; exact hX0
          have hV21 : V17 (x + 60) = some (fE (fx_become ((sp_ca σ j1 j2).toInt64) (((nI (σ.1.1.2.1 j1)) * (nI (σ.1.1.2.1 j2))).toInt64))) := by rw [hp18]; exact hv_us
          refine lv_aload_n C0.1 C0.2.1 dX6_odds_94 rfl (lv_at hl 1 rfl) ?_
          refine gf_X6_44 C0 w hV19 rfl dX6_odds_95 ?_
          refine lv_iload_n C0.1 C0.2.1 dX6_odds_98 rfl (lv_at hl 4 rfl) ?_
          refine hv_cVl C0 w kl_X6_150 kv_X0_partOf rfl hV21 (c_X0_partOf hV21) (by decide) (by decide) rfl hl.1 rfl (Nat.le_of_ble_eq_true rfl) dX6_odds_99 ⟨Nat.le_refl _, Nat.le_refl _⟩ (fun x22 V23 Hq lq hp24 w => ?_)
          obtain ⟨e9, e8⟩ := hp24
          rw [e9] at w; rw [e8]; clear e9 e8
          exact hv_lret C0 w hr hlk (⟨by rw [sp_odds, if_pos ⟨ihb4, ihb8, hb12⟩, kj1, kj2, if_neg c_54], by rw [hp18]; exact hX9.left, (fun q h7 => by rw [hp18, hv_un (by omega)]; exact hc9.1 q (by omega) (by omega))⟩) dX6_odds_102
        · skip
          refine lv_ldc2 C0.1 C0.2.1 C0.2.2.2.1 (C0.2.2.2.2.1 _ kk_X6_148) dX6_odds_57 ?_
          exact hv_lret C0 w hr hlk (⟨by rw [sp_odds, if_pos ⟨ihb4, ihb8, hb12⟩, kj1, kj2, if_pos c_54], hX, hv_out.rf⟩) dX6_odds_60
      · skip
        refine lv_if_ne (tgt := 25) C0.1 C0.2.1 dX6_odds_18 (by decide) (fun h9 => absurd h9 (by decide)) (fun _ => ?_)
        refine lv_ldc2 C0.1 C0.2.1 C0.2.2.2.1 (C0.2.2.2.2.1 _ kk_X6_148) dX6_odds_21 ?_
        exact hv_lret C0 w hr hlk (⟨by rw [sp_odds, if_neg (fun h9 => hb12 h9.2.2)], hX, hv_out.rf⟩) dX6_odds_24
    · skip
      refine lv_if_eq (tgt := 21) C0.1 C0.2.1 dX6_odds_11 (by decide) (fun _ => ?_) (fun h9 => absurd h9 (by decide))
      refine lv_ldc2 C0.1 C0.2.1 C0.2.2.2.1 (C0.2.2.2.2.1 _ kk_X6_148) dX6_odds_21 ?_
      exact hv_lret C0 w hr hlk (⟨by rw [sp_odds, if_neg (fun h9 => hb8 h9.2.1)], hX, hv_out.rf⟩) dX6_odds_24
  · skip
    refine lv_if_eq (tgt := 21) C0.1 C0.2.1 dX6_odds_4 (by decide) (fun _ => ?_) (fun h9 => absurd h9 (by decide))
    refine lv_ldc2 C0.1 C0.2.1 C0.2.2.2.1 (C0.2.2.2.2.1 _ kk_X6_148) dX6_odds_21 ?_
    exact hv_lret C0 w hr hlk (⟨by rw [sp_odds, if_neg (fun h9 => hb4 h9.1)], hX, hv_out.rf⟩) dX6_odds_24

