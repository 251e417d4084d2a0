def hs_mix (P P2 : hs_P) (i : Nat) : hs_P := ((sp_cp P.1.1 P2.1.1 i, sp_cp P.1.2.1 P2.1.2.1 i, sp_cp P.1.2.2 P2.1.2.2 i), P.2)
theorem hs_cpu {α : Type} (f g : Nat → α) (i : Nat) : hs_up (sp_cp f g i) i (g i) = sp_cp f g (i + 1) := by
  funext j
  by_cases h : j = i
  · subst h; rw [hs_us]; simp [sp_cp]
  · rw [hs_un h]
    by_cases h2 : j < i
    · simp [sp_cp, h2, Nat.lt_succ_of_lt h2]
    · simp [sp_cp, h2, show ¬ j < i + 1 by omega]
theorem hs_mixs (P P2 : hs_P) (i : Nat) : hs_row (hs_mix P P2 i) i (P2.1.1 i) (P2.1.2.1 i) (P2.1.2.2 i) = hs_mix P P2 (i + 1) := by
  simp only [hs_row, hs_mix, hs_cpu]
theorem ok_list.cp {X : hv_X} {V1 : hv_V} {l M : Nat} {L : hs_L} {f g h f2 g2 h2f : Nat → Int32} (h0 : V1 l = some (lE l L.1)) (h1 : V1 (l + 1) = some (iE X M (sp_cp f f2 L.1))) (h2 : V1 (l + 2) = some (iE X M (sp_cp g g2 L.1))) (h3 : V1 (l + 3) = some (iE X M (sp_cp h h2f L.1))) (ha : ∀ j, j < L.1 → f2 j = L.2.1 j ∧ g2 j = L.2.2.1 j ∧ h2f j = L.2.2.2 j) : ok_list X V1 l M L := by
  refine ⟨_, _, _, h0, h1, h2, h3, fun j hj => ?_⟩
  have := ha j hj
  simp only [sp_cp, if_pos hj]
  exact this
def sp_sum (P : hs_P) : Nat → Nat → Int32 → Int32
  | 0, _, a => a
  | m + 1, i, a => sp_sum P m (i + 1) (a + nI (P.1.2.1 i))
def sp_tot (P : hs_P) : Int32 := sp_sum P 6 0 0
def sp_image (σ : hs_S) : Int32 × hs_S := (sp_tot σ.1, (σ.1, some σ.1, σ.2.2))
def sp_undo (σ : hs_S) : Int32 × hs_S := match σ.2.1 with
  | none => (-3, σ)
  | some P => (sp_tot P, (P, some P, σ.2.2))
set_option maxHeartbeats 4000000 in
set_option maxRecDepth 100000 in
theorem c_X2_numbersInAll {l : Launch} {X : hv_X} {V : hv_V} {p9 : Nat} {P : hs_P} (hPg : ok_page X V p9 P) : hv_Mi l X 0 yX2_numbersInAll cX2_numbersInAll 3 .int V [.ref p9] (fun y V1 => V1 = V ∧ y = sp_tot P) := by
  refine hv_enter (by decide) (Nat.le_of_ble_eq_true rfl) ?_
  intro p e s m below meth c ls C0 hr hlk hnm w hl
  have hl : lv_has ls 3 [(0, .ref p9)] := hl
  obtain ⟨hP0, ⟨rf, hP1, hP2⟩, hP3, hP4, hP5, hP6⟩ := id hPg
  have loop : ∀ (m9 k : Nat) (a9 : Int32) (Hq : Heap) (lq : List Loc) (ls : Array Slot), (k + m9 = 6) → (sp_sum P m9 k a9 = sp_tot P) → hv_w X s (V) Hq lq → lv_has ls 3 [(0, .ref p9), (1, .int a9), (2, .int (nI k))] → W p l e (hv_rm 0 0 0) s m ([.ref p9] : List Value).toArray below meth c Hq lq 0 0 (MQ below (hv_Qi X (fun y V1 => V1 = V ∧ y = sp_tot P)) ([.ref p9] : List Value).toArray s 0 0 X.2.2.1) (F0 m 4 ls []) := by
    intro m9
    induction m9 with
    | zero =>
      intro k a9 Hq lq ls hi he w hl
      have he : a9 = sp_tot P := he
      refine lv_iload_n C0.1 C0.2.1 dX2_numbersInAll_4 rfl (lv_at hl 2 rfl) ?_
      refine lv_bipush (v := 6) C0.1 C0.2.1 dX2_numbersInAll_5 (by decide) ?_
      refine lv_icmp_ge (tgt := 28) C0.1 C0.2.1 dX2_numbersInAll_7 (by decide) (fun c_7 => ?_) (fun c_7 => absurd (show nI 6 ≤ nI k from nI_le (by omega) (by omega)) c_7)
      refine lv_iload_n C0.1 C0.2.1 dX2_numbersInAll_28 rfl (lv_at hl 1 rfl) ?_
      exact hv_iret C0 w hr hlk (⟨rfl, he⟩) dX2_numbersInAll_29
    | succ m9 ih =>
      intro k a9 Hq lq ls hi he w hl
      have hR8 := (hP3 k (by omega)).1
      refine lv_iload_n C0.1 C0.2.1 dX2_numbersInAll_4 rfl (lv_at hl 2 rfl) ?_
      refine lv_bipush (v := 6) C0.1 C0.2.1 dX2_numbersInAll_5 (by decide) ?_
      refine lv_icmp_ge (tgt := 28) C0.1 C0.2.1 dX2_numbersInAll_7 (by decide) (fun c_7 => absurd c_7 (show ¬ nI 6 ≤ nI k from nI_ge (by omega) (by omega))) (fun c_7 => ?_)
      refine lv_iload_n C0.1 C0.2.1 dX2_numbersInAll_10 rfl (lv_at hl 1 rfl) ?_
      refine lv_aload_n C0.1 C0.2.1 dX2_numbersInAll_11 rfl (lv_at hl 0 rfl) ?_
      refine gf_X2_11 C0 w hP0 rfl dX2_numbersInAll_12 ?_
      refine lv_iload_n C0.1 C0.2.1 dX2_numbersInAll_15 rfl (lv_at hl 2 rfl) ?_
      refine hv_aald 3 C0 w rfl hP1 (hn_in (by omega) (by decide)) (by rw [nI_clamp (by omega)]; exact hP2 k (by omega)) dX2_numbersInAll_16 ?_
      refine gf_X2_40 C0 w hR8 rfl dX2_numbersInAll_17 ?_
      refine lv_iadd C0.1 C0.2.1 dX2_numbersInAll_20 ?_
      refine lv_istore_n (lv' := [(1, .int (a9 + (nI (P.1.2.1 k)))), (0, .ref p9), (2, .int (nI k))]) C0.1 C0.2.1 dX2_numbersInAll_21 rfl hl (by decide) rfl (fun ls hl => ?_)
      refine lv_iinc (v := (nI k) + 1) (lv' := [(2, .int ((nI k) + 1)), (1, .int (a9 + (nI (P.1.2.1 k)))), (0, .ref p9)]) C0.1 C0.2.1 dX2_numbersInAll_22 hl (k := 2) rfl rfl (by decide) rfl (fun ls hl => ?_)
      refine lv_goto (tgt := 4) C0.1 C0.2.1 dX2_numbersInAll_25 (by decide) ?_
      exact ih (k + 1) _ _ _ ls (by omega) (by rw [← he, sp_sum]) w (by have h9 := (lv_sub (l' := [(0, .ref p9), (1, .int (a9 + nI (P.1.2.1 k))), (2, .int (nI k + 1))]) hl [2, 1, 0] rfl); rw [nI_1] at h9; exact h9)
  refine lv_iconst (v := 0) C0.1 C0.2.1 dX2_numbersInAll_0 (by decide) ?_
  refine lv_istore_n (lv' := [(1, .int 0), (0, .ref p9)]) C0.1 C0.2.1 dX2_numbersInAll_1 rfl hl (by decide) rfl (fun ls hl => ?_)
  refine lv_iconst (v := 0) C0.1 C0.2.1 dX2_numbersInAll_2 (by decide) ?_
  refine lv_istore_n (lv' := [(2, .int 0), (1, .int 0), (0, .ref p9)]) C0.1 C0.2.1 dX2_numbersInAll_3 rfl hl (by decide) rfl (fun ls hl => ?_)
  exact loop 6 0 0 _ _ ls rfl rfl w (lv_sub hl [2, 1, 0] rfl)

set_option maxHeartbeats 4000000 in
set_option maxRecDepth 100000 in
theorem c_X2_becomeAs {l : Launch} {X : hv_X} {V : hv_V} {p9 p8 : Nat} {P P2 : hs_P} (hPg : ok_page X V p9 P) (hQg : ok_page X V p8 P2) (hk1 : P2.2.1.1 ≤ 4) (hk2 : P2.2.2.1.1 ≤ 8) (hk3 : P2.2.2.2.1 ≤ 8) (hdis : p9 + 26 ≤ p8 ∨ p8 + 26 ≤ p9) : hv_Mv l X 2 yX2_becomeAs cX2_becomeAs 3 V [.ref p9, .ref p8] (fun V1 => ok_page X V1 p9 P2 ∧ ∀ q : Nat, (q < p9 ∨ p9 + 26 ≤ q) → V1 q = V q) := by
  refine hv_enter (by decide) (Nat.le_of_ble_eq_true rfl) ?_
  intro p e s m below meth c ls C0 hr hlk hnm w hl
  have hl : lv_has ls 3 [(0, .ref p9), (1, .ref p8)] := hl
  have loop : ∀ (m9 k : Nat) (V8 : hv_V) (Hq : Heap) (lq : List Loc) (ls : Array Slot), (k + m9 = 6) → ok_page X V8 p9 (hs_mix P P2 k) → (∀ q : Nat, (q < p9 ∨ p9 + 26 ≤ q) → V8 q = V q) → hv_w X s V8 Hq lq → lv_has ls 3 [(0, .ref p9), (1, .ref p8), (2, .int (nI k))] → W p l e (hv_rm 2 0 0) s m ([.ref p9, .ref p8] : List Value).toArray below meth c Hq lq 0 0 (MQ below (hv_Qv X (fun V1 => ok_page X V1 p9 P2 ∧ ∀ q : Nat, (q < p9 ∨ p9 + 26 ≤ q) → V1 q = V q)) ([.ref p9, .ref p8] : List Value).toArray s 0 0 X.2.2.1) (F0 m 2 ls []) := by
    intro m9
    induction m9 with
    | zero =>
      intro k V8 Hq lq ls hk hp8 ho8 w hl
      have hk : k = 6 := hk
      obtain ⟨u0, ⟨rf, u1, hP2⟩, u4, -⟩ := id hp8
      have u2 : V8 p8 = some (pE p8) := (ho8 p8 (by omega)).trans hQg.1
      obtain ⟨-, ⟨rf2, hQ1, hQ2⟩, hQ3, -⟩ := id hQg
      have u3 : V8 (p8 + 1) = some (qE X 3 6 rf2) := (ho8 _ (by omega)).trans hQ1
      refine lv_iload_n C0.1 C0.2.1 dX2_becomeAs_2 rfl (lv_at hl 2 rfl) ?_
      refine lv_bipush (v := 6) C0.1 C0.2.1 dX2_becomeAs_3 (by decide) ?_
      refine lv_icmp_ge (tgt := 29) C0.1 C0.2.1 dX2_becomeAs_5 (by decide) (fun c_5 => ?_) (fun c_5 => absurd (show nI 6 ≤ nI k from nI_le (by omega) (by omega)) c_5)
      subst hk
      obtain ⟨g0, ⟨rf1, g1, g2⟩, g3, ⟨sf, sg, sh, a0, a1, a2, a3, aa⟩, ⟨ef, eg, eh, b0, b1, b2, b3, ba⟩, ⟨kf, kg, kh, d0, d1, d2, d3, da⟩⟩ := hp8
      have q8 : ∀ q : Nat, p8 ≤ q → q < p8 + 26 → V8 q = V q := fun q q1 q2 => ho8 q (by omega)
      obtain ⟨h0, -, -, ⟨sf2, sg2, sh2, a02, a12, a22, a32, aa2⟩, ⟨ef2, eg2, eh2, b02, b12, b22, b32, ba2⟩, ⟨kf2, kg2, kh2, d02, d12, d22, d32, da2⟩⟩ := hQg.fr q8
      refine lv_aload_n C0.1 C0.2.1 dX2_becomeAs_29 rfl (lv_at hl 0 rfl) ?_
      refine gf_X2_22 C0 w g0 rfl dX2_becomeAs_30 ?_
      refine lv_aload_n C0.1 C0.2.1 dX2_becomeAs_33 rfl (lv_at hl 1 rfl) ?_
      refine gf_X2_22 C0 w h0 rfl dX2_becomeAs_34 ?_
      refine hv_cVv C0 w kl_X2_37 kv_X1_becomeAs rfl a0 (c_X1_becomeAs a0 a1 a2 a3 a02 a12 a22 a32 hk1 (by decide) (by omega)) (by decide) (by decide) rfl hl.1 rfl (Nat.le_of_ble_eq_true rfl) dX2_becomeAs_37 ⟨Nat.le_refl _, Nat.le_refl _⟩ (fun V2 Hq lq hp3 w => ?_)
      have hV4 : V2 p9 = some (.inr (2, [.ref (p9 + 1), .ref (p9 + 2), .ref (p9 + 6), .ref (p9 + 10)])) := by rw [hp3, hv_un (by omega), hv_un (by omega), hv_un (by omega), hv_un (by omega)]; exact g0
      have hV5 : V2 p8 = some (.inr (2, [.ref (p8 + 1), .ref (p8 + 2), .ref (p8 + 6), .ref (p8 + 10)])) := by rw [hp3, hv_un (by omega), hv_un (by omega), hv_un (by omega), hv_un (by omega)]; exact h0
      refine lv_aload_n C0.1 C0.2.1 dX2_becomeAs_40 rfl (lv_at hl 0 rfl) ?_
      refine gf_X2_26 C0 w hV4 rfl dX2_becomeAs_41 ?_
      refine lv_aload_n C0.1 C0.2.1 dX2_becomeAs_44 rfl (lv_at hl 1 rfl) ?_
      refine gf_X2_26 C0 w hV5 rfl dX2_becomeAs_45 ?_
      have hV6 : V2 (p9 + 6) = some (lE (p9 + 6) P.2.2.1.1) := by rw [hp3, hv_un (by omega), hv_un (by omega), hv_un (by omega), hv_un (by omega)]; exact b0
      have hV7 : V2 (p9 + 6 + 1) = some (iE X 8 ef) := by rw [hp3, hv_un (by omega), hv_un (by omega), hv_un (by omega), hv_un (by omega)]; exact b1
      have hV8 : V2 (p9 + 6 + 2) = some (iE X 8 eg) := by rw [hp3, hv_un (by omega), hv_un (by omega), hv_un (by omega), hv_un (by omega)]; exact b2
      have hV9 : V2 (p9 + 6 + 3) = some (iE X 8 eh) := by rw [hp3, hv_un (by omega), hv_un (by omega), hv_un (by omega), hv_un (by omega)]; exact b3
      have hV10 : V2 (p8 + 6) = some (lE (p8 + 6) P2.2.2.1.1) := by rw [hp3, hv_un (by omega), hv_un (by omega), hv_un (by omega), hv_un (by omega)]; exact b02
      have hV11 : V2 (p8 + 6 + 1) = some (iE X 8 ef2) := by rw [hp3, hv_un (by omega), hv_un (by omega), hv_un (by omega), hv_un (by omega)]; exact b12
      have hV12 : V2 (p8 + 6 + 2) = some (iE X 8 eg2) := by rw [hp3, hv_un (by omega), hv_un (by omega), hv_un (by omega), hv_un (by omega)]; exact b22
      have hV13 : V2 (p8 + 6 + 3) = some (iE X 8 eh2) := by rw [hp3, hv_un (by omega), hv_un (by omega), hv_un (by omega), hv_un (by omega)]; exact b32
      refine hv_cVv C0 w kl_X2_37 kv_X1_becomeAs rfl hV6 (c_X1_becomeAs hV6 hV7 hV8 hV9 hV10 hV11 hV12 hV13 hk2 (by decide) (by omega)) (by decide) (by decide) rfl hl.1 rfl (Nat.le_of_ble_eq_true rfl) dX2_becomeAs_48 ⟨Nat.le_refl _, Nat.le_refl _⟩ (fun V15 Hq lq hp16 w => ?_)
      have hV17 : V15 p9 = some (.inr (2, [.ref (p9 + 1), .ref (p9 + 2), .ref (p9 + 6), .ref (p9 + 10)])) := by rw [hp16, hv_un (by omega), hv_un (by omega), hv_un (by omega), hv_un (by omega), hp3, hv_un (by omega), hv_un (by omega), hv_un (by omega), hv_un (by omega)]; exact g0
      have hV18 : V15 p8 = some (.inr (2, [.ref (p8 + 1), .ref (p8 + 2), .ref (p8 + 6), .ref (p8 + 10)])) := by rw [hp16, hv_un (by omega), hv_un (by omega), hv_un (by omega), hv_un (by omega), hp3, hv_un (by omega), hv_un (by omega), hv_un (by omega), hv_un (by omega)]; exact h0
      refine lv_aload_n C0.1 C0.2.1 dX2_becomeAs_51 rfl (lv_at hl 0 rfl) ?_
      refine gf_X2_29 C0 w hV17 rfl dX2_becomeAs_52 ?_
      refine lv_aload_n C0.1 C0.2.1 dX2_becomeAs_55 rfl (lv_at hl 1 rfl) ?_
      refine gf_X2_29 C0 w hV18 rfl dX2_becomeAs_56 ?_
      have hV19 : V15 (p9 + 10) = some (lE (p9 + 10) P.2.2.2.1) := by rw [hp16, hv_un (by omega), hv_un (by omega), hv_un (by omega), hv_un (by omega), hp3, hv_un (by omega), hv_un (by omega), hv_un (by omega), hv_un (by omega)]; exact d0
      have hV20 : V15 (p9 + 10 + 1) = some (iE X 8 kf) := by rw [hp16, hv_un (by omega), hv_un (by omega), hv_un (by omega), hv_un (by omega), hp3, hv_un (by omega), hv_un (by omega), hv_un (by omega), hv_un (by omega)]; exact d1
      have hV21 : V15 (p9 + 10 + 2) = some (iE X 8 kg) := by rw [hp16, hv_un (by omega), hv_un (by omega), hv_un (by omega), hv_un (by omega), hp3, hv_un (by omega), hv_un (by omega), hv_un (by omega), hv_un (by omega)]; exact d2
      have hV22 : V15 (p9 + 10 + 3) = some (iE X 8 kh) := by rw [hp16, hv_un (by omega), hv_un (by omega), hv_un (by omega), hv_un (by omega), hp3, hv_un (by omega), hv_un (by omega), hv_un (by omega), hv_un (by omega)]; exact d3
      have hV23 : V15 (p8 + 10) = some (lE (p8 + 10) P2.2.2.2.1) := by rw [hp16, hv_un (by omega), hv_un (by omega), hv_un (by omega), hv_un (by omega), hp3, hv_un (by omega), hv_un (by omega), hv_un (by omega), hv_un (by omega)]; exact d02
      have hV24 : V15 (p8 + 10 + 1) = some (iE X 8 kf2) := by rw [hp16, hv_un (by omega), hv_un (by omega), hv_un (by omega), hv_un (by omega), hp3, hv_un (by omega), hv_un (by omega), hv_un (by omega), hv_un (by omega)]; exact d12
      have hV25 : V15 (p8 + 10 + 2) = some (iE X 8 kg2) := by rw [hp16, hv_un (by omega), hv_un (by omega), hv_un (by omega), hv_un (by omega), hp3, hv_un (by omega), hv_un (by omega), hv_un (by omega), hv_un (by omega)]; exact d22
      have hV26 : V15 (p8 + 10 + 3) = some (iE X 8 kh2) := by rw [hp16, hv_un (by omega), hv_un (by omega), hv_un (by omega), hv_un (by omega), hp3, hv_un (by omega), hv_un (by omega), hv_un (by omega), hv_un (by omega)]; exact d32
      refine hv_cVv C0 w kl_X2_37 kv_X1_becomeAs rfl hV19 (c_X1_becomeAs hV19 hV20 hV21 hV22 hV23 hV24 hV25 hV26 hk3 (by decide) (by omega)) (by decide) (by decide) rfl hl.1 rfl (Nat.le_of_ble_eq_true rfl) dX2_becomeAs_59 ⟨Nat.le_refl _, Nat.le_refl _⟩ (fun V28 Hq lq hp29 w => ?_)
      have hV30 : V28 p9 = some (.inr (2, [.ref (p9 + 1), .ref (p9 + 2), .ref (p9 + 6), .ref (p9 + 10)])) := by rw [hp29, hv_un (by omega), hv_un (by omega), hv_un (by omega), hv_un (by omega), hp16, hv_un (by omega), hv_un (by omega), hv_un (by omega), hv_un (by omega), hp3, hv_un (by omega), hv_un (by omega), hv_un (by omega), hv_un (by omega)]; exact g0
      have hV31 : V28 p8 = some (.inr (2, [.ref (p8 + 1), .ref (p8 + 2), .ref (p8 + 6), .ref (p8 + 10)])) := by rw [hp29, hv_un (by omega), hv_un (by omega), hv_un (by omega), hv_un (by omega), hp16, hv_un (by omega), hv_un (by omega), hv_un (by omega), hv_un (by omega), hp3, hv_un (by omega), hv_un (by omega), hv_un (by omega), hv_un (by omega)]; exact h0
      exact hv_vret C0 w hr hlk (⟨⟨by rw [hp29, hv_un (by omega), hv_un (by omega), hv_un (by omega), hv_un (by omega), hp16, hv_un (by omega), hv_un (by omega), hv_un (by omega), hv_un (by omega), hp3, hv_un (by omega), hv_un (by omega), hv_un (by omega), hv_un (by omega)]; exact g0, ⟨rf1, by rw [hp29, hv_un (by omega), hv_un (by omega), hv_un (by omega), hv_un (by omega), hp16, hv_un (by omega), hv_un (by omega), hv_un (by omega), hv_un (by omega), hp3, hv_un (by omega), hv_un (by omega), hv_un (by omega), hv_un (by omega)]; exact g1, g2⟩, fun j9 hj9 => ⟨by rw [hp29, hv_un (by omega), hv_un (by omega), hv_un (by omega), hv_un (by omega), hp16, hv_un (by omega), hv_un (by omega), hv_un (by omega), hv_un (by omega), hp3, hv_un (by omega), hv_un (by omega), hv_un (by omega), hv_un (by omega)]; have h9 := (g3 j9 hj9).1; simp only [hs_mix, sp_cp, if_pos hj9] at h9; exact h9, by rw [hp29, hv_un (by omega), hv_un (by omega), hv_un (by omega), hv_un (by omega), hp16, hv_un (by omega), hv_un (by omega), hv_un (by omega), hv_un (by omega), hp3, hv_un (by omega), hv_un (by omega), hv_un (by omega), hv_un (by omega)]; have h9 := (g3 j9 hj9).2; simp only [hs_mix, sp_cp, if_pos hj9] at h9; exact h9⟩, ok_list.cp (by rw [hp29, hv_un (by omega), hv_un (by omega), hv_un (by omega), hv_un (by omega), hp16, hv_un (by omega), hv_un (by omega), hv_un (by omega), hv_un (by omega), hp3]; exact hv_us) (by rw [hp29, hv_un (by omega), hv_un (by omega), hv_un (by omega), hv_un (by omega), hp16, hv_un (by omega), hv_un (by omega), hv_un (by omega), hv_un (by omega), hp3, hv_un (by omega), hv_un (by omega), hv_un (by omega)]; exact hv_us) (by rw [hp29, hv_un (by omega), hv_un (by omega), hv_un (by omega), hv_un (by omega), hp16, hv_un (by omega), hv_un (by omega), hv_un (by omega), hv_un (by omega), hp3, hv_un (by omega), hv_un (by omega)]; exact hv_us) (by rw [hp29, hv_un (by omega), hv_un (by omega), hv_un (by omega), hv_un (by omega), hp16, hv_un (by omega), hv_un (by omega), hv_un (by omega), hv_un (by omega), hp3, hv_un (by omega)]; exact hv_us) aa2, ok_list.cp (by rw [hp29, hv_un (by omega), hv_un (by omega), hv_un (by omega), hv_un (by omega), hp16]; exact hv_us) (by rw [hp29, hv_un (by omega), hv_un (by omega), hv_un (by omega), hv_un (by omega), hp16, hv_un (by omega), hv_un (by omega), hv_un (by omega)]; exact hv_us) (by rw [hp29, hv_un (by omega), hv_un (by omega), hv_un (by omega), hv_un (by omega), hp16, hv_un (by omega), hv_un (by omega)]; exact hv_us) (by rw [hp29, hv_un (by omega), hv_un (by omega), hv_un (by omega), hv_un (by omega), hp16, hv_un (by omega)]; exact hv_us) ba2, ok_list.cp (by rw [hp29]; exact hv_us) (by rw [hp29, hv_un (by omega), hv_un (by omega), hv_un (by omega)]; exact hv_us) (by rw [hp29, hv_un (by omega), hv_un (by omega)]; exact hv_us) (by rw [hp29, hv_un (by omega)]; exact hv_us) da2⟩, fun q hq => by rw [hp29, hv_un (by omega), hv_un (by omega), hv_un (by omega), hv_un (by omega), hp16, hv_un (by omega), hv_un (by omega), hv_un (by omega), hv_un (by omega), hp3, hv_un (by omega), hv_un (by omega), hv_un (by omega), hv_un (by omega)]; exact ho8 q hq⟩) dX2_becomeAs_62
    | succ m9 ih =>
      intro k V8 Hq lq ls hi hp8 ho8 w hl
      obtain ⟨u0, ⟨rf, u1, hP2⟩, u4, -⟩ := id hp8
      have u2 : V8 p8 = some (pE p8) := (ho8 p8 (by omega)).trans hQg.1
      obtain ⟨-, ⟨rf2, hQ1, hQ2⟩, hQ3, -⟩ := id hQg
      have u3 : V8 (p8 + 1) = some (qE X 3 6 rf2) := (ho8 _ (by omega)).trans hQ1
      have hR8 := (u4 k (by omega)).1
      have hN8 := (u4 k (by omega)).2
      have hQR8 : V8 (p8 + 14 + 2 * k) = some (rE (P2.1.1 k) (P2.1.2.1 k) (p8 + 14 + 2 * k + 1)) := (ho8 _ (by omega)).trans (hQ3 k (by omega)).1
      have hQN8 : V8 (p8 + 14 + 2 * k + 1) = some (nE X (P2.1.2.2 k)) := (ho8 _ (by omega)).trans (hQ3 k (by omega)).2
      refine lv_iload_n C0.1 C0.2.1 dX2_becomeAs_2 rfl (lv_at hl 2 rfl) ?_
      refine lv_bipush (v := 6) C0.1 C0.2.1 dX2_becomeAs_3 (by decide) ?_
      refine lv_icmp_ge (tgt := 29) C0.1 C0.2.1 dX2_becomeAs_5 (by decide) (fun c_5 => absurd c_5 (show ¬ nI 6 ≤ nI k from nI_ge (by omega) (by omega))) (fun c_5 => ?_)
      refine lv_aload_n C0.1 C0.2.1 dX2_becomeAs_8 rfl (lv_at hl 0 rfl) ?_
      refine gf_X2_11 C0 w u0 rfl dX2_becomeAs_9 ?_
      refine lv_iload_n C0.1 C0.2.1 dX2_becomeAs_12 rfl (lv_at hl 2 rfl) ?_
      refine hv_aald 3 C0 w rfl u1 (hn_in (by omega) (by decide)) (by rw [nI_clamp (by omega)]; exact hP2 k (by omega)) dX2_becomeAs_13 ?_
      refine lv_aload_n C0.1 C0.2.1 dX2_becomeAs_14 rfl (lv_at hl 1 rfl) ?_
      refine gf_X2_11 C0 w u2 rfl dX2_becomeAs_15 ?_
      refine lv_iload_n C0.1 C0.2.1 dX2_becomeAs_18 rfl (lv_at hl 2 rfl) ?_
      refine hv_aald 3 C0 w rfl u3 (hn_in (by omega) (by decide)) (by rw [nI_clamp (by omega)]; exact hQ2 k (by omega)) dX2_becomeAs_19 ?_
      refine hv_cVv C0 w kl_X2_33 kv_X3_becomeAs rfl hR8 (c_X3_becomeAs hR8 hN8 hQR8 hQN8 (by omega) (by omega)) (by decide) (by decide) rfl hl.1 rfl (Nat.le_of_ble_eq_true rfl) dX2_becomeAs_20 ⟨Nat.le_refl _, Nat.le_refl _⟩ (fun V2 Hq lq hp3 w => ?_)
      have hN9 : V2 (p9 + 14 + 2 * k + 1) = some (nE X (va_cpy (P2.1.2.2 k) ((hs_mix P P2 k).1.2.2 k) 0 0 16)) := by rw [hp3]; exact hv_us
      have w := w.as hN9 (g := P2.1.2.2 k) (fun i9 hi9 => by simp [va_cpy, hi9])
      obtain ⟨V9, eV9⟩ : ∃ V9, V9 = hv_up V2 (p9 + 14 + 2 * k + 1) (nE X (P2.1.2.2 k)) := ⟨_, rfl⟩
      rw [← eV9] at w
      refine lv_iinc (v := (nI k) + 1) (lv' := [(2, .int ((nI k) + 1)), (0, .ref p9), (1, .ref p8)]) C0.1 C0.2.1 dX2_becomeAs_23 hl (k := 2) rfl rfl (by decide) rfl (fun ls hl => ?_)
      refine lv_goto (tgt := 2) C0.1 C0.2.1 dX2_becomeAs_26 (by decide) ?_
      exact ih (k + 1) _ _ _ ls (by omega) (by rw [← hs_mixs]; exact hp8.row (by omega) ⟨by rw [eV9, hv_un (by omega), hp3, hv_un (by omega)]; exact hv_us, by rw [eV9]; exact hv_us⟩ (fun q q1 q2 => by rw [eV9, hv_un (by omega), hp3, hv_un (by omega), hv_un (by omega)]) (fun q q1 q2 => by rw [eV9, hv_un (by omega), hp3, hv_un (by omega), hv_un (by omega)])) (fun q hq => by rw [eV9, hv_un (by omega), hp3, hv_un (by omega), hv_un (by omega)]; exact ho8 q hq) w (by have h9 := (lv_sub (l' := [(0, .ref p9), (1, .ref p8), (2, .int (nI k + 1))]) hl [1, 2, 0] rfl); rw [nI_1] at h9; exact h9)
  refine lv_iconst (v := 0) C0.1 C0.2.1 dX2_becomeAs_0 (by decide) ?_
  refine lv_istore_n (lv' := [(2, .int 0), (0, .ref p9), (1, .ref p8)]) C0.1 C0.2.1 dX2_becomeAs_1 rfl hl (by decide) rfl (fun ls hl => ?_)
  exact loop 6 0 V _ _ ls rfl (by rw [show hs_mix P P2 0 = P from by simp only [hs_mix, sp_cp0]]; exact hPg) (fun _ _ => rfl) w (lv_sub hl [1, 2, 0] rfl)

theorem ok_kept.page {X : hv_X} {V : hv_V} {x : Nat} {K : Option hs_P} {k : Int32} (h : ok_kept X V x K k) : ∃ P : hs_P, ok_page X V (x + 27) P := by
  cases K with
  | none => exact h.2
  | some P => exact ⟨P, h.2⟩
set_option maxHeartbeats 4000000 in
set_option maxRecDepth 100000 in
theorem m_X6_image {l : Launch} {X : hv_X} {V : hv_V} {x : Nat} {σ : hs_S} (hX : okX X V x σ) (hB : hs_b σ) : hv_Mi l X 6 yX6_image cX6_image 1 .int V [.ref x] (fun y V1 => y = (sp_image σ).1 ∧ okX X V1 x (sp_image σ).2 ∧ hv_out V V1 x (x + 92)) := by
  refine hv_enter (by decide) (Nat.le_of_ble_eq_true rfl) ?_
  intro p e s m below meth c ls C0 hr hlk hnm w hl
  have hl : lv_has ls 1 [(0, .ref x)] := hl
  obtain ⟨kk0, hX0, hPg, hKp, hTx, hTp, hSc⟩ := id hX
  obtain ⟨hP0, ⟨rf, hP1, hP2⟩, hP3, hP4, hP5, hP6⟩ := id hPg
  obtain ⟨⟨tf, hT1, hT2⟩, hT3⟩ := id hTp
  obtain ⟨⟨tk, tn, tg, hS1, hS2⟩, ⟨LF, hS3⟩, ⟨RF, hS4⟩, ⟨bf, hS5, hS6⟩, hS7, uf, hS8⟩ := id hSc
  have hbR := hB.1.1
  obtain ⟨sf, sg, sh, hL0, hL1, hL2, hL3, hLa⟩ := id hP4
  obtain ⟨ef, eg, eh, hM0, hM1, hM2, hM3, hMa⟩ := id hP5
  obtain ⟨kf, kg, kh, hK0, hK1, hK2, hK3, hKa⟩ := id hP6
  obtain ⟨pl, cl, wd, vl, hQ0, hQ1, hQ2, hQ3⟩ := id hTx
  obtain ⟨PK, hKpg⟩ := hKp.page
  refine lv_aload_n C0.1 C0.2.1 dX6_image_0 rfl (lv_at hl 0 rfl) ?_
  refine gf_X6_18 C0 w hX0 rfl dX6_image_1 ?_
  refine lv_aload_n C0.1 C0.2.1 dX6_image_4 rfl (lv_at hl 0 rfl) ?_
  refine gf_X6_12 C0 w hX0 rfl dX6_image_5 ?_
  refine hv_cVv C0 w kl_X6_243 kv_X2_becomeAs rfl hKpg.1 (c_X2_becomeAs hKpg hPg hB.1.2.1.1 hB.1.2.2.1.1 hB.1.2.2.2.1 (by omega)) (by decide) (by decide) rfl hl.1 rfl (Nat.le_of_ble_eq_true rfl) dX6_image_8 ⟨Nat.le_refl _, Nat.le_refl _⟩ (fun V2 Hq lq hp3 w => ?_)
  obtain ⟨hpg9, ho9⟩ := hp3
  have hV4 : V2 x = some (xE x kk0) := (ho9 x (by omega)).trans hX0
  have hp19 : V2 (x + 1) = some (pE (x + 1)) := (ho9 _ (by omega)).trans hP0
  refine lv_aload_n C0.1 C0.2.1 dX6_image_11 rfl (lv_at hl 0 rfl) ?_
  refine lv_iconst (v := 1) C0.1 C0.2.1 dX6_image_12 (by decide) ?_
  refine pf_X6_246 C0 w hV4 (by simp) (by decide) (by decide) dX6_image_13 (fun Hq lq w => ?_)
  obtain ⟨V5, eV6⟩ : ∃ V9, V9 = hv_up V2 x (.inr (6, [.ref (x + 1), .ref (x + 27), .int 1, .ref (x + 53), .ref (x + 57), .ref (x + 58), .ref (x + 60), .ref (x + 61), .ref (x + 62), .ref (x + 63)])) := ⟨_, rfl⟩
  have w : hv_w X s V5 Hq lq := by rw [eV6]; exact w
  have hV8 : V5 (x + 1) = some (.inr (2, [.ref (x + 1 + 1), .ref (x + 1 + 2), .ref (x + 1 + 6), .ref (x + 1 + 10)])) := by rw [eV6, hv_un (by omega)]; exact hp19
  have hV9 : V5 x = some (.inr (6, [.ref (x + 1), .ref (x + 27), .int 1, .ref (x + 53), .ref (x + 57), .ref (x + 58), .ref (x + 60), .ref (x + 61), .ref (x + 62), .ref (x + 63)])) := by rw [eV6]; exact hv_us
  refine lv_aload_n C0.1 C0.2.1 dX6_image_16 rfl (lv_at hl 0 rfl) ?_
  refine gf_X6_12 C0 w hV9 rfl dX6_image_17 ?_
  have hb9 : ∀ q : Nat, q ≠ x → (q < x + 27 ∨ x + 53 ≤ q) → V5 q = V q := fun q q1 q2 => by rw [eV6, hv_un q1]; exact ho9 q (by omega)
  have hpn : ok_page X V5 (x + 1) σ.1 := hPg.fr (fun q q1 q2 => hb9 q (by omega) (by omega))
  have hpk : ok_page X V5 (x + 27) σ.1 := hpg9.fr (fun q q1 q2 => by rw [eV6, hv_un (by omega)])
  refine hv_cVi C0 w kl_X6_249 kv_X2_numbersInAll rfl hV8 (c_X2_numbersInAll hpn) (by decide) (by decide) rfl hl.1 rfl (Nat.le_of_ble_eq_true rfl) dX6_image_20 ⟨Nat.le_refl _, Nat.le_refl _⟩ (fun x10 V11 Hq lq hp12 w => ?_)
  obtain ⟨e9, e8⟩ := hp12
  rw [e9] at w; rw [e8]; clear e9 e8
  exact hv_iret C0 w hr hlk (⟨rfl, ⟨1, by rw [eV6]; exact hv_us, hpn, ⟨rfl, hpk⟩, hTx.fr (fun q q1 q2 => hb9 q (by omega) (by omega)), hTp.fr (hb9 _ (by omega) (by omega)) (fun q q1 q2 => hb9 q (by omega) (by omega)), hSc.fr (fun q q1 q2 => hb9 q (by omega) (by omega)) (fun q q1 q2 => hb9 q (by omega) (by omega))⟩, fun q hq => hb9 q (by omega) (by omega)⟩) dX6_image_23

set_option maxHeartbeats 4000000 in
set_option maxRecDepth 100000 in
theorem c_X6_undo {l : Launch} {X : hv_X} {V : hv_V} {x : Nat} {σ : hs_S} {PK : hs_P} (hX : okX X V x (σ.1, some PK, σ.2.2)) (hB : hs_b (σ.1, some PK, σ.2.2)) : hv_Mi l X 6 yX6_undo cX6_undo 1 .int V [.ref x] (fun y V1 => y = sp_tot PK ∧ okX X V1 x (PK, some PK, σ.2.2) ∧ hv_out V V1 x (x + 92)) := by
  refine hv_enter (by decide) (Nat.le_of_ble_eq_true rfl) ?_
  intro p e s m below meth c ls C0 hr hlk hnm w hl
  have hl : lv_has ls 1 [(0, .ref x)] := hl
  obtain ⟨kk0, hX0, hPg, hKp, hTx, hTp, hSc⟩ := id hX
  obtain ⟨hP0, ⟨rf, hP1, hP2⟩, hP3, hP4, hP5, hP6⟩ := id hPg
  obtain ⟨⟨tf, hT1, hT2⟩, hT3⟩ := id hTp
  obtain ⟨⟨tk, tn, tg, hS1, hS2⟩, ⟨LF, hS3⟩, ⟨RF, hS4⟩, ⟨bf, hS5, hS6⟩, hS7, uf, hS8⟩ := id hSc
  have hbR := hB.1.1
  obtain ⟨sf, sg, sh, hL0, hL1, hL2, hL3, hLa⟩ := id hP4
  obtain ⟨ef, eg, eh, hM0, hM1, hM2, hM3, hMa⟩ := id hP5
  obtain ⟨kf, kg, kh, hK0, hK1, hK2, hK3, hKa⟩ := id hP6
  obtain ⟨pl, cl, wd, vl, hQ0, hQ1, hQ2, hQ3⟩ := id hTx
  obtain ⟨hk1, hKpg⟩ : kk0 = 1 ∧ ok_page X V (x + 27) PK := hKp
  have hb1 : PK.2.1.1 ≤ 4 := (hB.2.1 PK rfl).2.1.1
  have hb2 : PK.2.2.1.1 ≤ 8 := (hB.2.1 PK rfl).2.2.1.1
  have hb3 : PK.2.2.2.1 ≤ 8 := (hB.2.1 PK rfl).2.2.2.1
  refine lv_aload_n C0.1 C0.2.1 dX6_undo_0 rfl (lv_at hl 0 rfl) ?_
  refine gf_X6_246 C0 w hX0 rfl dX6_undo_1 ?_
  refine lv_if_ne (tgt := 10) C0.1 C0.2.1 dX6_undo_4 (by decide) (fun c_4 => ?_) (fun c_4 => absurd c_4 (by rw [hk1]; decide))
  refine lv_aload_n C0.1 C0.2.1 dX6_undo_10 rfl (lv_at hl 0 rfl) ?_
  refine gf_X6_12 C0 w hX0 rfl dX6_undo_11 ?_
  refine lv_aload_n C0.1 C0.2.1 dX6_undo_14 rfl (lv_at hl 0 rfl) ?_
  refine gf_X6_18 C0 w hX0 rfl dX6_undo_15 ?_
  refine hv_cVv C0 w kl_X6_243 kv_X2_becomeAs rfl hP0 (c_X2_becomeAs hPg hKpg hb1 hb2 hb3 (by omega)) (by decide) (by decide) rfl hl.1 rfl (Nat.le_of_ble_eq_true rfl) dX6_undo_18 ⟨Nat.le_refl _, Nat.le_refl _⟩ (fun V2 Hq lq hp3 w => ?_)
  obtain ⟨hpg9, ho9⟩ := hp3
  have hV4 : V2 x = some (xE x kk0) := (ho9 x (by omega)).trans hX0
  have hp19 := hpg9.1
  have hpk : ok_page X V2 (x + 27) PK := hKpg.fr (fun q q1 q2 => ho9 q (by omega))
  refine lv_aload_n C0.1 C0.2.1 dX6_undo_21 rfl (lv_at hl 0 rfl) ?_
  refine gf_X6_12 C0 w hV4 rfl dX6_undo_22 ?_
  refine hv_cVi C0 w kl_X6_249 kv_X2_numbersInAll rfl hp19 (c_X2_numbersInAll hpg9) (by decide) (by decide) rfl hl.1 rfl (Nat.le_of_ble_eq_true rfl) dX6_undo_25 ⟨Nat.le_refl _, Nat.le_refl _⟩ (fun x5 V6 Hq lq hp7 w => ?_)
  obtain ⟨e9, e8⟩ := hp7
  rw [e9] at w; rw [e8]; clear e9 e8
  exact hv_iret C0 w hr hlk (⟨rfl, ⟨kk0, (ho9 x (by omega)).trans hX0, hpg9, ⟨hk1, hpk⟩, hTx.fr (fun q q1 q2 => ho9 q (by omega)), hTp.fr (ho9 _ (by omega)) (fun q q1 q2 => ho9 q (by omega)), hSc.fr (fun q q1 q2 => ho9 q (by omega)) (fun q q1 q2 => ho9 q (by omega))⟩, fun q hq => ho9 q (by omega)⟩) dX6_undo_28

set_option maxHeartbeats 4000000 in
set_option maxRecDepth 100000 in
theorem n_X6_undo {l : Launch} {X : hv_X} {V : hv_V} {x : Nat} {σ : hs_S} (hX : okX X V x (σ.1, none, σ.2.2)) (hB : hs_b (σ.1, none, σ.2.2)) : hv_Mi l X 6 yX6_undo cX6_undo 1 .int V [.ref x] (fun y V1 => y = -3 ∧ okX X V1 x (σ.1, none, σ.2.2) ∧ hv_out V V1 x (x + 92)) := by
  refine hv_enter (by decide) (Nat.le_of_ble_eq_true rfl) ?_
  intro p e s m below meth c ls C0 hr hlk hnm w hl
  have hl : lv_has ls 1 [(0, .ref x)] := hl
  obtain ⟨kk0, hX0, hPg, hKp, hTx, hTp, hSc⟩ := id hX
  obtain ⟨hP0, ⟨rf, hP1, hP2⟩, hP3, hP4, hP5, hP6⟩ := id hPg
  obtain ⟨⟨tf, hT1, hT2⟩, hT3⟩ := id hTp
  obtain ⟨⟨tk, tn, tg, hS1, hS2⟩, ⟨LF, hS3⟩, ⟨RF, hS4⟩, ⟨bf, hS5, hS6⟩, hS7, uf, hS8⟩ := id hSc
  have hbR := hB.1.1
  obtain ⟨sf, sg, sh, hL0, hL1, hL2, hL3, hLa⟩ := id hP4
  obtain ⟨ef, eg, eh, hM0, hM1, hM2, hM3, hMa⟩ := id hP5
  obtain ⟨kf, kg, kh, hK0, hK1, hK2, hK3, hKa⟩ := id hP6
  obtain ⟨pl, cl, wd, vl, hQ0, hQ1, hQ2, hQ3⟩ := id hTx
  obtain ⟨hk1, -⟩ : kk0 = 0 ∧ _ := hKp
  refine lv_aload_n C0.1 C0.2.1 dX6_undo_0 rfl (lv_at hl 0 rfl) ?_
  refine gf_X6_246 C0 w hX0 rfl dX6_undo_1 ?_
  refine lv_if_ne (tgt := 10) C0.1 C0.2.1 dX6_undo_4 (by decide) (fun c_4 => absurd (hk1) c_4) (fun c_4 => ?_)
  refine lv_bipush (v := -3) C0.1 C0.2.1 dX6_undo_7 (by decide) ?_
  exact hv_iret C0 w hr hlk (⟨rfl, hX, hv_out.rf⟩) dX6_undo_9

theorem m_X6_undo {l : Launch} {X : hv_X} {V : hv_V} {x : Nat} {σ : hs_S} (hX : okX X V x σ) (hB : hs_b σ) : hv_Mi l X 6 yX6_undo cX6_undo 1 .int V [.ref x] (fun y V1 => y = (sp_undo σ).1 ∧ okX X V1 x (sp_undo σ).2 ∧ hv_out V V1 x (x + 92)) := by
  obtain ⟨P0, K0, T0⟩ := σ
  cases K0 with
  | none => exact n_X6_undo (σ := (P0, none, T0)) hX hB
  | some PK => exact c_X6_undo (σ := (P0, none, T0)) hX hB
