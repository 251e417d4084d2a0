theorem fx_ab {F G : fx_F} {ab be a b : Int64} (h : fm F ab be) (g : fm G a b) (h1 : ¬ be = 0) (g1 : ¬ b = 0) : fx_above F G ↔ ¬ fx_cmp (ab * b) (a * be) ≤ 0 := by
  obtain ⟨p1, p2, p3, -⟩ := h.yes h1
  obtain ⟨q1, q2, q3, -⟩ := g.yes g1
  have n1 : ¬ F.2.2 = 0 := by rw [p1]; decide
  have n2 : ¬ G.2.2 = 0 := by rw [q1]; decide
  unfold fx_cmp
  rw [p2, p3, q2, q3]
  by_cases c1 : F.1 * G.2.1 < G.1 * F.2.1
  · rw [if_pos c1]
    exact ⟨fun h9 => absurd c1 (Int64.not_lt.mpr (Int64.le_of_lt h9.2.2)), fun h9 => absurd (by decide) h9⟩
  · rw [if_neg c1]
    by_cases c4 : F.1 * G.2.1 = G.1 * F.2.1
    · rw [if_pos c4]
      exact ⟨fun h9 => by have := h9.2.2; rw [c4] at this; exact absurd this Int64.lt_irrefl, fun h9 => absurd (by decide) h9⟩
    · rw [if_neg c4]
      exact ⟨fun _ => by decide, fun _ => ⟨n1, n2, Int64.lt_of_le_of_ne (Int64.not_lt.mp c1) (fun e => c4 e.symm)⟩⟩
theorem nI_mul0 {a b : Nat} (ha : a ≤ 16) (hb : b ≤ 16) : nI a * nI b = 0 ↔ a = 0 ∨ b = 0 := by
  have e : nI a * nI b = nI (a * b) := (Int32.ofNat_mul a b).symm
  have h : a * b ≤ 16 * 16 := Nat.mul_le_mul ha hb
  rw [e, show (0 : Int32) = nI 0 from nI_0.symm, nI_eq (by omega) (by decide)]
  exact Nat.mul_eq_zero
theorem i64_of32 (x : Int32) : -9223372036854775808 < x.toInt64.toInt := by
  have := Int32.le_toInt x
  rw [Int32.toInt_toInt64]; omega
theorem nI_mulp {a b : Nat} (ha : a ≤ 16) (hb : b ≤ 16) : 0 ≤ (nI a * nI b).toInt64.toInt := by
  have e : nI a * nI b = nI (a * b) := (Int32.ofNat_mul a b).symm
  have h : a * b ≤ 16 * 16 := Nat.mul_le_mul ha hb
  rw [e, Int32.toInt_toInt64, nI_toInt (by omega)]; omega
set_option maxHeartbeats 4000000 in
set_option maxRecDepth 100000 in
theorem c_X7_isAbove {l : Launch} {X : hv_X} {V : hv_V} {mo : Nat} {ab be : Int64} {tx se ev bk : Nat} {pl cl sg ik : Int32} (hO : V mo = some (mE mo ab be tx pl cl sg se ev bk ik)) {ki ma : Nat → Int32} {rf : Nat → Option Nat} {j n j2 n2 : Nat} {f f2 : Nat → Int32} (r1 : V (mo + 1) = some (iE X 6 ki)) (r3 : V (mo + 3) = some (qE X 6 6 rf)) (rj : rf j = some (mo + 4 + j)) (rj2 : rf j2 = some (mo + 4 + j2)) (hj : j < 6) (hj2 : j2 < 6) (hN : V (mo + 4 + j) = some (nE X f)) (hN2 : V (mo + 4 + j2) = some (nE X f2)) (hn : n ≤ 16) (hn2 : n2 ≤ 16) (hf : ∀ i, 0 ≤ f i ∧ f i ≤ 1000000000) (hf2 : ∀ i, 0 ≤ f2 i ∧ f2 i ≤ 1000000000) : hv_Mi l X 130 yX7_isAbove cX7_isAbove 9 .boolean V [.ref mo, .int (nI j), .int (nI n), .int (nI j2), .int (nI n2)] (fun y V1 => ∃ ab1 be1 : Int64, V1 = hv_up V mo (mE mo ab1 be1 tx pl cl sg se ev bk ik) ∧ hv_B (fx_above (fx_reckon (ki j) f n) (fx_reckon (ki j2) f2 n2)) y) := by
  refine hv_enter (by decide) (Nat.le_of_ble_eq_true rfl) ?_
  intro p e s m below meth c ls C0 hr hlk hnm w hl
  have hl : lv_has ls 9 [(0, .ref mo), (1, .int (nI j)), (2, .int (nI n)), (3, .int (nI j2)), (4, .int (nI n2))] := hl
  refine lv_aload_n C0.1 C0.2.1 dX7_isAbove_0 rfl (lv_at hl 0 rfl) ?_
  refine lv_iload_n C0.1 C0.2.1 dX7_isAbove_1 rfl (lv_at hl 3 rfl) ?_
  refine lv_iload C0.1 C0.2.1 dX7_isAbove_2 (lv_at hl 4 rfl) ?_
  refine hv_cVv C0 w kl_X7_154 kv_X7_layWorth rfl hO (c_X7_layWorth (n := n2) hO r1 r3 rj2 hj2 hN2 hn2 hf2) (by decide) (by decide) rfl hl.1 rfl (Nat.le_of_ble_eq_true rfl) dX7_isAbove_4 ⟨Nat.le_refl _, Nat.le_refl _⟩ (fun V2 Hq lq hp3 w => ?_)
  obtain ⟨ab4, be5, eV6, fm7⟩ := hp3
  have hV9 : V2 (mo + 1) = some (.inl (X.2.1 0, 6, .inl ki)) := by rw [eV6, hv_un (by omega)]; exact r1
  have hV10 : V2 (mo + 3) = some (.inl (X.2.1 6, 6, .inr (.inr (.inr (.inr rf))))) := by rw [eV6, hv_un (by omega)]; exact r3
  have hV11 : V2 (mo + 4 + j) = some (.inl (X.2.1 0, 16, .inl f)) := by rw [eV6, hv_un (by omega)]; exact hN
  have hV12 : V2 (mo + 4 + j2) = some (.inl (X.2.1 0, 16, .inl f2)) := by rw [eV6, hv_un (by omega)]; exact hN2
  have hV13 : V2 mo = some (.inr (7, [.ref (mo + 1), .ref (mo + 2), .ref (mo + 3), .long ab4, .long be5, .ref (mo + 10), .int (nI tx), .int pl, .int cl, .ref (mo + 11), .ref (mo + 12), .ref (mo + 13), .int sg, .ref (mo + 14), .ref (mo + 15), .ref (mo + 16), .ref (mo + 17), .int (nI se), .ref (mo + 18), .ref (mo + 19), .int (nI ev), .ref (mo + 20), .ref (mo + 21), .ref (mo + 22), .int (nI bk), .int ik, .ref (mo + 23), .ref (mo + 24), .ref (mo + 25), .ref (mo + 26), .ref (mo + 33), .ref (mo + 41), .ref (mo + 42), .ref (mo + 43)])) := by rw [eV6]; exact hv_us
  refine lv_aload_n C0.1 C0.2.1 dX7_isAbove_7 rfl (lv_at hl 0 rfl) ?_
  refine gf_X7_103 C0 w hV13 rfl dX7_isAbove_8 ?_
  refine lv_lstore (lv' := [(5, .long ab4), (0, .ref mo), (1, .int (nI j)), (2, .int (nI n)), (3, .int (nI j2)), (4, .int (nI n2))]) C0.1 C0.2.1 dX7_isAbove_11 hl (by decide) rfl (fun ls hl => ?_)
  refine lv_aload_n C0.1 C0.2.1 dX7_isAbove_13 rfl (lv_at hl 1 rfl) ?_
  refine gf_X7_107 C0 w hV13 rfl dX7_isAbove_14 ?_
  refine lv_lstore (lv' := [(7, .long be5), (5, .long ab4), (0, .ref mo), (1, .int (nI j)), (2, .int (nI n)), (3, .int (nI j2)), (4, .int (nI n2))]) C0.1 C0.2.1 dX7_isAbove_17 hl (by decide) rfl (fun ls hl => ?_)
  refine lv_lload C0.1 C0.2.1 dX7_isAbove_19 (lv_at hl 0 rfl) ?_
  refine lv_lconst (v := 0) C0.1 C0.2.1 dX7_isAbove_21 (by decide) ?_
  refine hv_lc_ne (tgt := 28) C0.1 C0.2.1 dX7_isAbove_22 dX7_isAbove_23 (by decide) (fun c_22 => ?_) (fun c_22 => ?_)
  · skip
    refine lv_aload_n C0.1 C0.2.1 dX7_isAbove_28 rfl (lv_at hl 2 rfl) ?_
    refine lv_iload_n C0.1 C0.2.1 dX7_isAbove_29 rfl (lv_at hl 3 rfl) ?_
    refine lv_iload_n C0.1 C0.2.1 dX7_isAbove_30 rfl (lv_at hl 4 rfl) ?_
    refine hv_cVv C0 w kl_X7_154 kv_X7_layWorth rfl hV13 (c_X7_layWorth (n := n) hV13 hV9 hV10 rj hj hV11 hn hf) (by decide) (by decide) rfl hl.1 rfl (Nat.le_of_ble_eq_true rfl) dX7_isAbove_31 ⟨Nat.le_refl _, Nat.le_refl _⟩ (fun V15 Hq lq hp16 w => ?_)
    obtain ⟨ab17, be18, eV19, fm20⟩ := hp16
    have hV21 : V15 (mo + 1) = some (.inl (X.2.1 0, 6, .inl ki)) := by rw [eV19, hv_un (by omega)]; exact hV9
    have hV22 : V15 (mo + 3) = some (.inl (X.2.1 6, 6, .inr (.inr (.inr (.inr rf))))) := by rw [eV19, hv_un (by omega)]; exact hV10
    have hV23 : V15 (mo + 4 + j) = some (.inl (X.2.1 0, 16, .inl f)) := by rw [eV19, hv_un (by omega)]; exact hV11
    have hV24 : V15 (mo + 4 + j2) = some (.inl (X.2.1 0, 16, .inl f2)) := by rw [eV19, hv_un (by omega)]; exact hV12
    have hV26 : V15 mo = some (.inr (7, [.ref (mo + 1), .ref (mo + 2), .ref (mo + 3), .long ab17, .long be18, .ref (mo + 10), .int (nI tx), .int pl, .int cl, .ref (mo + 11), .ref (mo + 12), .ref (mo + 13), .int sg, .ref (mo + 14), .ref (mo + 15), .ref (mo + 16), .ref (mo + 17), .int (nI se), .ref (mo + 18), .ref (mo + 19), .int (nI ev), .ref (mo + 20), .ref (mo + 21), .ref (mo + 22), .int (nI bk), .int ik, .ref (mo + 23), .ref (mo + 24), .ref (mo + 25), .ref (mo + 26), .ref (mo + 33), .ref (mo + 41), .ref (mo + 42), .ref (mo + 43)])) := by rw [eV19]; exact hv_us
    refine lv_aload_n C0.1 C0.2.1 dX7_isAbove_34 rfl (lv_at hl 2 rfl) ?_
    refine hv_cVi C0 w kl_X7_112 kv_X7_isThere rfl hV26 (c_X7_isThere hV26) (by decide) (by decide) rfl hl.1 rfl (Nat.le_of_ble_eq_true rfl) dX7_isAbove_35 ⟨Nat.le_refl _, Nat.le_refl _⟩ (fun x27 V28 Hq lq hp29 w => ?_)
    obtain ⟨e9, hz9⟩ := hp29
    rw [e9] at w; clear e9
    rcases hz9 with ⟨rfl, hi30⟩ | ⟨rfl, hi30⟩
    · skip
      refine lv_if_eq (tgt := 56) C0.1 C0.2.1 dX7_isAbove_38 (by decide) (fun h9 => absurd h9 (by decide)) (fun _ => ?_)
      refine lv_aload_n C0.1 C0.2.1 dX7_isAbove_41 rfl (lv_at hl 2 rfl) ?_
      refine lv_lload C0.1 C0.2.1 dX7_isAbove_42 (lv_at hl 1 rfl) ?_
      refine lv_lload C0.1 C0.2.1 dX7_isAbove_44 (lv_at hl 0 rfl) ?_
      refine hv_cVi C0 w kl_X7_268 kv_X7_against rfl hV26 (c_X7_against hV26) (by decide) (by decide) rfl hl.1 rfl (Nat.le_of_ble_eq_true rfl) dX7_isAbove_46 ⟨Nat.le_refl _, Nat.le_refl _⟩ (fun x31 V32 Hq lq hp33 w => ?_)
      obtain ⟨e9, e8x⟩ := hp33
      rw [e9] at w; rw [e8x]; clear e9 e8x
      refine lv_if_le (tgt := 56) C0.1 C0.2.1 dX7_isAbove_49 (by decide) (fun c_49 => ?_) (fun c_49 => ?_)
      · skip
        refine lv_iconst (v := 0) C0.1 C0.2.1 dX7_isAbove_56 (by decide) ?_
        exact hv_zret C0 w hr hlk (by decide) (⟨_, _, by rw [eV19, eV6, hv_uu], Or.inr ⟨rfl, fun h9 => (fx_ab fm20 fm7 hi30 c_22).mp h9 c_49⟩⟩) dX7_isAbove_57
      · skip
        refine lv_iconst (v := 1) C0.1 C0.2.1 dX7_isAbove_52 (by decide) ?_
        refine lv_goto (tgt := 57) C0.1 C0.2.1 dX7_isAbove_53 (by decide) ?_
        exact hv_zret C0 w hr hlk (by decide) (⟨_, _, by rw [eV19, eV6, hv_uu], Or.inl ⟨rfl, (fx_ab fm20 fm7 hi30 c_22).mpr c_49⟩⟩) dX7_isAbove_57
    · skip
      have hi30 := Classical.byContradiction hi30
      refine lv_if_eq (tgt := 56) C0.1 C0.2.1 dX7_isAbove_38 (by decide) (fun _ => ?_) (fun h9 => absurd h9 (by decide))
      refine lv_iconst (v := 0) C0.1 C0.2.1 dX7_isAbove_56 (by decide) ?_
      exact hv_zret C0 w hr hlk (by decide) (⟨_, _, by rw [eV19, eV6, hv_uu], Or.inr ⟨rfl, fun h9 => h9.1 (fm20.no.mp hi30)⟩⟩) dX7_isAbove_57
  · skip
    refine lv_iconst (v := 0) C0.1 C0.2.1 dX7_isAbove_26 (by decide) ?_
    exact hv_zret C0 w hr hlk (by decide) (⟨_, _, by rw [eV6], Or.inr ⟨rfl, fun h9 => h9.2.1 (fm7.no.mp c_22)⟩⟩) dX7_isAbove_27

set_option maxHeartbeats 4000000 in
set_option maxRecDepth 100000 in
theorem c_X7_odds {l : Launch} {X : hv_X} {V : hv_V} {mo : Nat} {σ : hs_S} (hM : okM X V mo σ) (hB : hs_b σ) {j1 j2 : Nat} {k : Int32} (hj1 : j1 < 6) (hj2 : j2 < 6) (hrj : sp_in (nI j1) 0 5) (hrk : sp_in (nI j2) 0 5) : hv_Ml l X 220 yX7_odds cX7_odds 7 V [.ref mo, .int (nI j1), .int (nI j2), .int k] (fun y V1 => y = sp_odds σ (nI j1) (nI j2) k ∧ okM X V1 mo σ ∧ hv_out V V1 mo (mo + 50)) := by
  refine hv_enter (by decide) (Nat.le_of_ble_eq_true rfl) ?_
  intro p e s m below meth c ls C0 hr hlk hnm w hl
  have hl : lv_has ls 7 [(0, .ref mo), (1, .int (nI j1)), (2, .int (nI j2)), (3, .int k)] := hl
  obtain ⟨ab, be, pl, cl, sg, ik, hO, hRw, hTx, hSc, hSe, hEv, hBk, hIm, hTp⟩ := id hM
  obtain ⟨r1, r2, ⟨rf, r3, r4⟩, r5⟩ := id hRw
  obtain ⟨⟨wd, s1⟩, ⟨td, s2⟩, ⟨sn, s3⟩, ⟨ut, s4⟩, kn, s5⟩ := id hSc
  obtain ⟨sf, sg9, sh, e1, e2, e3, ea⟩ := id hSe
  obtain ⟨ef, eg, v1, v2, va⟩ := id hEv
  obtain ⟨bf, bg, b1, b2, ba⟩ := id hBk
  obtain ⟨t1, t2, ⟨tf, t3, t4⟩, t5⟩ := id hTp
  have hbR := hB.1.1
  have kj1 : (nI j1).toNatClampNeg = j1 := nI_clamp (by omega)
  have kj2 : (nI j2).toNatClampNeg = j2 := nI_clamp (by omega)
  have hN_j1 : V (mo + 4 + j1) = some (nE X (σ.1.1.2.2 j1)) := r5 j1 hj1
  have hN_j2 : V (mo + 4 + j2) = some (nE X (σ.1.1.2.2 j2)) := r5 j2 hj2
  have hn_j1 : σ.1.1.2.1 j1 ≤ 16 := (hbR j1 hj1).2.1
  have hn_j2 : σ.1.1.2.1 j2 ≤ 16 := (hbR j2 hj2).2.1
  have inner : ∀ (q1 : Nat) (c0 : Int32) (m9 q2 : Nat) (c9 : Int32) (ab2 be2 : Int64) (Hq : Heap) (lq : List Loc) (ls : Array Slot), (q2 + m9 = σ.1.1.2.1 j2) → (q1 ≤ 16) → (sp_c2 σ j2 (sp_w σ j1 q1) m9 q2 c9 = sp_c2 σ j2 (sp_w σ j1 q1) (σ.1.1.2.1 j2) 0 c0) → (∀ (c8 : Int32) (ab2 be2 : Int64) (Hq : Heap) (lq : List Loc) (ls : Array Slot), c8 = sp_c2 σ j2 (sp_w σ j1 q1) (σ.1.1.2.1 j2) 0 c0 → hv_w X s (hv_up V mo (mE mo ab2 be2 σ.2.2.1.1 pl cl sg σ.1.2.1.1 σ.1.2.2.1.1 σ.1.2.2.2.1 ik)) Hq lq → lv_has ls 7 [(0, .ref mo), (1, .int (nI j1)), (2, .int (nI j2)), (3, .int k), (4, .int c8), (5, .int (nI (q1 + 1)))] → W p l e (hv_rm 220 0 0) s m ([.ref mo, .int (nI j1), .int (nI j2), .int k] : List Value).toArray below meth c Hq lq 0 0 (MQ below (hv_Ql X (fun y V1 => y = sp_odds σ (nI j1) (nI j2) k ∧ okM X V1 mo σ ∧ hv_out V V1 mo (mo + 50))) ([.ref mo, .int (nI j1), .int (nI j2), .int k] : List Value).toArray s 0 0 X.2.2.1) (F0 m 49 ls [])) → hv_w X s (hv_up V mo (mE mo ab2 be2 σ.2.2.1.1 pl cl sg σ.1.2.1.1 σ.1.2.2.1.1 σ.1.2.2.2.1 ik)) Hq lq → lv_has ls 7 [(0, .ref mo), (1, .int (nI j1)), (2, .int (nI j2)), (3, .int k), (4, .int c9), (5, .int (nI q1)), (6, .int (nI (q2 + 1)))] → W p l e (hv_rm 220 0 0) s m ([.ref mo, .int (nI j1), .int (nI j2), .int k] : List Value).toArray below meth c Hq lq 0 0 (MQ below (hv_Ql X (fun y V1 => y = sp_odds σ (nI j1) (nI j2) k ∧ okM X V1 mo σ ∧ hv_out V V1 mo (mo + 50))) ([.ref mo, .int (nI j1), .int (nI j2), .int k] : List Value).toArray s 0 0 X.2.2.1) (F0 m 63 ls []) := by
    intro q1 c0 m9
    induction m9 with
    | zero =>
      intro q2 c9 ab2 be2 Hq lq ls hi hq1 he hout9 w hl
      have he : c9 = sp_c2 σ j2 (sp_w σ j1 q1) (σ.1.1.2.1 j2) 0 c0 := he
      obtain ⟨V8, e8⟩ : ∃ W9, W9 = hv_up V mo (mE mo ab2 be2 σ.2.2.1.1 pl cl sg σ.1.2.1.1 σ.1.2.2.1.1 σ.1.2.2.2.1 ik) := ⟨_, rfl⟩
      rw [← e8] at w
      have hOv : V8 mo = some (.inr (7, [.ref (mo + 1), .ref (mo + 2), .ref (mo + 3), .long ab2, .long be2, .ref (mo + 10), .int (nI σ.2.2.1.1), .int pl, .int cl, .ref (mo + 11), .ref (mo + 12), .ref (mo + 13), .int sg, .ref (mo + 14), .ref (mo + 15), .ref (mo + 16), .ref (mo + 17), .int (nI σ.1.2.1.1), .ref (mo + 18), .ref (mo + 19), .int (nI σ.1.2.2.1.1), .ref (mo + 20), .ref (mo + 21), .ref (mo + 22), .int (nI σ.1.2.2.2.1), .int ik, .ref (mo + 23), .ref (mo + 24), .ref (mo + 25), .ref (mo + 26), .ref (mo + 33), .ref (mo + 41), .ref (mo + 42), .ref (mo + 43)])) := by rw [e8]; exact hv_us
      have r1v : V8 (mo + 1) = some (.inl (X.2.1 0, 6, .inl σ.1.1.1)) := by rw [e8, hv_un (by omega)]; exact r1
      have r2v : V8 (mo + 2) = some (.inl (X.2.1 0, 6, .inl (fun j => nI (σ.1.1.2.1 j)))) := by rw [e8, hv_un (by omega)]; exact r2
      have r3v : V8 (mo + 3) = some (.inl (X.2.1 6, 6, .inr (.inr (.inr (.inr rf))))) := by rw [e8, hv_un (by omega)]; exact r3
      have hN_j1v : V8 (mo + 4 + j1) = some (nE X (σ.1.1.2.2 j1)) := by rw [e8, hv_un (by omega)]; exact hN_j1
      have hN_j2v : V8 (mo + 4 + j2) = some (nE X (σ.1.1.2.2 j2)) := by rw [e8, hv_un (by omega)]; exact hN_j2
      refine lv_iload C0.1 C0.2.1 dX7_odds_63 (lv_at hl 6 rfl) ?_
      refine lv_aload_n C0.1 C0.2.1 dX7_odds_65 rfl (lv_at hl 0 rfl) ?_
      refine gf_X7_15 C0 w hOv rfl dX7_odds_66 ?_
      refine lv_iload_n C0.1 C0.2.1 dX7_odds_69 rfl (lv_at hl 2 rfl) ?_
      refine hv_iald C0 w r2v (hn_in hj2 (by decide)) dX7_odds_70 ?_
      have hc1 : (nI j2).toNatClampNeg = j2 := nI_clamp (by omega)
      rw [hc1]
      refine lv_icmp_gt (tgt := 96) C0.1 C0.2.1 dX7_odds_71 (by decide) (fun c_71 => ?_) (fun c_71 => absurd (show nI (σ.1.1.2.1 j2) < nI (q2 + 1) from nI_lt (by omega) (by omega)) c_71)
      refine lv_iinc (v := (nI q1) + 1) (lv' := [(5, .int ((nI q1) + 1)), (0, .ref mo), (1, .int (nI j1)), (2, .int (nI j2)), (3, .int k), (4, .int c9), (6, .int (nI (q2 + 1)))]) C0.1 C0.2.1 dX7_odds_96 hl (k := 5) rfl rfl (by decide) rfl (fun ls hl => ?_)
      refine lv_goto (tgt := 49) C0.1 C0.2.1 dX7_odds_99 (by decide) ?_
      exact hout9 c9 ab2 be2 _ _ ls he (by rw [e8] at w; exact w) (by have h9 := (lv_sub (l' := [(0, .ref mo), (1, .int (nI j1)), (2, .int (nI j2)), (3, .int k), (4, .int c9), (5, .int (nI q1 + 1))]) hl [1, 2, 3, 4, 5, 0] rfl); rw [nI_1] at h9; exact h9)
    | succ m9 ih =>
      intro q2 c9 ab2 be2 Hq lq ls hi hq1 he hout9 w hl
      obtain ⟨V8, e8⟩ : ∃ W9, W9 = hv_up V mo (mE mo ab2 be2 σ.2.2.1.1 pl cl sg σ.1.2.1.1 σ.1.2.2.1.1 σ.1.2.2.2.1 ik) := ⟨_, rfl⟩
      rw [← e8] at w
      have hOv : V8 mo = some (.inr (7, [.ref (mo + 1), .ref (mo + 2), .ref (mo + 3), .long ab2, .long be2, .ref (mo + 10), .int (nI σ.2.2.1.1), .int pl, .int cl, .ref (mo + 11), .ref (mo + 12), .ref (mo + 13), .int sg, .ref (mo + 14), .ref (mo + 15), .ref (mo + 16), .ref (mo + 17), .int (nI σ.1.2.1.1), .ref (mo + 18), .ref (mo + 19), .int (nI σ.1.2.2.1.1), .ref (mo + 20), .ref (mo + 21), .ref (mo + 22), .int (nI σ.1.2.2.2.1), .int ik, .ref (mo + 23), .ref (mo + 24), .ref (mo + 25), .ref (mo + 26), .ref (mo + 33), .ref (mo + 41), .ref (mo + 42), .ref (mo + 43)])) := by rw [e8]; exact hv_us
      have r1v : V8 (mo + 1) = some (.inl (X.2.1 0, 6, .inl σ.1.1.1)) := by rw [e8, hv_un (by omega)]; exact r1
      have r2v : V8 (mo + 2) = some (.inl (X.2.1 0, 6, .inl (fun j => nI (σ.1.1.2.1 j)))) := by rw [e8, hv_un (by omega)]; exact r2
      have r3v : V8 (mo + 3) = some (.inl (X.2.1 6, 6, .inr (.inr (.inr (.inr rf))))) := by rw [e8, hv_un (by omega)]; exact r3
      have hN_j1v : V8 (mo + 4 + j1) = some (nE X (σ.1.1.2.2 j1)) := by rw [e8, hv_un (by omega)]; exact hN_j1
      have hN_j2v : V8 (mo + 4 + j2) = some (nE X (σ.1.1.2.2 j2)) := by rw [e8, hv_un (by omega)]; exact hN_j2
      refine lv_iload C0.1 C0.2.1 dX7_odds_63 (lv_at hl 6 rfl) ?_
      refine lv_aload_n C0.1 C0.2.1 dX7_odds_65 rfl (lv_at hl 0 rfl) ?_
      refine gf_X7_15 C0 w hOv rfl dX7_odds_66 ?_
      refine lv_iload_n C0.1 C0.2.1 dX7_odds_69 rfl (lv_at hl 2 rfl) ?_
      refine hv_iald C0 w r2v (hn_in hj2 (by decide)) dX7_odds_70 ?_
      have hc1 : (nI j2).toNatClampNeg = j2 := nI_clamp (by omega)
      rw [hc1]
      refine lv_icmp_gt (tgt := 96) C0.1 C0.2.1 dX7_odds_71 (by decide) (fun c_71 => absurd c_71 (show ¬ nI (σ.1.1.2.1 j2) < nI (q2 + 1) from nI_nlt (by omega) (by omega))) (fun c_71 => ?_)
      refine lv_aload_n C0.1 C0.2.1 dX7_odds_74 rfl (lv_at hl 0 rfl) ?_
      refine lv_iload_n C0.1 C0.2.1 dX7_odds_75 rfl (lv_at hl 1 rfl) ?_
      refine lv_iload C0.1 C0.2.1 dX7_odds_76 (lv_at hl 5 rfl) ?_
      refine lv_iload_n C0.1 C0.2.1 dX7_odds_78 rfl (lv_at hl 2 rfl) ?_
      refine lv_iload C0.1 C0.2.1 dX7_odds_79 (lv_at hl 6 rfl) ?_
      refine hv_cVi C0 w kl_X7_281 kv_X7_isAbove rfl hOv (c_X7_isAbove (ma := fun _ => 0) (n := q1) (n2 := q2 + 1) hOv r1v r3v (r4 j1 hj1) (r4 j2 hj2) hj1 hj2 hN_j1v hN_j2v (by omega) (by omega) (fun i9 => (hbR j1 hj1).2.2 i9) (fun i9 => (hbR j2 hj2).2.2 i9)) (by decide) (by decide) rfl hl.1 rfl (Nat.le_of_ble_eq_true rfl) dX7_odds_81 ⟨Nat.le_refl _, Nat.le_refl _⟩ (fun x2 V3 Hq lq hp4 w => ?_)
      obtain ⟨ab5, be6, eV7, hz9⟩ := hp4
      have hV9 : V3 (mo + 1) = some (.inl (X.2.1 0, 6, .inl σ.1.1.1)) := by rw [eV7, hv_un (by omega)]; exact r1v
      have hV10 : V3 (mo + 2) = some (.inl (X.2.1 0, 6, .inl (fun j => nI (σ.1.1.2.1 j)))) := by rw [eV7, hv_un (by omega)]; exact r2v
      have hV11 : V3 (mo + 3) = some (.inl (X.2.1 6, 6, .inr (.inr (.inr (.inr rf))))) := by rw [eV7, hv_un (by omega)]; exact r3v
      have hV13 : V3 (mo + 4 + j1) = some (.inl (X.2.1 0, 16, .inl (σ.1.1.2.2 j1))) := by rw [eV7, hv_un (by omega)]; exact hN_j1v
      have hV14 : V3 (mo + 4 + j2) = some (.inl (X.2.1 0, 16, .inl (σ.1.1.2.2 j2))) := by rw [eV7, hv_un (by omega)]; exact hN_j2v
      have hV15 : V3 mo = some (.inr (7, [.ref (mo + 1), .ref (mo + 2), .ref (mo + 3), .long ab5, .long be6, .ref (mo + 10), .int (nI σ.2.2.1.1), .int pl, .int cl, .ref (mo + 11), .ref (mo + 12), .ref (mo + 13), .int sg, .ref (mo + 14), .ref (mo + 15), .ref (mo + 16), .ref (mo + 17), .int (nI σ.1.2.1.1), .ref (mo + 18), .ref (mo + 19), .int (nI σ.1.2.2.1.1), .ref (mo + 20), .ref (mo + 21), .ref (mo + 22), .int (nI σ.1.2.2.2.1), .int ik, .ref (mo + 23), .ref (mo + 24), .ref (mo + 25), .ref (mo + 26), .ref (mo + 33), .ref (mo + 41), .ref (mo + 42), .ref (mo + 43)])) := by rw [eV7]; exact hv_us
      rcases hz9 with ⟨rfl, ha8⟩ | ⟨rfl, ha8⟩
      · skip
        refine lv_if_eq (tgt := 90) C0.1 C0.2.1 dX7_odds_84 (by decide) (fun h9 => absurd h9 (by decide)) (fun _ => ?_)
        refine lv_iinc (v := c9 + 1) (lv' := [(4, .int (c9 + 1)), (0, .ref mo), (1, .int (nI j1)), (2, .int (nI j2)), (3, .int k), (5, .int (nI q1)), (6, .int (nI (q2 + 1)))]) C0.1 C0.2.1 dX7_odds_87 hl (k := 4) rfl rfl (by decide) rfl (fun ls hl => ?_)
        refine lv_iinc (v := (nI (q2 + 1)) + 1) (lv' := [(6, .int ((nI (q2 + 1)) + 1)), (4, .int (c9 + 1)), (0, .ref mo), (1, .int (nI j1)), (2, .int (nI j2)), (3, .int k), (5, .int (nI q1))]) C0.1 C0.2.1 dX7_odds_90 hl (k := 6) rfl rfl (by decide) rfl (fun ls hl => ?_)
        refine lv_goto (tgt := 63) C0.1 C0.2.1 dX7_odds_93 (by decide) ?_
        exact ih (q2 + 1) (c9 + 1) _ _ _ _ ls (by omega) hq1 (by rw [← he, sp_c2, if_pos ha8]) hout9 (by rw [eV7, e8, hv_uu] at w; exact w) (by have h9 := (lv_sub (l' := [(0, .ref mo), (1, .int (nI j1)), (2, .int (nI j2)), (3, .int k), (4, .int (c9 + 1)), (5, .int (nI q1)), (6, .int (nI (q2 + 1) + 1))]) hl [2, 3, 4, 5, 1, 6, 0] rfl); rw [nI_1] at h9; exact h9)
      · skip
        refine lv_if_eq (tgt := 90) C0.1 C0.2.1 dX7_odds_84 (by decide) (fun _ => ?_) (fun h9 => absurd h9 (by decide))
        refine lv_iinc (v := (nI (q2 + 1)) + 1) (lv' := [(6, .int ((nI (q2 + 1)) + 1)), (0, .ref mo), (1, .int (nI j1)), (2, .int (nI j2)), (3, .int k), (4, .int c9), (5, .int (nI q1))]) C0.1 C0.2.1 dX7_odds_90 hl (k := 6) rfl rfl (by decide) rfl (fun ls hl => ?_)
        refine lv_goto (tgt := 63) C0.1 C0.2.1 dX7_odds_93 (by decide) ?_
        exact ih (q2 + 1) (c9) _ _ _ _ ls (by omega) hq1 (by rw [← he, sp_c2, if_neg ha8]) hout9 (by rw [eV7, e8, hv_uu] at w; exact w) (by have h9 := (lv_sub (l' := [(0, .ref mo), (1, .int (nI j1)), (2, .int (nI j2)), (3, .int k), (4, .int (c9)), (5, .int (nI q1)), (6, .int (nI (q2 + 1) + 1))]) hl [1, 2, 3, 4, 5, 6, 0] rfl); rw [nI_1] at h9; exact h9)
  have outer : ∀ (hsp : sp_odds σ (nI j1) (nI j2) k = fx_part (fx_become (sp_ca σ j1 j2).toInt64 (nI (σ.1.1.2.1 j1) * nI (σ.1.1.2.1 j2)).toInt64) k) (m9 q1 : Nat) (c9 : Int32) (ab2 be2 : Int64) (Hq : Heap) (lq : List Loc) (ls : Array Slot), (q1 + m9 = σ.1.1.2.1 j1 + 1) → (sp_c1 σ j1 j2 m9 q1 c9 = sp_ca σ j1 j2) → hv_w X s (hv_up V mo (mE mo ab2 be2 σ.2.2.1.1 pl cl sg σ.1.2.1.1 σ.1.2.2.1.1 σ.1.2.2.2.1 ik)) Hq lq → lv_has ls 7 [(0, .ref mo), (1, .int (nI j1)), (2, .int (nI j2)), (3, .int k), (4, .int c9), (5, .int (nI q1))] → W p l e (hv_rm 220 0 0) s m ([.ref mo, .int (nI j1), .int (nI j2), .int k] : List Value).toArray below meth c Hq lq 0 0 (MQ below (hv_Ql X (fun y V1 => y = sp_odds σ (nI j1) (nI j2) k ∧ okM X V1 mo σ ∧ hv_out V V1 mo (mo + 50))) ([.ref mo, .int (nI j1), .int (nI j2), .int k] : List Value).toArray s 0 0 X.2.2.1) (F0 m 49 ls []) := by
    intro hsp m9
    induction m9 with
    | zero =>
      intro q1 c9 ab2 be2 Hq lq ls hi he w hl
      have he : c9 = sp_ca σ j1 j2 := he
      obtain ⟨V8, e8⟩ : ∃ W9, W9 = hv_up V mo (mE mo ab2 be2 σ.2.2.1.1 pl cl sg σ.1.2.1.1 σ.1.2.2.1.1 σ.1.2.2.2.1 ik) := ⟨_, rfl⟩
      rw [← e8] at w
      have hOv : V8 mo = some (.inr (7, [.ref (mo + 1), .ref (mo + 2), .ref (mo + 3), .long ab2, .long be2, .ref (mo + 10), .int (nI σ.2.2.1.1), .int pl, .int cl, .ref (mo + 11), .ref (mo + 12), .ref (mo + 13), .int sg, .ref (mo + 14), .ref (mo + 15), .ref (mo + 16), .ref (mo + 17), .int (nI σ.1.2.1.1), .ref (mo + 18), .ref (mo + 19), .int (nI σ.1.2.2.1.1), .ref (mo + 20), .ref (mo + 21), .ref (mo + 22), .int (nI σ.1.2.2.2.1), .int ik, .ref (mo + 23), .ref (mo + 24), .ref (mo + 25), .ref (mo + 26), .ref (mo + 33), .ref (mo + 41), .ref (mo + 42), .ref (mo + 43)])) := by rw [e8]; exact hv_us
      have r1v : V8 (mo + 1) = some (.inl (X.2.1 0, 6, .inl σ.1.1.1)) := by rw [e8, hv_un (by omega)]; exact r1
      have r2v : V8 (mo + 2) = some (.inl (X.2.1 0, 6, .inl (fun j => nI (σ.1.1.2.1 j)))) := by rw [e8, hv_un (by omega)]; exact r2
      have r3v : V8 (mo + 3) = some (.inl (X.2.1 6, 6, .inr (.inr (.inr (.inr rf))))) := by rw [e8, hv_un (by omega)]; exact r3
      have hN_j1v : V8 (mo + 4 + j1) = some (nE X (σ.1.1.2.2 j1)) := by rw [e8, hv_un (by omega)]; exact hN_j1
      have hN_j2v : V8 (mo + 4 + j2) = some (nE X (σ.1.1.2.2 j2)) := by rw [e8, hv_un (by omega)]; exact hN_j2
      refine lv_iload C0.1 C0.2.1 dX7_odds_49 (lv_at hl 5 rfl) ?_
      refine lv_aload_n C0.1 C0.2.1 dX7_odds_51 rfl (lv_at hl 0 rfl) ?_
      refine gf_X7_15 C0 w hOv rfl dX7_odds_52 ?_
      refine lv_iload_n C0.1 C0.2.1 dX7_odds_55 rfl (lv_at hl 1 rfl) ?_
      refine hv_iald C0 w r2v (hn_in hj1 (by decide)) dX7_odds_56 ?_
      have hc1 : (nI j1).toNatClampNeg = j1 := nI_clamp (by omega)
      rw [hc1]
      refine lv_icmp_gt (tgt := 102) C0.1 C0.2.1 dX7_odds_57 (by decide) (fun c_57 => ?_) (fun c_57 => absurd (show nI (σ.1.1.2.1 j1) < nI q1 from nI_lt (by omega) (by omega)) c_57)
      refine lv_aload_n C0.1 C0.2.1 dX7_odds_102 rfl (lv_at hl 0 rfl) ?_
      refine lv_iload C0.1 C0.2.1 dX7_odds_103 (lv_at hl 4 rfl) ?_
      refine lv_i2l (v := c9.toInt64) C0.1 C0.2.1 dX7_odds_105 rfl ?_
      refine lv_aload_n C0.1 C0.2.1 dX7_odds_106 rfl (lv_at hl 0 rfl) ?_
      refine gf_X7_15 C0 w hOv rfl dX7_odds_107 ?_
      refine lv_iload_n C0.1 C0.2.1 dX7_odds_110 rfl (lv_at hl 1 rfl) ?_
      refine hv_iald C0 w r2v (hn_in hj1 (by decide)) dX7_odds_111 ?_
      have hc2 : (nI j1).toNatClampNeg = j1 := nI_clamp (by omega)
      rw [hc2]
      refine lv_aload_n C0.1 C0.2.1 dX7_odds_112 rfl (lv_at hl 0 rfl) ?_
      refine gf_X7_15 C0 w hOv rfl dX7_odds_113 ?_
      refine lv_iload_n C0.1 C0.2.1 dX7_odds_116 rfl (lv_at hl 2 rfl) ?_
      refine hv_iald C0 w r2v (hn_in hj2 (by decide)) dX7_odds_117 ?_
      have hc3 : (nI j2).toNatClampNeg = j2 := nI_clamp (by omega)
      rw [hc3]
      refine lv_imul C0.1 C0.2.1 dX7_odds_118 ?_
      refine lv_i2l (v := ((nI (σ.1.1.2.1 j1)) * (nI (σ.1.1.2.1 j2))).toInt64) C0.1 C0.2.1 dX7_odds_119 rfl ?_
      refine hv_cVv C0 w kl_X7_116 kv_X7_lay rfl hOv (c_X7_lay hOv (a := c9.toInt64) (b := ((nI (σ.1.1.2.1 j1)) * (nI (σ.1.1.2.1 j2))).toInt64) (i64_of32 _) (nI_mulp (by omega) (by omega))) (by decide) (by decide) rfl hl.1 rfl (Nat.le_of_ble_eq_true rfl) dX7_odds_120 ⟨Nat.le_refl _, Nat.le_refl _⟩ (fun V5 Hq lq hp6 w => ?_)
      have hV7 : V5 (mo + 1) = some (.inl (X.2.1 0, 6, .inl σ.1.1.1)) := by rw [hp6, hv_un (by omega)]; exact r1v
      have hV8 : V5 (mo + 2) = some (.inl (X.2.1 0, 6, .inl (fun j => nI (σ.1.1.2.1 j)))) := by rw [hp6, hv_un (by omega)]; exact r2v
      have hV9 : V5 (mo + 3) = some (.inl (X.2.1 6, 6, .inr (.inr (.inr (.inr rf))))) := by rw [hp6, hv_un (by omega)]; exact r3v
      have hV11 : V5 (mo + 4 + j1) = some (.inl (X.2.1 0, 16, .inl (σ.1.1.2.2 j1))) := by rw [hp6, hv_un (by omega)]; exact hN_j1v
      have hV12 : V5 (mo + 4 + j2) = some (.inl (X.2.1 0, 16, .inl (σ.1.1.2.2 j2))) := by rw [hp6, hv_un (by omega)]; exact hN_j2v
      have hV13 : V5 mo = some (.inr (7, [.ref (mo + 1), .ref (mo + 2), .ref (mo + 3), .long (fl_a c9.toInt64 (((nI (σ.1.1.2.1 j1)) * (nI (σ.1.1.2.1 j2))).toInt64)), .long (fl_b c9.toInt64 (((nI (σ.1.1.2.1 j1)) * (nI (σ.1.1.2.1 j2))).toInt64)), .ref (mo + 10), .int (nI σ.2.2.1.1), .int pl, .int cl, .ref (mo + 11), .ref (mo + 12), .ref (mo + 13), .int sg, .ref (mo + 14), .ref (mo + 15), .ref (mo + 16), .ref (mo + 17), .int (nI σ.1.2.1.1), .ref (mo + 18), .ref (mo + 19), .int (nI σ.1.2.2.1.1), .ref (mo + 20), .ref (mo + 21), .ref (mo + 22), .int (nI σ.1.2.2.2.1), .int ik, .ref (mo + 23), .ref (mo + 24), .ref (mo + 25), .ref (mo + 26), .ref (mo + 33), .ref (mo + 41), .ref (mo + 42), .ref (mo + 43)])) := by rw [hp6]; exact hv_us
      refine lv_aload_n C0.1 C0.2.1 dX7_odds_123 rfl (lv_at hl 0 rfl) ?_
      refine lv_iload_n C0.1 C0.2.1 dX7_odds_124 rfl (lv_at hl 3 rfl) ?_
      refine hv_cVl C0 w kl_X7_248 kv_X7_partOf rfl hV13 (c_X7_partOf hV13) (by decide) (by decide) rfl hl.1 rfl (Nat.le_of_ble_eq_true rfl) dX7_odds_125 ⟨Nat.le_refl _, Nat.le_refl _⟩ (fun x14 V15 Hq lq hp16 w => ?_)
      obtain ⟨e9, e8⟩ := hp16
      rw [e9] at w; rw [e8]; clear e9 e8
      exact hv_lret C0 w hr hlk (⟨by rw [(fx_become_ok (a := c9.toInt64) (b := ((nI (σ.1.1.2.1 j1)) * (nI (σ.1.1.2.1 j2))).toInt64) (i64_of32 _) (nI_mulp (by omega) (by omega))).part k, he]; exact hsp.symm, ⟨(fl_a c9.toInt64 (((nI (σ.1.1.2.1 j1)) * (nI (σ.1.1.2.1 j2))).toInt64)), (fl_b c9.toInt64 (((nI (σ.1.1.2.1 j1)) * (nI (σ.1.1.2.1 j2))).toInt64)), pl, cl, sg, ik, (by rw [hp6]; exact hv_us), hRw.fr (fun q h7 h8 => by rw [hp6, hv_un (by omega), e8, hv_un (by omega)]), (by rw [hp6, hv_un (by omega), e8, hv_un (by omega)] : _ = V (mo + 10)).trans hTx, hSc.fr (fun q h7 h8 => by rw [hp6, hv_un (by omega), e8, hv_un (by omega)]) (fun q h7 h8 => by rw [hp6, hv_un (by omega), e8, hv_un (by omega)]), hSe.fr (fun q h7 h8 => by rw [hp6, hv_un (by omega), e8, hv_un (by omega)]), hEv.fr (by rw [hp6, hv_un (by omega), e8, hv_un (by omega)]) (by rw [hp6, hv_un (by omega), e8, hv_un (by omega)]), hBk.fr (by rw [hp6, hv_un (by omega), e8, hv_un (by omega)]) (by rw [hp6, hv_un (by omega), e8, hv_un (by omega)]), hIm.fr (fun q h7 h8 => by rw [hp6, hv_un (by omega), e8, hv_un (by omega)]), hTp.fr (fun q h7 h8 => by rw [hp6, hv_un (by omega), e8, hv_un (by omega)])⟩, (fun q h7 => by rw [hp6, hv_un (by omega), e8, hv_un (by omega)])⟩) dX7_odds_128
    | succ m9 ih =>
      intro q1 c9 ab2 be2 Hq lq ls hi he w hl
      obtain ⟨V8, e8⟩ : ∃ W9, W9 = hv_up V mo (mE mo ab2 be2 σ.2.2.1.1 pl cl sg σ.1.2.1.1 σ.1.2.2.1.1 σ.1.2.2.2.1 ik) := ⟨_, rfl⟩
      rw [← e8] at w
      have hOv : V8 mo = some (.inr (7, [.ref (mo + 1), .ref (mo + 2), .ref (mo + 3), .long ab2, .long be2, .ref (mo + 10), .int (nI σ.2.2.1.1), .int pl, .int cl, .ref (mo + 11), .ref (mo + 12), .ref (mo + 13), .int sg, .ref (mo + 14), .ref (mo + 15), .ref (mo + 16), .ref (mo + 17), .int (nI σ.1.2.1.1), .ref (mo + 18), .ref (mo + 19), .int (nI σ.1.2.2.1.1), .ref (mo + 20), .ref (mo + 21), .ref (mo + 22), .int (nI σ.1.2.2.2.1), .int ik, .ref (mo + 23), .ref (mo + 24), .ref (mo + 25), .ref (mo + 26), .ref (mo + 33), .ref (mo + 41), .ref (mo + 42), .ref (mo + 43)])) := by rw [e8]; exact hv_us
      have r1v : V8 (mo + 1) = some (.inl (X.2.1 0, 6, .inl σ.1.1.1)) := by rw [e8, hv_un (by omega)]; exact r1
      have r2v : V8 (mo + 2) = some (.inl (X.2.1 0, 6, .inl (fun j => nI (σ.1.1.2.1 j)))) := by rw [e8, hv_un (by omega)]; exact r2
      have r3v : V8 (mo + 3) = some (.inl (X.2.1 6, 6, .inr (.inr (.inr (.inr rf))))) := by rw [e8, hv_un (by omega)]; exact r3
      have hN_j1v : V8 (mo + 4 + j1) = some (nE X (σ.1.1.2.2 j1)) := by rw [e8, hv_un (by omega)]; exact hN_j1
      have hN_j2v : V8 (mo + 4 + j2) = some (nE X (σ.1.1.2.2 j2)) := by rw [e8, hv_un (by omega)]; exact hN_j2
      refine lv_iload C0.1 C0.2.1 dX7_odds_49 (lv_at hl 5 rfl) ?_
      refine lv_aload_n C0.1 C0.2.1 dX7_odds_51 rfl (lv_at hl 0 rfl) ?_
      refine gf_X7_15 C0 w hOv rfl dX7_odds_52 ?_
      refine lv_iload_n C0.1 C0.2.1 dX7_odds_55 rfl (lv_at hl 1 rfl) ?_
      refine hv_iald C0 w r2v (hn_in hj1 (by decide)) dX7_odds_56 ?_
      have hc1 : (nI j1).toNatClampNeg = j1 := nI_clamp (by omega)
      rw [hc1]
      refine lv_icmp_gt (tgt := 102) C0.1 C0.2.1 dX7_odds_57 (by decide) (fun c_57 => absurd c_57 (show ¬ nI (σ.1.1.2.1 j1) < nI q1 from nI_nlt (by omega) (by omega))) (fun c_57 => ?_)
      refine lv_iconst (v := 1) C0.1 C0.2.1 dX7_odds_60 (by decide) ?_
      refine lv_istore (lv' := [(6, .int 1), (0, .ref mo), (1, .int (nI j1)), (2, .int (nI j2)), (3, .int k), (4, .int c9), (5, .int (nI q1))]) C0.1 C0.2.1 dX7_odds_61 hl (by decide) rfl (fun ls hl => ?_)
      exact inner q1 c9 (σ.1.1.2.1 j2) 0 c9 ab2 be2 _ _ ls (by omega) (by omega) rfl (fun c8 ab3 be3 Hq lq ls h8 w hl => ih (q1 + 1) c8 ab3 be3 Hq lq ls (by omega) (by rw [← he, h8]; rfl) w hl) (by rw [e8] at w; exact w) (lv_sub hl [1, 2, 3, 4, 5, 6, 0] rfl)
  refine lv_iload_n C0.1 C0.2.1 dX7_odds_0 rfl (lv_at hl 1 rfl) ?_
  refine hv_cSi (As := [.int (nI j1)]) C0 w kl_X7_135 ks_X7_isRow (c_X7_isRow) (by decide) (by decide) rfl hl.1 rfl (Nat.le_of_ble_eq_true rfl) dX7_odds_1 ⟨Nat.le_refl _, Nat.le_refl _⟩ (fun x1 V2 Hq lq hp3 w => ?_)
  obtain ⟨e9, hz9⟩ := hp3
  rw [e9] at w; clear e9
  obtain ⟨ex9, -⟩ | ⟨-, hno⟩ := hz9
  rotate_left
  · exact absurd hrj hno
  rw [ex9]; clear ex9
  refine lv_if_eq (tgt := 39) C0.1 C0.2.1 dX7_odds_4 (by decide) (fun h9 => absurd h9 (by decide)) (fun _ => ?_)
  refine lv_iload_n C0.1 C0.2.1 dX7_odds_7 rfl (lv_at hl 2 rfl) ?_
  refine hv_cSi (As := [.int (nI j2)]) C0 w kl_X7_135 ks_X7_isRow (c_X7_isRow) (by decide) (by decide) rfl hl.1 rfl (Nat.le_of_ble_eq_true rfl) dX7_odds_8 ⟨Nat.le_refl _, Nat.le_refl _⟩ (fun x4 V5 Hq lq hp6 w => ?_)
  obtain ⟨e9, hz9⟩ := hp6
  rw [e9] at w; clear e9
  obtain ⟨ex9, -⟩ | ⟨-, hno⟩ := hz9
  rotate_left
  · exact absurd hrk hno
  rw [ex9]; clear ex9
  refine lv_if_eq (tgt := 39) C0.1 C0.2.1 dX7_odds_11 (by decide) (fun h9 => absurd h9 (by decide)) (fun _ => ?_)
  refine lv_iload_n C0.1 C0.2.1 dX7_odds_14 rfl (lv_at hl 3 rfl) ?_
  refine hv_cSi (As := [.int k]) C0 w kl_X7_245 ks_X7_isPart (c_X7_isPart) (by decide) (by decide) rfl hl.1 rfl (Nat.le_of_ble_eq_true rfl) dX7_odds_15 ⟨Nat.le_refl _, Nat.le_refl _⟩ (fun x7 V8 Hq lq hp9 w => ?_)
  obtain ⟨e9, hz9⟩ := hp9
  rw [e9] at w; clear e9
  rcases hz9 with ⟨rfl, hb10⟩ | ⟨rfl, hb10⟩
  · skip
    refine lv_if_eq (tgt := 39) C0.1 C0.2.1 dX7_odds_18 (by decide) (fun h9 => absurd h9 (by decide)) (fun _ => ?_)
    refine lv_aload_n C0.1 C0.2.1 dX7_odds_21 rfl (lv_at hl 0 rfl) ?_
    refine gf_X7_15 C0 w hO rfl dX7_odds_22 ?_
    refine lv_iload_n C0.1 C0.2.1 dX7_odds_25 rfl (lv_at hl 1 rfl) ?_
    refine hv_iald C0 w r2 (hn_in hj1 (by decide)) dX7_odds_26 ?_
    have hc11 : (nI j1).toNatClampNeg = j1 := nI_clamp (by omega)
    rw [hc11]
    refine lv_if_eq (tgt := 39) C0.1 C0.2.1 dX7_odds_27 (by decide) (fun c_27 => ?_) (fun c_27 => ?_)
    · skip
      refine lv_ldc2 C0.1 C0.2.1 C0.2.2.2.1 (C0.2.2.2.2.1 _ kk_X7_243) dX7_odds_39 ?_
      exact hv_lret C0 w hr hlk (by rw [sp_odds, if_pos ⟨hrj, hrk, hb10⟩, kj1, kj2, if_pos ((nI_mul0 hn_j1 hn_j2).mpr (Or.inl ((nI_eq (b := 0) (by omega) (by omega)).mp c_27)))]; exact ⟨rfl, hM, hv_out.rf⟩) dX7_odds_42
    · skip
      refine lv_aload_n C0.1 C0.2.1 dX7_odds_30 rfl (lv_at hl 0 rfl) ?_
      refine gf_X7_15 C0 w hO rfl dX7_odds_31 ?_
      refine lv_iload_n C0.1 C0.2.1 dX7_odds_34 rfl (lv_at hl 2 rfl) ?_
      refine hv_iald C0 w r2 (hn_in hj2 (by decide)) dX7_odds_35 ?_
      have hc12 : (nI j2).toNatClampNeg = j2 := nI_clamp (by omega)
      rw [hc12]
      refine lv_if_ne (tgt := 43) C0.1 C0.2.1 dX7_odds_36 (by decide) (fun c_36 => ?_) (fun c_36 => ?_)
      · skip
        refine lv_iconst (v := 0) C0.1 C0.2.1 dX7_odds_43 (by decide) ?_
        refine lv_istore (lv' := [(4, .int 0), (0, .ref mo), (1, .int (nI j1)), (2, .int (nI j2)), (3, .int k)]) C0.1 C0.2.1 dX7_odds_44 hl (by decide) rfl (fun ls hl => ?_)
        refine lv_iconst (v := 1) C0.1 C0.2.1 dX7_odds_46 (by decide) ?_
        refine lv_istore (lv' := [(5, .int 1), (4, .int 0), (0, .ref mo), (1, .int (nI j1)), (2, .int (nI j2)), (3, .int k)]) C0.1 C0.2.1 dX7_odds_47 hl (by decide) rfl (fun ls hl => ?_)
        have hsp : sp_odds σ (nI j1) (nI j2) k = fx_part (fx_become (sp_ca σ j1 j2).toInt64 (nI (σ.1.1.2.1 j1) * nI (σ.1.1.2.1 j2)).toInt64) k := by rw [sp_odds, if_pos ⟨hrj, hrk, hb10⟩, kj1, kj2, if_neg (fun h9 => ((nI_mul0 hn_j1 hn_j2).mp h9).elim (fun h8 => c_27 (by rw [h8]; rfl)) (fun h8 => c_36 (by rw [h8]; rfl)))]
        exact outer hsp (σ.1.1.2.1 j1) 1 0 ab be _ _ ls (by omega) rfl (by rw [hv_id hO]; exact w) (lv_sub hl [2, 3, 4, 5, 1, 0] rfl)
      · skip
        refine lv_ldc2 C0.1 C0.2.1 C0.2.2.2.1 (C0.2.2.2.2.1 _ kk_X7_243) dX7_odds_39 ?_
        exact hv_lret C0 w hr hlk (by rw [sp_odds, if_pos ⟨hrj, hrk, hb10⟩, kj1, kj2, if_pos ((nI_mul0 hn_j1 hn_j2).mpr (Or.inr ((nI_eq (b := 0) (by omega) (by omega)).mp c_36)))]; exact ⟨rfl, hM, hv_out.rf⟩) dX7_odds_42
  · skip
    refine lv_if_eq (tgt := 39) C0.1 C0.2.1 dX7_odds_18 (by decide) (fun _ => ?_) (fun h9 => absurd h9 (by decide))
    refine lv_ldc2 C0.1 C0.2.1 C0.2.2.2.1 (C0.2.2.2.2.1 _ kk_X7_243) dX7_odds_39 ?_
    exact hv_lret C0 w hr hlk (by rw [sp_odds, if_neg (fun h9 => hb10 h9.2.2)]; exact ⟨rfl, hM, hv_out.rf⟩) dX7_odds_42

set_option maxHeartbeats 4000000 in
set_option maxRecDepth 100000 in
theorem n_X7_odds {l : Launch} {X : hv_X} {V : hv_V} {mo : Nat} {σ : hs_S} (hM : okM X V mo σ) (hB : hs_b σ) {a b k : Int32} (hno : ¬ (sp_in a 0 5 ∧ sp_in b 0 5)) : hv_Ml l X 220 yX7_odds cX7_odds 7 V [.ref mo, .int a, .int b, .int k] (fun y V1 => y = sp_odds σ a b k ∧ okM X V1 mo σ ∧ hv_out V V1 mo (mo + 50)) := by
  refine hv_enter (by decide) (Nat.le_of_ble_eq_true rfl) ?_
  intro p e s m below meth c ls C0 hr hlk hnm w hl
  have hl : lv_has ls 7 [(0, .ref mo), (1, .int a), (2, .int b), (3, .int k)] := hl
  obtain ⟨ab, be, pl, cl, sg, ik, hO, hRw, hTx, hSc, hSe, hEv, hBk, hIm, hTp⟩ := id hM
  obtain ⟨r1, r2, ⟨rf, r3, r4⟩, r5⟩ := id hRw
  obtain ⟨⟨wd, s1⟩, ⟨td, s2⟩, ⟨sn, s3⟩, ⟨ut, s4⟩, kn, s5⟩ := id hSc
  obtain ⟨sf, sg9, sh, e1, e2, e3, ea⟩ := id hSe
  obtain ⟨ef, eg, v1, v2, va⟩ := id hEv
  obtain ⟨bf, bg, b1, b2, ba⟩ := id hBk
  obtain ⟨t1, t2, ⟨tf, t3, t4⟩, t5⟩ := id hTp
  have hbR := hB.1.1
  refine lv_iload_n C0.1 C0.2.1 dX7_odds_0 rfl (lv_at hl 1 rfl) ?_
  refine hv_cSi (As := [.int a]) C0 w kl_X7_135 ks_X7_isRow (c_X7_isRow) (by decide) (by decide) rfl hl.1 rfl (Nat.le_of_ble_eq_true rfl) dX7_odds_1 ⟨Nat.le_refl _, Nat.le_refl _⟩ (fun x1 V2 Hq lq hp3 w => ?_)
  obtain ⟨e9, hz9⟩ := hp3
  rw [e9] at w; clear e9
  rcases hz9 with ⟨rfl, hb4⟩ | ⟨rfl, hb4⟩
  · skip
    have ihb4 := hb4
    obtain ⟨j1, hj1, rfl⟩ := sp_inN (k := 5) (by decide) hb4
    have kj1 : (nI j1).toNatClampNeg = j1 := nI_clamp (by omega)
    have hN_j1 : V (mo + 4 + j1) = some (nE X (σ.1.1.2.2 j1)) := r5 j1 hj1
    have hn_j1 : σ.1.1.2.1 j1 ≤ 16 := (hbR j1 hj1).2.1
    refine lv_if_eq (tgt := 39) C0.1 C0.2.1 dX7_odds_4 (by decide) (fun h9 => absurd h9 (by decide)) (fun _ => ?_)
    refine lv_iload_n C0.1 C0.2.1 dX7_odds_7 rfl (lv_at hl 2 rfl) ?_
    refine hv_cSi (As := [.int b]) C0 w kl_X7_135 ks_X7_isRow (c_X7_isRow) (by decide) (by decide) rfl hl.1 rfl (Nat.le_of_ble_eq_true rfl) dX7_odds_8 ⟨Nat.le_refl _, Nat.le_refl _⟩ (fun x5 V6 Hq lq hp7 w => ?_)
    obtain ⟨e9, hz9⟩ := hp7
    rw [e9] at w; clear e9
    rcases hz9 with ⟨rfl, hb8⟩ | ⟨rfl, hb8⟩
    · skip
      have ihb8 := hb8
      obtain ⟨j2, hj2, rfl⟩ := sp_inN (k := 5) (by decide) hb8
      have kj2 : (nI j2).toNatClampNeg = j2 := nI_clamp (by omega)
      have hN_j2 : V (mo + 4 + j2) = some (nE X (σ.1.1.2.2 j2)) := r5 j2 hj2
      have hn_j2 : σ.1.1.2.1 j2 ≤ 16 := (hbR j2 hj2).2.1
      refine lv_if_eq (tgt := 39) C0.1 C0.2.1 dX7_odds_11 (by decide) (fun h9 => absurd h9 (by decide)) (fun _ => ?_)
      exact absurd (And.intro ihb4 ihb8) hno
    · skip
      refine lv_if_eq (tgt := 39) C0.1 C0.2.1 dX7_odds_11 (by decide) (fun _ => ?_) (fun h9 => absurd h9 (by decide))
      refine lv_ldc2 C0.1 C0.2.1 C0.2.2.2.1 (C0.2.2.2.2.1 _ kk_X7_243) dX7_odds_39 ?_
      exact hv_lret C0 w hr hlk (by rw [sp_odds, if_neg (fun h9 => hno ⟨h9.1, h9.2.1⟩)]; exact ⟨rfl, hM, hv_out.rf⟩) dX7_odds_42
  · skip
    refine lv_if_eq (tgt := 39) C0.1 C0.2.1 dX7_odds_4 (by decide) (fun _ => ?_) (fun h9 => absurd h9 (by decide))
    refine lv_ldc2 C0.1 C0.2.1 C0.2.2.2.1 (C0.2.2.2.2.1 _ kk_X7_243) dX7_odds_39 ?_
    exact hv_lret C0 w hr hlk (by rw [sp_odds, if_neg (fun h9 => hno ⟨h9.1, h9.2.1⟩)]; exact ⟨rfl, hM, hv_out.rf⟩) dX7_odds_42

theorem m_X7_odds {l : Launch} {X : hv_X} {V : hv_V} {mo : Nat} {σ : hs_S} (hM : okM X V mo σ) (hB : hs_b σ) {a b k : Int32} : hv_Ml l X 220 yX7_odds cX7_odds 7 V [.ref mo, .int a, .int b, .int k] (fun y V1 => y = sp_odds σ a b k ∧ okM X V1 mo σ ∧ hv_out V V1 mo (mo + 50)) := by
  by_cases h : sp_in a 0 5 ∧ sp_in b 0 5
  · obtain ⟨h1, h3⟩ := h
    obtain ⟨j1, hj1, rfl⟩ := sp_inN (k := 5) (by decide) h1
    obtain ⟨j2, hj2, rfl⟩ := sp_inN (k := 5) (by decide) h3
    exact c_X7_odds hM hB hj1 hj2 h1 h3
  · exact n_X7_odds hM hB h
