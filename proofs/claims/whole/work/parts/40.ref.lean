set_option maxHeartbeats 4000000 in
set_option maxRecDepth 100000 in
theorem c_X7_hasWorth {l : Launch} {X : hv_X} {V : hv_V} {mo : Nat} {ab be : Int64} {tx se ev bk : Nat} {pl cl sg ik : Int32} (hO : V mo = some (mE mo ab be tx pl cl sg se ev bk ik)) {ki ma : Nat → Int32} {rf : Nat → Option Nat} {j n : Nat} {f : Nat → Int32} (r1 : V (mo + 1) = some (iE X 6 ki)) (r2 : V (mo + 2) = some (iE X 6 ma)) (hma : ma j = nI n) (r3 : V (mo + 3) = some (qE X 6 6 rf)) (rj : rf j = some (mo + 4 + j)) (hj : j < 6) (hN : V (mo + 4 + j) = some (nE X f)) (hn : n ≤ 16) (hf : ∀ i, 0 ≤ f i ∧ f i ≤ 1000000000) : hv_Mi l X 130 yX7_hasWorth cX7_hasWorth 2 .boolean V [.ref mo, .int (nI j)] (fun y V1 => ∃ ab1 be1 : Int64, V1 = hv_up V mo (mE mo ab1 be1 tx pl cl sg se ev bk ik) ∧ fm (fx_reckon (ki j) f n) ab1 be1 ∧ hv_B (¬ be1 = 0) y) := by
  refine hv_enter (by decide) (Nat.le_of_ble_eq_true rfl) ?_
  intro p e s m below meth c ls C0 hr hlk hnm w hl
  have hl : lv_has ls 2 [(0, .ref mo), (1, .int (nI j))] := hl
  refine lv_aload_n C0.1 C0.2.1 dX7_hasWorth_0 rfl (lv_at hl 0 rfl) ?_
  refine lv_iload_n C0.1 C0.2.1 dX7_hasWorth_1 rfl (lv_at hl 1 rfl) ?_
  refine lv_aload_n C0.1 C0.2.1 dX7_hasWorth_2 rfl (lv_at hl 0 rfl) ?_
  refine gf_X7_15 C0 w hO rfl dX7_hasWorth_3 ?_
  refine lv_iload_n C0.1 C0.2.1 dX7_hasWorth_6 rfl (lv_at hl 1 rfl) ?_
  refine hv_iald C0 w r2 (hn_in hj (by decide)) dX7_hasWorth_7 ?_
  have hc1 : (nI j).toNatClampNeg = j := nI_clamp (by omega)
  rw [hc1]
  rw [hma]
  refine hv_cVv C0 w kl_X7_154 kv_X7_layWorth rfl hO (c_X7_layWorth (n := n) hO r1 r3 rj hj hN hn hf) (by decide) (by decide) rfl hl.1 rfl (Nat.le_of_ble_eq_true rfl) dX7_hasWorth_8 ⟨Nat.le_refl _, Nat.le_refl _⟩ (fun V3 Hq lq hp4 w => ?_)
  obtain ⟨ab1, be1, e1, fm1⟩ := hp4
  have hV6 : V3 (mo + 2) = some (.inl (X.2.1 0, 6, .inl ma)) := by rw [e1, hv_un (by omega)]; exact r2
  have hV7 : V3 mo = some (.inr (7, [.ref (mo + 1), .ref (mo + 2), .ref (mo + 3), .long ab1, .long be1, .ref (mo + 10), .int (nI tx), .int pl, .int cl, .ref (mo + 11), .ref (mo + 12), .ref (mo + 13), .int sg, .ref (mo + 14), .ref (mo + 15), .ref (mo + 16), .ref (mo + 17), .int (nI se), .ref (mo + 18), .ref (mo + 19), .int (nI ev), .ref (mo + 20), .ref (mo + 21), .ref (mo + 22), .int (nI bk), .int ik, .ref (mo + 23), .ref (mo + 24), .ref (mo + 25), .ref (mo + 26), .ref (mo + 33), .ref (mo + 41), .ref (mo + 42), .ref (mo + 43)])) := by rw [e1]; exact hv_us
  refine lv_aload_n C0.1 C0.2.1 dX7_hasWorth_11 rfl (lv_at hl 0 rfl) ?_
  refine hv_cVi C0 w kl_X7_112 kv_X7_isThere rfl hV7 (c_X7_isThere hV7) (by decide) (by decide) rfl hl.1 rfl (Nat.le_of_ble_eq_true rfl) dX7_hasWorth_12 ⟨Nat.le_refl _, Nat.le_refl _⟩ (fun x8 V9 Hq lq hp10 w => ?_)
  obtain ⟨e9, hz9⟩ := hp10
  rw [e9] at w
  rcases hz9 with ⟨rfl, hz8⟩ | ⟨rfl, hz8⟩
  · exact hv_zret C0 w hr hlk (by decide) (⟨ab1, be1, e1, fm1, Or.inl ⟨rfl, hz8⟩⟩) dX7_hasWorth_15
  · exact hv_zret C0 w hr hlk (by decide) (⟨ab1, be1, e1, fm1, Or.inr ⟨rfl, hz8⟩⟩) dX7_hasWorth_15

def fl_part (ab be : Int64) (k : Int32) : Int64 := if be = 0 then -9223372036854775808 else if k = 0 then ab else be
theorem fm.part {F : fx_F} {ab be : Int64} (h : fm F ab be) (k : Int32) : fl_part ab be k = fx_part F k := by
  unfold fl_part fx_part
  by_cases q : be = 0
  · rw [if_pos q, if_pos (h.no.mp q)]
  · obtain ⟨h1, h2, h3, -⟩ := h.yes q
    rw [if_neg q, if_neg (show ¬ F.2.2 = 0 by rw [h1]; decide), h2, h3]
set_option maxHeartbeats 4000000 in
set_option maxRecDepth 100000 in
theorem c_X7_partOf {l : Launch} {X : hv_X} {V : hv_V} {mo : Nat} {ab be : Int64} {tx se ev bk : Nat} {pl cl sg ik : Int32} (hO : V mo = some (mE mo ab be tx pl cl sg se ev bk ik)) {k : Int32} : hv_Ml l X 1 yX7_partOf cX7_partOf 2 V [.ref mo, .int k] (fun x V1 => V1 = V ∧ x = fl_part ab be k) := by
  refine hv_enter (by decide) (Nat.le_of_ble_eq_true rfl) ?_
  intro p e s m below meth c ls C0 hr hlk hnm w hl
  have hl : lv_has ls 2 [(0, .ref mo), (1, .int k)] := hl
  refine lv_aload_n C0.1 C0.2.1 dX7_partOf_0 rfl (lv_at hl 0 rfl) ?_
  refine hv_cVi C0 w kl_X7_112 kv_X7_isThere rfl hO (c_X7_isThere hO) (by decide) (by decide) rfl hl.1 rfl (Nat.le_of_ble_eq_true rfl) dX7_partOf_1 ⟨Nat.le_refl _, Nat.le_refl _⟩ (fun x1 V2 Hq lq hp3 w => ?_)
  obtain ⟨e9, hz9⟩ := hp3
  rw [e9] at w; clear e9
  rcases hz9 with ⟨rfl, hb4⟩ | ⟨rfl, hb4⟩
  · skip
    refine lv_if_ne (tgt := 13) C0.1 C0.2.1 dX7_partOf_4 (by decide) (fun _ => ?_) (fun h9 => absurd h9 (by decide))
    refine lv_iload_n C0.1 C0.2.1 dX7_partOf_13 rfl (lv_at hl 1 rfl) ?_
    refine lv_if_ne (tgt := 24) C0.1 C0.2.1 dX7_partOf_14 (by decide) (fun c_14 => ?_) (fun c_14 => ?_)
    · skip
      refine lv_aload_n C0.1 C0.2.1 dX7_partOf_24 rfl (lv_at hl 0 rfl) ?_
      refine gf_X7_107 C0 w hO rfl dX7_partOf_25 ?_
      exact hv_lret C0 w hr hlk (⟨rfl, by rw [fl_part, if_neg hb4, if_neg c_14]⟩) dX7_partOf_28
    · skip
      refine lv_aload_n C0.1 C0.2.1 dX7_partOf_17 rfl (lv_at hl 0 rfl) ?_
      refine gf_X7_103 C0 w hO rfl dX7_partOf_18 ?_
      refine lv_goto (tgt := 28) C0.1 C0.2.1 dX7_partOf_21 (by decide) ?_
      exact hv_lret C0 w hr hlk (⟨rfl, by rw [fl_part, if_neg hb4, if_pos c_14]⟩) dX7_partOf_28
  · skip
    refine lv_if_ne (tgt := 13) C0.1 C0.2.1 dX7_partOf_4 (by decide) (fun h9 => absurd h9 (by decide)) (fun _ => ?_)
    refine lv_ldc2 C0.1 C0.2.1 C0.2.2.2.1 (C0.2.2.2.2.1 _ kk_X7_243) dX7_partOf_7 ?_
    refine lv_goto (tgt := 28) C0.1 C0.2.1 dX7_partOf_10 (by decide) ?_
    exact hv_lret C0 w hr hlk (⟨rfl, by rw [fl_part, if_pos (Classical.byContradiction hb4)]⟩) dX7_partOf_28

set_option maxHeartbeats 4000000 in
set_option maxRecDepth 100000 in
theorem m_X7_worth {l : Launch} {X : hv_X} {V : hv_V} {mo : Nat} {σ : hs_S} (hM : okM X V mo σ) (hB : hs_b σ) {r k : Int32} : hv_Ml l X 220 yX7_worth cX7_worth 3 V [.ref mo, .int r, .int k] (fun y V1 => y = sp_worth σ r k ∧ okM X V1 mo σ ∧ hv_out V V1 mo (mo + 50)) := by
  refine hv_enter (by decide) (Nat.le_of_ble_eq_true rfl) ?_
  intro p e s m below meth c ls C0 hr hlk hnm w hl
  have hl : lv_has ls 3 [(0, .ref mo), (1, .int r), (2, .int k)] := hl
  obtain ⟨ab, be, pl, cl, sg, ik, hO, hRw, hTx, hSc, hSe, hEv, hBk, hIm, hTp⟩ := id hM
  obtain ⟨r1, r2, ⟨rf, r3, r4⟩, r5⟩ := id hRw
  obtain ⟨⟨wd, s1⟩, ⟨td, s2⟩, ⟨sn, s3⟩, ⟨ut, s4⟩, kn, s5⟩ := id hSc
  obtain ⟨sf, sg9, sh, e1, e2, e3, ea⟩ := id hSe
  obtain ⟨ef, eg, v1, v2, va⟩ := id hEv
  obtain ⟨bf, bg, b1, b2, ba⟩ := id hBk
  obtain ⟨t1, t2, ⟨tf, t3, t4⟩, t5⟩ := id hTp
  have hbR := hB.1.1
  refine lv_iload_n C0.1 C0.2.1 dX7_worth_0 rfl (lv_at hl 1 rfl) ?_
  refine hv_cSi (As := [.int r]) C0 w kl_X7_135 ks_X7_isRow (c_X7_isRow) (by decide) (by decide) rfl hl.1 rfl (Nat.le_of_ble_eq_true rfl) dX7_worth_1 ⟨Nat.le_refl _, Nat.le_refl _⟩ (fun x1 V2 Hq lq hp3 w => ?_)
  obtain ⟨e9, hz9⟩ := hp3
  rw [e9] at w; clear e9
  rcases hz9 with ⟨rfl, hb4⟩ | ⟨rfl, hb4⟩
  · skip
    have ihb4 := hb4
    obtain ⟨j1, hj1, rfl⟩ := sp_inN (k := 5) (by decide) hb4
    have kj1 : (nI j1).toNatClampNeg = j1 := nI_clamp (by omega)
    have hN_j1 : V (mo + 4 + j1) = some (nE X (σ.1.1.2.2 j1)) := r5 j1 hj1
    have hn_j1 : σ.1.1.2.1 j1 ≤ 16 := (hbR j1 hj1).2.1
    refine lv_if_eq (tgt := 14) C0.1 C0.2.1 dX7_worth_4 (by decide) (fun h9 => absurd h9 (by decide)) (fun _ => ?_)
    refine lv_iload_n C0.1 C0.2.1 dX7_worth_7 rfl (lv_at hl 2 rfl) ?_
    refine hv_cSi (As := [.int k]) C0 w kl_X7_245 ks_X7_isPart (c_X7_isPart) (by decide) (by decide) rfl hl.1 rfl (Nat.le_of_ble_eq_true rfl) dX7_worth_8 ⟨Nat.le_refl _, Nat.le_refl _⟩ (fun x5 V6 Hq lq hp7 w => ?_)
    obtain ⟨e9, hz9⟩ := hp7
    rw [e9] at w; clear e9
    rcases hz9 with ⟨rfl, hb8⟩ | ⟨rfl, hb8⟩
    · skip
      refine lv_if_ne (tgt := 18) C0.1 C0.2.1 dX7_worth_11 (by decide) (fun _ => ?_) (fun h9 => absurd h9 (by decide))
      refine lv_aload_n C0.1 C0.2.1 dX7_worth_18 rfl (lv_at hl 0 rfl) ?_
      refine lv_iload_n C0.1 C0.2.1 dX7_worth_19 rfl (lv_at hl 1 rfl) ?_
      refine lv_aload_n C0.1 C0.2.1 dX7_worth_20 rfl (lv_at hl 0 rfl) ?_
      refine gf_X7_15 C0 w hO rfl dX7_worth_21 ?_
      refine lv_iload_n C0.1 C0.2.1 dX7_worth_24 rfl (lv_at hl 1 rfl) ?_
      refine hv_iald C0 w r2 (hn_in hj1 (by decide)) dX7_worth_25 ?_
      have hc9 : (nI j1).toNatClampNeg = j1 := nI_clamp (by omega)
      rw [hc9]
      refine hv_cVv C0 w kl_X7_154 kv_X7_layWorth rfl hO (c_X7_layWorth (n := (σ.1.1.2.1 j1)) hO r1 r3 (r4 j1 hj1) hj1 hN_j1 (by omega) (fun i9 => (hbR j1 hj1).2.2 i9)) (by decide) (by decide) rfl hl.1 rfl (Nat.le_of_ble_eq_true rfl) dX7_worth_26 ⟨Nat.le_refl _, Nat.le_refl _⟩ (fun V11 Hq lq hp12 w => ?_)
      obtain ⟨ab13, be14, eV15, fm16⟩ := hp12
      have hV18 : V11 (mo + 1) = some (.inl (X.2.1 0, 6, .inl σ.1.1.1)) := by rw [eV15, hv_un (by omega)]; exact r1
      have hV19 : V11 (mo + 2) = some (.inl (X.2.1 0, 6, .inl (fun j => nI (σ.1.1.2.1 j)))) := by rw [eV15, hv_un (by omega)]; exact r2
      have hV20 : V11 (mo + 3) = some (.inl (X.2.1 6, 6, .inr (.inr (.inr (.inr rf))))) := by rw [eV15, hv_un (by omega)]; exact r3
      have hV21 : V11 (mo + 10) = some (.inl (X.2.1 2, 100, .inl σ.2.2.1.2)) := by rw [eV15, hv_un (by omega)]; exact hTx
      have hV22 : V11 (mo + 11) = some (.inl (X.2.1 0, 12, .inl wd)) := by rw [eV15, hv_un (by omega)]; exact s1
      have hV23 : V11 (mo + 12) = some (.inl (X.2.1 0, 48, .inl td)) := by rw [eV15, hv_un (by omega)]; exact s2
      have hV24 : V11 (mo + 13) = some (.inl (X.2.1 2, 178, .inl sn)) := by rw [eV15, hv_un (by omega)]; exact s3
      have hV25 : V11 (mo + 14) = some (.inl (X.2.1 0, 3, .inl ut)) := by rw [eV15, hv_un (by omega)]; exact s4
      have hV26 : V11 (mo + 20) = some (.inl (X.2.1 0, 16, .inl kn)) := by rw [eV15, hv_un (by omega)]; exact s5
      have hV27 : V11 (mo + 15) = some (.inl (X.2.1 0, 4, .inl sf)) := by rw [eV15, hv_un (by omega)]; exact e1
      have hV28 : V11 (mo + 16) = some (.inl (X.2.1 0, 4, .inl sg9)) := by rw [eV15, hv_un (by omega)]; exact e2
      have hV29 : V11 (mo + 17) = some (.inl (X.2.1 0, 4, .inl sh)) := by rw [eV15, hv_un (by omega)]; exact e3
      have hV30 : V11 (mo + 18) = some (.inl (X.2.1 0, 8, .inl ef)) := by rw [eV15, hv_un (by omega)]; exact v1
      have hV31 : V11 (mo + 19) = some (.inl (X.2.1 0, 8, .inl eg)) := by rw [eV15, hv_un (by omega)]; exact v2
      have hV32 : V11 (mo + 21) = some (.inl (X.2.1 0, 8, .inl bf)) := by rw [eV15, hv_un (by omega)]; exact b1
      have hV33 : V11 (mo + 22) = some (.inl (X.2.1 0, 8, .inl bg)) := by rw [eV15, hv_un (by omega)]; exact b2
      have hV34 : V11 (mo + 41) = some (.inl (X.2.1 0, 6, .inl σ.2.2.2.1)) := by rw [eV15, hv_un (by omega)]; exact t1
      have hV35 : V11 (mo + 42) = some (.inl (X.2.1 0, 6, .inl (fun j => nI (σ.2.2.2.2.1 j)))) := by rw [eV15, hv_un (by omega)]; exact t2
      have hV36 : V11 (mo + 43) = some (.inl (X.2.1 7, 6, .inr (.inr (.inr (.inr tf))))) := by rw [eV15, hv_un (by omega)]; exact t3
      have hV37 : V11 (mo + 4 + j1) = some (.inl (X.2.1 0, 16, .inl (σ.1.1.2.2 j1))) := by rw [eV15, hv_un (by omega)]; exact hN_j1
      have hV38 : V11 mo = some (.inr (7, [.ref (mo + 1), .ref (mo + 2), .ref (mo + 3), .long ab13, .long be14, .ref (mo + 10), .int (nI σ.2.2.1.1), .int pl, .int cl, .ref (mo + 11), .ref (mo + 12), .ref (mo + 13), .int sg, .ref (mo + 14), .ref (mo + 15), .ref (mo + 16), .ref (mo + 17), .int (nI σ.1.2.1.1), .ref (mo + 18), .ref (mo + 19), .int (nI σ.1.2.2.1.1), .ref (mo + 20), .ref (mo + 21), .ref (mo + 22), .int (nI σ.1.2.2.2.1), .int ik, .ref (mo + 23), .ref (mo + 24), .ref (mo + 25), .ref (mo + 26), .ref (mo + 33), .ref (mo + 41), .ref (mo + 42), .ref (mo + 43)])) := by rw [eV15]; exact hv_us
      refine lv_aload_n C0.1 C0.2.1 dX7_worth_29 rfl (lv_at hl 0 rfl) ?_
      refine lv_iload_n C0.1 C0.2.1 dX7_worth_30 rfl (lv_at hl 2 rfl) ?_
      refine hv_cVl C0 w kl_X7_248 kv_X7_partOf rfl hV38 (c_X7_partOf hV38) (by decide) (by decide) rfl hl.1 rfl (Nat.le_of_ble_eq_true rfl) dX7_worth_31 ⟨Nat.le_refl _, Nat.le_refl _⟩ (fun x39 V40 Hq lq hp41 w => ?_)
      obtain ⟨e9, e8⟩ := hp41
      rw [e9] at w; rw [e8]; clear e9 e8
      exact hv_lret C0 w hr hlk (by rw [sp_worth, if_pos ⟨ihb4, hb8⟩, kj1]; exact ⟨fm16.part k, ⟨ab13, be14, pl, cl, sg, ik, (by rw [eV15]; exact hv_us), hRw.fr (fun q h7 h8 => by rw [eV15, hv_un (by omega)]), (by rw [eV15, hv_un (by omega)] : _ = V (mo + 10)).trans hTx, hSc.fr (fun q h7 h8 => by rw [eV15, hv_un (by omega)]) (fun q h7 h8 => by rw [eV15, hv_un (by omega)]), hSe.fr (fun q h7 h8 => by rw [eV15, hv_un (by omega)]), hEv.fr (by rw [eV15, hv_un (by omega)]) (by rw [eV15, hv_un (by omega)]), hBk.fr (by rw [eV15, hv_un (by omega)]) (by rw [eV15, hv_un (by omega)]), hIm.fr (fun q h7 h8 => by rw [eV15, hv_un (by omega)]), hTp.fr (fun q h7 h8 => by rw [eV15, hv_un (by omega)])⟩, (fun q h7 => by rw [eV15, hv_un (by omega)])⟩) dX7_worth_34
    · skip
      refine lv_if_ne (tgt := 18) C0.1 C0.2.1 dX7_worth_11 (by decide) (fun h9 => absurd h9 (by decide)) (fun _ => ?_)
      refine lv_ldc2 C0.1 C0.2.1 C0.2.2.2.1 (C0.2.2.2.2.1 _ kk_X7_243) dX7_worth_14 ?_
      exact hv_lret C0 w hr hlk (by rw [sp_worth, if_neg (fun h9 => hb8 h9.2)]; exact ⟨rfl, hM, hv_out.rf⟩) dX7_worth_17
  · skip
    refine lv_if_eq (tgt := 14) C0.1 C0.2.1 dX7_worth_4 (by decide) (fun _ => ?_) (fun h9 => absurd h9 (by decide))
    refine lv_ldc2 C0.1 C0.2.1 C0.2.2.2.1 (C0.2.2.2.2.1 _ kk_X7_243) dX7_worth_14 ?_
    exact hv_lret C0 w hr hlk (by rw [sp_worth, if_neg (fun h9 => hb4 h9.1)]; exact ⟨rfl, hM, hv_out.rf⟩) dX7_worth_17

theorem fx_wt {F G : fx_F} {ab be a b : Int64} (h : fm F ab be) (g : fm G a b) (h1 : ¬ be = 0) (g1 : ¬ b = 0) : sp_wt F G = if ¬ fx_cmp (ab * b) (a * be) ≤ 0 then 1 else if ¬ 0 ≤ fx_cmp (ab * b) (a * be) then 2 else 0 := by
  obtain ⟨p1, p2, p3, -⟩ := h.yes h1
  obtain ⟨q1, q2, q3, -⟩ := g.yes g1
  have n1 : ¬ F.2.2 = 0 := by rw [p1]; decide
  have n2 : ¬ G.2.2 = 0 := by rw [q1]; decide
  unfold sp_wt fx_cmp
  rw [if_neg (fun h9 => h9.elim n1 n2), p2, p3, q2, q3]
  by_cases c1 : F.1 * G.2.1 < G.1 * F.2.1
  · have c2 : ¬ fx_above F G := fun h9 => absurd c1 (Int64.not_lt.mpr (Int64.le_of_lt h9.2.2))
    have c3 : fx_above G F := ⟨n2, n1, c1⟩
    rw [if_neg c2, if_pos c3, if_pos c1, if_neg (by decide), if_pos (by decide)]
  · have c3 : ¬ fx_above G F := fun h9 => c1 h9.2.2
    rw [if_neg c3, if_neg c1]
    by_cases c4 : F.1 * G.2.1 = G.1 * F.2.1
    · have c2 : ¬ fx_above F G := fun h9 => by have := h9.2.2; rw [c4] at this; exact Int64.lt_irrefl this
      rw [if_neg c2, if_pos c4, if_neg (by decide), if_neg (by decide)]
    · have c2 : fx_above F G := ⟨n1, n2, Int64.lt_of_le_of_ne (Int64.not_lt.mp c1) (fun e => c4 e.symm)⟩
      rw [if_pos c2, if_neg c4, if_pos (by decide)]
set_option maxHeartbeats 4000000 in
set_option maxRecDepth 100000 in
theorem m_X7_worthier {l : Launch} {X : hv_X} {V : hv_V} {mo : Nat} {σ : hs_S} (hM : okM X V mo σ) (hB : hs_b σ) {r f : Int32} : hv_Mi l X 220 yX7_worthier cX7_worthier 8 .int V [.ref mo, .int r, .int f] (fun y V1 => y = sp_worthier σ r f ∧ okM X V1 mo σ ∧ hv_out V V1 mo (mo + 50)) := by
  refine hv_enter (by decide) (Nat.le_of_ble_eq_true rfl) ?_
  intro p e s m below meth c ls C0 hr hlk hnm w hl
  have hl : lv_has ls 8 [(0, .ref mo), (1, .int r), (2, .int f)] := hl
  obtain ⟨ab, be, pl, cl, sg, ik, hO, hRw, hTx, hSc, hSe, hEv, hBk, hIm, hTp⟩ := id hM
  obtain ⟨r1, r2, ⟨rf, r3, r4⟩, r5⟩ := id hRw
  obtain ⟨⟨wd, s1⟩, ⟨td, s2⟩, ⟨sn, s3⟩, ⟨ut, s4⟩, kn, s5⟩ := id hSc
  obtain ⟨sf, sg9, sh, e1, e2, e3, ea⟩ := id hSe
  obtain ⟨ef, eg, v1, v2, va⟩ := id hEv
  obtain ⟨bf, bg, b1, b2, ba⟩ := id hBk
  obtain ⟨t1, t2, ⟨tf, t3, t4⟩, t5⟩ := id hTp
  have hbR := hB.1.1
  refine lv_iload_n C0.1 C0.2.1 dX7_worthier_0 rfl (lv_at hl 1 rfl) ?_
  refine hv_cSi (As := [.int r]) C0 w kl_X7_135 ks_X7_isRow (c_X7_isRow) (by decide) (by decide) rfl hl.1 rfl (Nat.le_of_ble_eq_true rfl) dX7_worthier_1 ⟨Nat.le_refl _, Nat.le_refl _⟩ (fun x1 V2 Hq lq hp3 w => ?_)
  obtain ⟨e9, hz9⟩ := hp3
  rw [e9] at w; clear e9
  rcases hz9 with ⟨rfl, hb4⟩ | ⟨rfl, hb4⟩
  · skip
    have ihb4 := hb4
    obtain ⟨j1, hj1, rfl⟩ := sp_inN (k := 5) (by decide) hb4
    have kj1 : (nI j1).toNatClampNeg = j1 := nI_clamp (by omega)
    have hN_j1 : V (mo + 4 + j1) = some (nE X (σ.1.1.2.2 j1)) := r5 j1 hj1
    have hn_j1 : σ.1.1.2.1 j1 ≤ 16 := (hbR j1 hj1).2.1
    refine lv_if_eq (tgt := 14) C0.1 C0.2.1 dX7_worthier_4 (by decide) (fun h9 => absurd h9 (by decide)) (fun _ => ?_)
    refine lv_iload_n C0.1 C0.2.1 dX7_worthier_7 rfl (lv_at hl 2 rfl) ?_
    refine hv_cSi (As := [.int f]) C0 w kl_X7_135 ks_X7_isRow (c_X7_isRow) (by decide) (by decide) rfl hl.1 rfl (Nat.le_of_ble_eq_true rfl) dX7_worthier_8 ⟨Nat.le_refl _, Nat.le_refl _⟩ (fun x5 V6 Hq lq hp7 w => ?_)
    obtain ⟨e9, hz9⟩ := hp7
    rw [e9] at w; clear e9
    rcases hz9 with ⟨rfl, hb8⟩ | ⟨rfl, hb8⟩
    · skip
      have ihb8 := hb8
      obtain ⟨j2, hj2, rfl⟩ := sp_inN (k := 5) (by decide) hb8
      have kj2 : (nI j2).toNatClampNeg = j2 := nI_clamp (by omega)
      have hN_j2 : V (mo + 4 + j2) = some (nE X (σ.1.1.2.2 j2)) := r5 j2 hj2
      have hn_j2 : σ.1.1.2.1 j2 ≤ 16 := (hbR j2 hj2).2.1
      refine lv_if_ne (tgt := 16) C0.1 C0.2.1 dX7_worthier_11 (by decide) (fun _ => ?_) (fun h9 => absurd h9 (by decide))
      refine lv_aload_n C0.1 C0.2.1 dX7_worthier_16 rfl (lv_at hl 0 rfl) ?_
      refine lv_iload_n C0.1 C0.2.1 dX7_worthier_17 rfl (lv_at hl 2 rfl) ?_
      refine lv_aload_n C0.1 C0.2.1 dX7_worthier_18 rfl (lv_at hl 0 rfl) ?_
      refine gf_X7_15 C0 w hO rfl dX7_worthier_19 ?_
      refine lv_iload_n C0.1 C0.2.1 dX7_worthier_22 rfl (lv_at hl 2 rfl) ?_
      refine hv_iald C0 w r2 (hn_in hj2 (by decide)) dX7_worthier_23 ?_
      have hc9 : (nI j2).toNatClampNeg = j2 := nI_clamp (by omega)
      rw [hc9]
      refine hv_cVv C0 w kl_X7_154 kv_X7_layWorth rfl hO (c_X7_layWorth (n := (σ.1.1.2.1 j2)) hO r1 r3 (r4 j2 hj2) hj2 hN_j2 (by omega) (fun i9 => (hbR j2 hj2).2.2 i9)) (by decide) (by decide) rfl hl.1 rfl (Nat.le_of_ble_eq_true rfl) dX7_worthier_24 ⟨Nat.le_refl _, Nat.le_refl _⟩ (fun V11 Hq lq hp12 w => ?_)
      obtain ⟨ab13, be14, eV15, fm16⟩ := hp12
      have hV18 : V11 (mo + 1) = some (.inl (X.2.1 0, 6, .inl σ.1.1.1)) := by rw [eV15, hv_un (by omega)]; exact r1
      have hV19 : V11 (mo + 2) = some (.inl (X.2.1 0, 6, .inl (fun j => nI (σ.1.1.2.1 j)))) := by rw [eV15, hv_un (by omega)]; exact r2
      have hV20 : V11 (mo + 3) = some (.inl (X.2.1 6, 6, .inr (.inr (.inr (.inr rf))))) := by rw [eV15, hv_un (by omega)]; exact r3
      have hV21 : V11 (mo + 10) = some (.inl (X.2.1 2, 100, .inl σ.2.2.1.2)) := by rw [eV15, hv_un (by omega)]; exact hTx
      have hV22 : V11 (mo + 11) = some (.inl (X.2.1 0, 12, .inl wd)) := by rw [eV15, hv_un (by omega)]; exact s1
      have hV23 : V11 (mo + 12) = some (.inl (X.2.1 0, 48, .inl td)) := by rw [eV15, hv_un (by omega)]; exact s2
      have hV24 : V11 (mo + 13) = some (.inl (X.2.1 2, 178, .inl sn)) := by rw [eV15, hv_un (by omega)]; exact s3
      have hV25 : V11 (mo + 14) = some (.inl (X.2.1 0, 3, .inl ut)) := by rw [eV15, hv_un (by omega)]; exact s4
      have hV26 : V11 (mo + 20) = some (.inl (X.2.1 0, 16, .inl kn)) := by rw [eV15, hv_un (by omega)]; exact s5
      have hV27 : V11 (mo + 15) = some (.inl (X.2.1 0, 4, .inl sf)) := by rw [eV15, hv_un (by omega)]; exact e1
      have hV28 : V11 (mo + 16) = some (.inl (X.2.1 0, 4, .inl sg9)) := by rw [eV15, hv_un (by omega)]; exact e2
      have hV29 : V11 (mo + 17) = some (.inl (X.2.1 0, 4, .inl sh)) := by rw [eV15, hv_un (by omega)]; exact e3
      have hV30 : V11 (mo + 18) = some (.inl (X.2.1 0, 8, .inl ef)) := by rw [eV15, hv_un (by omega)]; exact v1
      have hV31 : V11 (mo + 19) = some (.inl (X.2.1 0, 8, .inl eg)) := by rw [eV15, hv_un (by omega)]; exact v2
      have hV32 : V11 (mo + 21) = some (.inl (X.2.1 0, 8, .inl bf)) := by rw [eV15, hv_un (by omega)]; exact b1
      have hV33 : V11 (mo + 22) = some (.inl (X.2.1 0, 8, .inl bg)) := by rw [eV15, hv_un (by omega)]; exact b2
      have hV34 : V11 (mo + 41) = some (.inl (X.2.1 0, 6, .inl σ.2.2.2.1)) := by rw [eV15, hv_un (by omega)]; exact t1
      have hV35 : V11 (mo + 42) = some (.inl (X.2.1 0, 6, .inl (fun j => nI (σ.2.2.2.2.1 j)))) := by rw [eV15, hv_un (by omega)]; exact t2
      have hV36 : V11 (mo + 43) = some (.inl (X.2.1 7, 6, .inr (.inr (.inr (.inr tf))))) := by rw [eV15, hv_un (by omega)]; exact t3
      have hV37 : V11 (mo + 4 + j1) = some (.inl (X.2.1 0, 16, .inl (σ.1.1.2.2 j1))) := by rw [eV15, hv_un (by omega)]; exact hN_j1
      have hV38 : V11 (mo + 4 + j2) = some (.inl (X.2.1 0, 16, .inl (σ.1.1.2.2 j2))) := by rw [eV15, hv_un (by omega)]; exact hN_j2
      have hV39 : V11 mo = some (.inr (7, [.ref (mo + 1), .ref (mo + 2), .ref (mo + 3), .long ab13, .long be14, .ref (mo + 10), .int (nI σ.2.2.1.1), .int pl, .int cl, .ref (mo + 11), .ref (mo + 12), .ref (mo + 13), .int sg, .ref (mo + 14), .ref (mo + 15), .ref (mo + 16), .ref (mo + 17), .int (nI σ.1.2.1.1), .ref (mo + 18), .ref (mo + 19), .int (nI σ.1.2.2.1.1), .ref (mo + 20), .ref (mo + 21), .ref (mo + 22), .int (nI σ.1.2.2.2.1), .int ik, .ref (mo + 23), .ref (mo + 24), .ref (mo + 25), .ref (mo + 26), .ref (mo + 33), .ref (mo + 41), .ref (mo + 42), .ref (mo + 43)])) := by rw [eV15]; exact hv_us
      refine lv_aload_n C0.1 C0.2.1 dX7_worthier_27 rfl (lv_at hl 0 rfl) ?_
      refine gf_X7_103 C0 w hV39 rfl dX7_worthier_28 ?_
      refine lv_lstore_n (lv' := [(3, .long ab13), (0, .ref mo), (1, .int (nI j1)), (2, .int (nI j2))]) C0.1 C0.2.1 dX7_worthier_31 rfl hl (by decide) rfl (fun ls hl => ?_)
      refine lv_aload_n C0.1 C0.2.1 dX7_worthier_32 rfl (lv_at hl 1 rfl) ?_
      refine gf_X7_107 C0 w hV39 rfl dX7_worthier_33 ?_
      refine lv_lstore (lv' := [(5, .long be14), (3, .long ab13), (0, .ref mo), (1, .int (nI j1)), (2, .int (nI j2))]) C0.1 C0.2.1 dX7_worthier_36 hl (by decide) rfl (fun ls hl => ?_)
      refine lv_lload C0.1 C0.2.1 dX7_worthier_38 (lv_at hl 0 rfl) ?_
      refine lv_lconst (v := 0) C0.1 C0.2.1 dX7_worthier_40 (by decide) ?_
      refine hv_lc_eq (tgt := 53) C0.1 C0.2.1 dX7_worthier_41 dX7_worthier_42 (by decide) (fun c_41 => ?_) (fun c_41 => ?_)
      · skip
        refine lv_bipush (v := -3) C0.1 C0.2.1 dX7_worthier_53 (by decide) ?_
        exact hv_iret C0 w hr hlk (by rw [sp_worthier, if_pos ⟨ihb4, ihb8⟩, kj1, kj2, sp_wt, if_pos (Or.inr (fm16.no.mp c_41))]; exact ⟨rfl, ⟨ab13, be14, pl, cl, sg, ik, (by rw [eV15]; exact hv_us), hRw.fr (fun q h7 h8 => by rw [eV15, hv_un (by omega)]), (by rw [eV15, hv_un (by omega)] : _ = V (mo + 10)).trans hTx, hSc.fr (fun q h7 h8 => by rw [eV15, hv_un (by omega)]) (fun q h7 h8 => by rw [eV15, hv_un (by omega)]), hSe.fr (fun q h7 h8 => by rw [eV15, hv_un (by omega)]), hEv.fr (by rw [eV15, hv_un (by omega)]) (by rw [eV15, hv_un (by omega)]), hBk.fr (by rw [eV15, hv_un (by omega)]) (by rw [eV15, hv_un (by omega)]), hIm.fr (fun q h7 h8 => by rw [eV15, hv_un (by omega)]), hTp.fr (fun q h7 h8 => by rw [eV15, hv_un (by omega)])⟩, (fun q h7 => by rw [eV15, hv_un (by omega)])⟩) dX7_worthier_55
      · skip
        refine lv_aload_n C0.1 C0.2.1 dX7_worthier_45 rfl (lv_at hl 2 rfl) ?_
        refine lv_iload_n C0.1 C0.2.1 dX7_worthier_46 rfl (lv_at hl 3 rfl) ?_
        refine hv_cVi C0 w kl_X7_240 kv_X7_hasWorth rfl hV39 (c_X7_hasWorth (n := σ.1.1.2.1 j1) hV39 hV18 hV19 rfl hV20 (r4 j1 hj1) hj1 hV37 (by omega) (fun i9 => (hbR j1 hj1).2.2 i9)) (by decide) (by decide) rfl hl.1 rfl (Nat.le_of_ble_eq_true rfl) dX7_worthier_47 ⟨Nat.le_refl _, Nat.le_refl _⟩ (fun x40 V41 Hq lq hp42 w => ?_)
        obtain ⟨ab43, be44, eV45, fm46, hz9⟩ := hp42
        have hV48 : V41 (mo + 1) = some (.inl (X.2.1 0, 6, .inl σ.1.1.1)) := by rw [eV45, hv_un (by omega)]; exact hV18
        have hV49 : V41 (mo + 2) = some (.inl (X.2.1 0, 6, .inl (fun j => nI (σ.1.1.2.1 j)))) := by rw [eV45, hv_un (by omega)]; exact hV19
        have hV50 : V41 (mo + 3) = some (.inl (X.2.1 6, 6, .inr (.inr (.inr (.inr rf))))) := by rw [eV45, hv_un (by omega)]; exact hV20
        have hV51 : V41 (mo + 10) = some (.inl (X.2.1 2, 100, .inl σ.2.2.1.2)) := by rw [eV45, hv_un (by omega)]; exact hV21
        have hV52 : V41 (mo + 11) = some (.inl (X.2.1 0, 12, .inl wd)) := by rw [eV45, hv_un (by omega)]; exact hV22
        have hV53 : V41 (mo + 12) = some (.inl (X.2.1 0, 48, .inl td)) := by rw [eV45, hv_un (by omega)]; exact hV23
        have hV54 : V41 (mo + 13) = some (.inl (X.2.1 2, 178, .inl sn)) := by rw [eV45, hv_un (by omega)]; exact hV24
        have hV55 : V41 (mo + 14) = some (.inl (X.2.1 0, 3, .inl ut)) := by rw [eV45, hv_un (by omega)]; exact hV25
        have hV56 : V41 (mo + 20) = some (.inl (X.2.1 0, 16, .inl kn)) := by rw [eV45, hv_un (by omega)]; exact hV26
        have hV57 : V41 (mo + 15) = some (.inl (X.2.1 0, 4, .inl sf)) := by rw [eV45, hv_un (by omega)]; exact hV27
        have hV58 : V41 (mo + 16) = some (.inl (X.2.1 0, 4, .inl sg9)) := by rw [eV45, hv_un (by omega)]; exact hV28
        have hV59 : V41 (mo + 17) = some (.inl (X.2.1 0, 4, .inl sh)) := by rw [eV45, hv_un (by omega)]; exact hV29
        have hV60 : V41 (mo + 18) = some (.inl (X.2.1 0, 8, .inl ef)) := by rw [eV45, hv_un (by omega)]; exact hV30
        have hV61 : V41 (mo + 19) = some (.inl (X.2.1 0, 8, .inl eg)) := by rw [eV45, hv_un (by omega)]; exact hV31
        have hV62 : V41 (mo + 21) = some (.inl (X.2.1 0, 8, .inl bf)) := by rw [eV45, hv_un (by omega)]; exact hV32
        have hV63 : V41 (mo + 22) = some (.inl (X.2.1 0, 8, .inl bg)) := by rw [eV45, hv_un (by omega)]; exact hV33
        have hV64 : V41 (mo + 41) = some (.inl (X.2.1 0, 6, .inl σ.2.2.2.1)) := by rw [eV45, hv_un (by omega)]; exact hV34
        have hV65 : V41 (mo + 42) = some (.inl (X.2.1 0, 6, .inl (fun j => nI (σ.2.2.2.2.1 j)))) := by rw [eV45, hv_un (by omega)]; exact hV35
        have hV66 : V41 (mo + 43) = some (.inl (X.2.1 7, 6, .inr (.inr (.inr (.inr tf))))) := by rw [eV45, hv_un (by omega)]; exact hV36
        have hV67 : V41 (mo + 4 + j1) = some (.inl (X.2.1 0, 16, .inl (σ.1.1.2.2 j1))) := by rw [eV45, hv_un (by omega)]; exact hV37
        have hV68 : V41 (mo + 4 + j2) = some (.inl (X.2.1 0, 16, .inl (σ.1.1.2.2 j2))) := by rw [eV45, hv_un (by omega)]; exact hV38
        have hV70 : V41 mo = some (.inr (7, [.ref (mo + 1), .ref (mo + 2), .ref (mo + 3), .long ab43, .long be44, .ref (mo + 10), .int (nI σ.2.2.1.1), .int pl, .int cl, .ref (mo + 11), .ref (mo + 12), .ref (mo + 13), .int sg, .ref (mo + 14), .ref (mo + 15), .ref (mo + 16), .ref (mo + 17), .int (nI σ.1.2.1.1), .ref (mo + 18), .ref (mo + 19), .int (nI σ.1.2.2.1.1), .ref (mo + 20), .ref (mo + 21), .ref (mo + 22), .int (nI σ.1.2.2.2.1), .int ik, .ref (mo + 23), .ref (mo + 24), .ref (mo + 25), .ref (mo + 26), .ref (mo + 33), .ref (mo + 41), .ref (mo + 42), .ref (mo + 43)])) := by rw [eV45]; exact hv_us
        rcases hz9 with ⟨rfl, hw47⟩ | ⟨rfl, hw47⟩
        · skip
          refine lv_if_ne (tgt := 56) C0.1 C0.2.1 dX7_worthier_50 (by decide) (fun _ => ?_) (fun h9 => absurd h9 (by decide))
          refine lv_aload_n C0.1 C0.2.1 dX7_worthier_56 rfl (lv_at hl 2 rfl) ?_
          refine lv_lload_n C0.1 C0.2.1 dX7_worthier_57 rfl (lv_at hl 1 rfl) ?_
          refine lv_lload C0.1 C0.2.1 dX7_worthier_58 (lv_at hl 0 rfl) ?_
          refine hv_cVi C0 w kl_X7_268 kv_X7_against rfl hV70 (c_X7_against hV70) (by decide) (by decide) rfl hl.1 rfl (Nat.le_of_ble_eq_true rfl) dX7_worthier_60 ⟨Nat.le_refl _, Nat.le_refl _⟩ (fun x71 V72 Hq lq hp73 w => ?_)
          obtain ⟨e9, e8⟩ := hp73
          rw [e9] at w; rw [e8]; clear e9 e8
          refine lv_istore (lv' := [(7, .int (fx_cmp (ab43 * be14) (ab13 * be44))), (5, .long be14), (3, .long ab13), (0, .ref mo), (1, .int (nI j1)), (2, .int (nI j2))]) C0.1 C0.2.1 dX7_worthier_63 hl (by decide) rfl (fun ls hl => ?_)
          refine lv_iload C0.1 C0.2.1 dX7_worthier_65 (lv_at hl 0 rfl) ?_
          refine lv_if_le (tgt := 74) C0.1 C0.2.1 dX7_worthier_67 (by decide) (fun c_67 => ?_) (fun c_67 => ?_)
          · skip
            refine lv_iload C0.1 C0.2.1 dX7_worthier_74 (lv_at hl 0 rfl) ?_
            refine lv_if_ge (tgt := 83) C0.1 C0.2.1 dX7_worthier_76 (by decide) (fun c_76 => ?_) (fun c_76 => ?_)
            · skip
              refine lv_iconst (v := 0) C0.1 C0.2.1 dX7_worthier_83 (by decide) ?_
              exact hv_iret C0 w hr hlk (by rw [sp_worthier, if_pos ⟨ihb4, ihb8⟩, kj1, kj2, fx_wt fm46 fm16 hw47 c_41, if_neg (fun h9 => h9 c_67), if_neg (fun h9 => h9 c_76)]; exact ⟨rfl, ⟨ab43, be44, pl, cl, sg, ik, (by rw [eV45]; exact hv_us), hRw.fr (fun q h7 h8 => by rw [eV45, hv_un (by omega), eV15, hv_un (by omega)]), (by rw [eV45, hv_un (by omega), eV15, hv_un (by omega)] : _ = V (mo + 10)).trans hTx, hSc.fr (fun q h7 h8 => by rw [eV45, hv_un (by omega), eV15, hv_un (by omega)]) (fun q h7 h8 => by rw [eV45, hv_un (by omega), eV15, hv_un (by omega)]), hSe.fr (fun q h7 h8 => by rw [eV45, hv_un (by omega), eV15, hv_un (by omega)]), hEv.fr (by rw [eV45, hv_un (by omega), eV15, hv_un (by omega)]) (by rw [eV45, hv_un (by omega), eV15, hv_un (by omega)]), hBk.fr (by rw [eV45, hv_un (by omega), eV15, hv_un (by omega)]) (by rw [eV45, hv_un (by omega), eV15, hv_un (by omega)]), hIm.fr (fun q h7 h8 => by rw [eV45, hv_un (by omega), eV15, hv_un (by omega)]), hTp.fr (fun q h7 h8 => by rw [eV45, hv_un (by omega), eV15, hv_un (by omega)])⟩, (fun q h7 => by rw [eV45, hv_un (by omega), eV15, hv_un (by omega)])⟩) dX7_worthier_84
            · skip
              refine lv_iconst (v := 2) C0.1 C0.2.1 dX7_worthier_79 (by decide) ?_
              refine lv_goto (tgt := 84) C0.1 C0.2.1 dX7_worthier_80 (by decide) ?_
              exact hv_iret C0 w hr hlk (by rw [sp_worthier, if_pos ⟨ihb4, ihb8⟩, kj1, kj2, fx_wt fm46 fm16 hw47 c_41, if_neg (fun h9 => h9 c_67), if_pos c_76]; exact ⟨rfl, ⟨ab43, be44, pl, cl, sg, ik, (by rw [eV45]; exact hv_us), hRw.fr (fun q h7 h8 => by rw [eV45, hv_un (by omega), eV15, hv_un (by omega)]), (by rw [eV45, hv_un (by omega), eV15, hv_un (by omega)] : _ = V (mo + 10)).trans hTx, hSc.fr (fun q h7 h8 => by rw [eV45, hv_un (by omega), eV15, hv_un (by omega)]) (fun q h7 h8 => by rw [eV45, hv_un (by omega), eV15, hv_un (by omega)]), hSe.fr (fun q h7 h8 => by rw [eV45, hv_un (by omega), eV15, hv_un (by omega)]), hEv.fr (by rw [eV45, hv_un (by omega), eV15, hv_un (by omega)]) (by rw [eV45, hv_un (by omega), eV15, hv_un (by omega)]), hBk.fr (by rw [eV45, hv_un (by omega), eV15, hv_un (by omega)]) (by rw [eV45, hv_un (by omega), eV15, hv_un (by omega)]), hIm.fr (fun q h7 h8 => by rw [eV45, hv_un (by omega), eV15, hv_un (by omega)]), hTp.fr (fun q h7 h8 => by rw [eV45, hv_un (by omega), eV15, hv_un (by omega)])⟩, (fun q h7 => by rw [eV45, hv_un (by omega), eV15, hv_un (by omega)])⟩) dX7_worthier_84
          · skip
            refine lv_iconst (v := 1) C0.1 C0.2.1 dX7_worthier_70 (by decide) ?_
            refine lv_goto (tgt := 84) C0.1 C0.2.1 dX7_worthier_71 (by decide) ?_
            exact hv_iret C0 w hr hlk (by rw [sp_worthier, if_pos ⟨ihb4, ihb8⟩, kj1, kj2, fx_wt fm46 fm16 hw47 c_41, if_pos c_67]; exact ⟨rfl, ⟨ab43, be44, pl, cl, sg, ik, (by rw [eV45]; exact hv_us), hRw.fr (fun q h7 h8 => by rw [eV45, hv_un (by omega), eV15, hv_un (by omega)]), (by rw [eV45, hv_un (by omega), eV15, hv_un (by omega)] : _ = V (mo + 10)).trans hTx, hSc.fr (fun q h7 h8 => by rw [eV45, hv_un (by omega), eV15, hv_un (by omega)]) (fun q h7 h8 => by rw [eV45, hv_un (by omega), eV15, hv_un (by omega)]), hSe.fr (fun q h7 h8 => by rw [eV45, hv_un (by omega), eV15, hv_un (by omega)]), hEv.fr (by rw [eV45, hv_un (by omega), eV15, hv_un (by omega)]) (by rw [eV45, hv_un (by omega), eV15, hv_un (by omega)]), hBk.fr (by rw [eV45, hv_un (by omega), eV15, hv_un (by omega)]) (by rw [eV45, hv_un (by omega), eV15, hv_un (by omega)]), hIm.fr (fun q h7 h8 => by rw [eV45, hv_un (by omega), eV15, hv_un (by omega)]), hTp.fr (fun q h7 h8 => by rw [eV45, hv_un (by omega), eV15, hv_un (by omega)])⟩, (fun q h7 => by rw [eV45, hv_un (by omega), eV15, hv_un (by omega)])⟩) dX7_worthier_84
        · skip
          refine lv_if_ne (tgt := 56) C0.1 C0.2.1 dX7_worthier_50 (by decide) (fun h9 => absurd h9 (by decide)) (fun _ => ?_)
          refine lv_bipush (v := -3) C0.1 C0.2.1 dX7_worthier_53 (by decide) ?_
          exact hv_iret C0 w hr hlk (by rw [sp_worthier, if_pos ⟨ihb4, ihb8⟩, kj1, kj2, sp_wt, if_pos (Or.inl (fm46.no.mp (Classical.byContradiction hw47)))]; exact ⟨rfl, ⟨ab43, be44, pl, cl, sg, ik, (by rw [eV45]; exact hv_us), hRw.fr (fun q h7 h8 => by rw [eV45, hv_un (by omega), eV15, hv_un (by omega)]), (by rw [eV45, hv_un (by omega), eV15, hv_un (by omega)] : _ = V (mo + 10)).trans hTx, hSc.fr (fun q h7 h8 => by rw [eV45, hv_un (by omega), eV15, hv_un (by omega)]) (fun q h7 h8 => by rw [eV45, hv_un (by omega), eV15, hv_un (by omega)]), hSe.fr (fun q h7 h8 => by rw [eV45, hv_un (by omega), eV15, hv_un (by omega)]), hEv.fr (by rw [eV45, hv_un (by omega), eV15, hv_un (by omega)]) (by rw [eV45, hv_un (by omega), eV15, hv_un (by omega)]), hBk.fr (by rw [eV45, hv_un (by omega), eV15, hv_un (by omega)]) (by rw [eV45, hv_un (by omega), eV15, hv_un (by omega)]), hIm.fr (fun q h7 h8 => by rw [eV45, hv_un (by omega), eV15, hv_un (by omega)]), hTp.fr (fun q h7 h8 => by rw [eV45, hv_un (by omega), eV15, hv_un (by omega)])⟩, (fun q h7 => by rw [eV45, hv_un (by omega), eV15, hv_un (by omega)])⟩) dX7_worthier_55
    · skip
      refine lv_if_ne (tgt := 16) C0.1 C0.2.1 dX7_worthier_11 (by decide) (fun h9 => absurd h9 (by decide)) (fun _ => ?_)
      refine lv_iconst (v := -1) C0.1 C0.2.1 dX7_worthier_14 (by decide) ?_
      exact hv_iret C0 w hr hlk (by rw [sp_worthier, if_neg (fun h9 => hb8 h9.2)]; exact ⟨rfl, hM, hv_out.rf⟩) dX7_worthier_15
  · skip
    refine lv_if_eq (tgt := 14) C0.1 C0.2.1 dX7_worthier_4 (by decide) (fun _ => ?_) (fun h9 => absurd h9 (by decide))
    refine lv_iconst (v := -1) C0.1 C0.2.1 dX7_worthier_14 (by decide) ?_
    exact hv_iret C0 w hr hlk (by rw [sp_worthier, if_neg (fun h9 => hb4 h9.1)]; exact ⟨rfl, hM, hv_out.rf⟩) dX7_worthier_15

