theorem hs_uid (f : Nat → Int32) (j : Nat) : upd f j (f j) = f := hs_id
theorem hs_uself (f : Nat → Int32) (j : Nat) (v : Int32) : upd f j v j = v := if_pos rfl
theorem om_rows.set {X : hv_X} {V V1 : hv_V} {m : Nat} {R : hs_R} (h : om_rows X V m R) {j : Nat} (hj : j < 6) {kd : Int32} {n : Nat} {f : Nat → Int32} (h1 : V1 (m + 1) = some (iE X 6 (upd R.1 j kd))) (h2 : V1 (m + 2) = some (iE X 6 (upd (fun i => nI (R.2.1 i)) j (nI n)))) (h3 : V1 (m + 4 + j) = some (nE X f)) (b3 : V1 (m + 3) = V (m + 3)) (bo : ∀ i, i < 6 → i ≠ j → V1 (m + 4 + i) = V (m + 4 + i)) : om_rows X V1 m (hs_up R.1 j kd, hs_up R.2.1 j n, hs_up R.2.2 j f) := by
  obtain ⟨-, -, ⟨rf, g3, g4⟩, g5⟩ := h
  refine ⟨h1, by rw [h2, hs_nIup], ⟨rf, b3.trans g3, g4⟩, fun i hi => ?_⟩
  show V1 (m + 4 + i) = some (nE X (hs_up R.2.2 j f i))
  by_cases q : i = j
  · subst q; rw [hs_us]; exact h3
  · rw [hs_un q]; exact (bo i hi q).trans (g5 i hi)
theorem om_tapes.set {X : hv_X} {V V1 : hv_V} {m : Nat} {T : hs_T} (h : om_tapes X V m T) {j : Nat} (hj : j < 6) {so : Int32} {n : Nat} {f : Nat → Int64} (h1 : V1 (m + 41) = some (iE X 6 (upd T.1 j so))) (h2 : V1 (m + 42) = some (iE X 6 (upd (fun i => nI (T.2.1 i)) j (nI n)))) (h3 : V1 (m + 44 + j) = some (jE X f)) (b3 : V1 (m + 43) = V (m + 43)) (bo : ∀ i, i < 6 → i ≠ j → V1 (m + 44 + i) = V (m + 44 + i)) : om_tapes X V1 m (hs_tape T j so n f) := by
  obtain ⟨-, -, ⟨rf, g3, g4⟩, g5⟩ := h
  refine ⟨h1, by rw [h2, hs_nIup]; rfl, ⟨rf, b3.trans g3, g4⟩, fun i hi => ?_⟩
  show V1 (m + 44 + i) = some (jE X (hs_up T.2.2 j f i))
  by_cases q : i = j
  · subst q; rw [hs_us]; exact h3
  · rw [hs_un q]; exact (bo i hi q).trans (g5 i hi)
set_option maxHeartbeats 4000000 in
set_option maxRecDepth 100000 in
theorem m_X7_begin {l : Launch} {X : hv_X} {V : hv_V} {mo : Nat} {σ : hs_S} (hM : okM X V mo σ) (hB : hs_b σ) {r k : Int32} : hv_Mi l X 220 yX7_begin cX7_begin 4 .int V [.ref mo, .int r, .int k] (fun y V1 => y = (sp_begin σ r k).1 ∧ okM X V1 mo (sp_begin σ r k).2 ∧ hv_out V V1 mo (mo + 50)) := by
  refine hv_enter (by decide) (Nat.le_of_ble_eq_true rfl) ?_
  intro p e s m below meth c ls C0 hr hlk hnm w hl
  have hl : lv_has ls 4 [(0, .ref mo), (1, .int r), (2, .int k)] := hl
  obtain ⟨ab, be, pl, cl, sg, ik, hO, hRw, hTx, hSc, hSe, hEv, hBk, hIm, hTp⟩ := id hM
  obtain ⟨r1, r2, ⟨rf, r3, r4⟩, r5⟩ := id hRw
  obtain ⟨⟨wd, s1⟩, ⟨td, s2⟩, ⟨sn, s3⟩, ⟨ut, s4⟩, kn, s5⟩ := id hSc
  obtain ⟨sf, sg9, sh, e1, e2, e3, ea⟩ := id hSe
  obtain ⟨ef, eg, v1, v2, va⟩ := id hEv
  obtain ⟨bf, bg, b1, b2, ba⟩ := id hBk
  obtain ⟨t1, t2, ⟨tf, t3, t4⟩, t5⟩ := id hTp
  have hbR := hB.1.1
  refine lv_iload_n C0.1 C0.2.1 dX7_begin_0 rfl (lv_at hl 1 rfl) ?_
  refine hv_cSi (As := [.int r]) C0 w kl_X7_135 ks_X7_isRow (c_X7_isRow) (by decide) (by decide) rfl hl.1 rfl (Nat.le_of_ble_eq_true rfl) dX7_begin_1 ⟨Nat.le_refl _, Nat.le_refl _⟩ (fun x1 V2 Hq lq hp3 w => ?_)
  obtain ⟨e9, hz9⟩ := hp3
  rw [e9] at w; clear e9
  rcases hz9 with ⟨rfl, hb4⟩ | ⟨rfl, hb4⟩
  · skip
    have ihb4 := hb4
    obtain ⟨j1, hj1, rfl⟩ := sp_inN (k := 5) (by decide) hb4
    have kj1 : (nI j1).toNatClampNeg = j1 := nI_clamp (by omega)
    have hN_j1 : V (mo + 4 + j1) = some (nE X (σ.1.1.2.2 j1)) := r5 j1 hj1
    have hn_j1 : σ.1.1.2.1 j1 ≤ 16 := (hbR j1 hj1).2.1
    refine lv_if_eq (tgt := 14) C0.1 C0.2.1 dX7_begin_4 (by decide) (fun h9 => absurd h9 (by decide)) (fun _ => ?_)
    refine lv_iload_n C0.1 C0.2.1 dX7_begin_7 rfl (lv_at hl 2 rfl) ?_
    refine hv_cSi (As := [.int k]) C0 w kl_X7_139 ks_X7_isKind (c_X7_isKind) (by decide) (by decide) rfl hl.1 rfl (Nat.le_of_ble_eq_true rfl) dX7_begin_8 ⟨Nat.le_refl _, Nat.le_refl _⟩ (fun x5 V6 Hq lq hp7 w => ?_)
    obtain ⟨e9, hz9⟩ := hp7
    rw [e9] at w; clear e9
    rcases hz9 with ⟨rfl, hb8⟩ | ⟨rfl, hb8⟩
    · skip
      refine lv_if_ne (tgt := 16) C0.1 C0.2.1 dX7_begin_11 (by decide) (fun _ => ?_) (fun h9 => absurd h9 (by decide))
      refine lv_aload_n C0.1 C0.2.1 dX7_begin_16 rfl (lv_at hl 0 rfl) ?_
      refine gf_X7_15 C0 w hO rfl dX7_begin_17 ?_
      refine lv_iload_n C0.1 C0.2.1 dX7_begin_20 rfl (lv_at hl 1 rfl) ?_
      refine hv_iald C0 w r2 (hn_in hj1 (by decide)) dX7_begin_21 ?_
      have hc9 : (nI j1).toNatClampNeg = j1 := nI_clamp (by omega)
      rw [hc9]
      refine lv_istore_n (lv' := [(3, .int (nI (σ.1.1.2.1 j1))), (0, .ref mo), (1, .int (nI j1)), (2, .int k)]) C0.1 C0.2.1 dX7_begin_22 rfl hl (by decide) rfl (fun ls hl => ?_)
      refine lv_aload_n C0.1 C0.2.1 dX7_begin_23 rfl (lv_at hl 1 rfl) ?_
      refine gf_X7_11 C0 w hO rfl dX7_begin_24 ?_
      refine lv_iload_n C0.1 C0.2.1 dX7_begin_27 rfl (lv_at hl 2 rfl) ?_
      refine lv_iload_n C0.1 C0.2.1 dX7_begin_28 rfl (lv_at hl 3 rfl) ?_
      refine hv_iast C0 w r1 (hn_in hj1 (by decide)) dX7_begin_29 (fun Hq lq w => ?_)
      have hc10 : (nI j1).toNatClampNeg = j1 := nI_clamp (by omega)
      rw [hc10] at w
      obtain ⟨V11, eV12⟩ : ∃ V9, V9 = hv_up V (mo + 1) (.inl (X.2.1 0, 6, .inl (upd (σ.1.1.1) j1 k))) := ⟨_, rfl⟩
      have w : hv_w X s V11 Hq lq := by rw [eV12]; exact w
      have hV13 : V11 mo = some (.inr (7, [.ref (mo + 1), .ref (mo + 2), .ref (mo + 3), .long ab, .long be, .ref (mo + 10), .int (nI σ.2.2.1.1), .int pl, .int cl, .ref (mo + 11), .ref (mo + 12), .ref (mo + 13), .int sg, .ref (mo + 14), .ref (mo + 15), .ref (mo + 16), .ref (mo + 17), .int (nI σ.1.2.1.1), .ref (mo + 18), .ref (mo + 19), .int (nI σ.1.2.2.1.1), .ref (mo + 20), .ref (mo + 21), .ref (mo + 22), .int (nI σ.1.2.2.2.1), .int ik, .ref (mo + 23), .ref (mo + 24), .ref (mo + 25), .ref (mo + 26), .ref (mo + 33), .ref (mo + 41), .ref (mo + 42), .ref (mo + 43)])) := by rw [eV12, hv_un (by omega)]; exact hO
      have hV15 : V11 (mo + 2) = some (.inl (X.2.1 0, 6, .inl (fun j => nI (σ.1.1.2.1 j)))) := by rw [eV12, hv_un (by omega)]; exact r2
      have hV16 : V11 (mo + 3) = some (.inl (X.2.1 6, 6, .inr (.inr (.inr (.inr rf))))) := by rw [eV12, hv_un (by omega)]; exact r3
      have hV17 : V11 (mo + 10) = some (.inl (X.2.1 2, 100, .inl σ.2.2.1.2)) := by rw [eV12, hv_un (by omega)]; exact hTx
      have hV18 : V11 (mo + 11) = some (.inl (X.2.1 0, 12, .inl wd)) := by rw [eV12, hv_un (by omega)]; exact s1
      have hV19 : V11 (mo + 12) = some (.inl (X.2.1 0, 48, .inl td)) := by rw [eV12, hv_un (by omega)]; exact s2
      have hV20 : V11 (mo + 13) = some (.inl (X.2.1 2, 178, .inl sn)) := by rw [eV12, hv_un (by omega)]; exact s3
      have hV21 : V11 (mo + 14) = some (.inl (X.2.1 0, 3, .inl ut)) := by rw [eV12, hv_un (by omega)]; exact s4
      have hV22 : V11 (mo + 20) = some (.inl (X.2.1 0, 16, .inl kn)) := by rw [eV12, hv_un (by omega)]; exact s5
      have hV23 : V11 (mo + 15) = some (.inl (X.2.1 0, 4, .inl sf)) := by rw [eV12, hv_un (by omega)]; exact e1
      have hV24 : V11 (mo + 16) = some (.inl (X.2.1 0, 4, .inl sg9)) := by rw [eV12, hv_un (by omega)]; exact e2
      have hV25 : V11 (mo + 17) = some (.inl (X.2.1 0, 4, .inl sh)) := by rw [eV12, hv_un (by omega)]; exact e3
      have hV26 : V11 (mo + 18) = some (.inl (X.2.1 0, 8, .inl ef)) := by rw [eV12, hv_un (by omega)]; exact v1
      have hV27 : V11 (mo + 19) = some (.inl (X.2.1 0, 8, .inl eg)) := by rw [eV12, hv_un (by omega)]; exact v2
      have hV28 : V11 (mo + 21) = some (.inl (X.2.1 0, 8, .inl bf)) := by rw [eV12, hv_un (by omega)]; exact b1
      have hV29 : V11 (mo + 22) = some (.inl (X.2.1 0, 8, .inl bg)) := by rw [eV12, hv_un (by omega)]; exact b2
      have hV30 : V11 (mo + 41) = some (.inl (X.2.1 0, 6, .inl σ.2.2.2.1)) := by rw [eV12, hv_un (by omega)]; exact t1
      have hV31 : V11 (mo + 42) = some (.inl (X.2.1 0, 6, .inl (fun j => nI (σ.2.2.2.2.1 j)))) := by rw [eV12, hv_un (by omega)]; exact t2
      have hV32 : V11 (mo + 43) = some (.inl (X.2.1 7, 6, .inr (.inr (.inr (.inr tf))))) := by rw [eV12, hv_un (by omega)]; exact t3
      have hV33 : V11 (mo + 4 + j1) = some (.inl (X.2.1 0, 16, .inl (σ.1.1.2.2 j1))) := by rw [eV12, hv_un (by omega)]; exact hN_j1
      have hV34 : V11 (mo + 1) = some (.inl (X.2.1 0, 6, .inl (upd (σ.1.1.1) j1 k))) := by rw [eV12]; exact hv_us
      refine lv_aload_n C0.1 C0.2.1 dX7_begin_30 rfl (lv_at hl 1 rfl) ?_
      refine gf_X7_15 C0 w hV13 rfl dX7_begin_31 ?_
      refine lv_iload_n C0.1 C0.2.1 dX7_begin_34 rfl (lv_at hl 2 rfl) ?_
      refine lv_iconst (v := 0) C0.1 C0.2.1 dX7_begin_35 (by decide) ?_
      refine hv_iast C0 w hV15 (hn_in hj1 (by decide)) dX7_begin_36 (fun Hq lq w => ?_)
      have hc35 : (nI j1).toNatClampNeg = j1 := nI_clamp (by omega)
      rw [hc35] at w
      obtain ⟨V36, eV37⟩ : ∃ V9, V9 = hv_up V11 (mo + 2) (.inl (X.2.1 0, 6, .inl (upd (fun j => nI (σ.1.1.2.1 j)) j1 0))) := ⟨_, rfl⟩
      have w : hv_w X s V36 Hq lq := by rw [eV37]; exact w
      have hV38 : V36 mo = some (.inr (7, [.ref (mo + 1), .ref (mo + 2), .ref (mo + 3), .long ab, .long be, .ref (mo + 10), .int (nI σ.2.2.1.1), .int pl, .int cl, .ref (mo + 11), .ref (mo + 12), .ref (mo + 13), .int sg, .ref (mo + 14), .ref (mo + 15), .ref (mo + 16), .ref (mo + 17), .int (nI σ.1.2.1.1), .ref (mo + 18), .ref (mo + 19), .int (nI σ.1.2.2.1.1), .ref (mo + 20), .ref (mo + 21), .ref (mo + 22), .int (nI σ.1.2.2.2.1), .int ik, .ref (mo + 23), .ref (mo + 24), .ref (mo + 25), .ref (mo + 26), .ref (mo + 33), .ref (mo + 41), .ref (mo + 42), .ref (mo + 43)])) := by rw [eV37, hv_un (by omega)]; exact hV13
      have hV40 : V36 (mo + 3) = some (.inl (X.2.1 6, 6, .inr (.inr (.inr (.inr rf))))) := by rw [eV37, hv_un (by omega)]; exact hV16
      have hV41 : V36 (mo + 10) = some (.inl (X.2.1 2, 100, .inl σ.2.2.1.2)) := by rw [eV37, hv_un (by omega)]; exact hV17
      have hV42 : V36 (mo + 11) = some (.inl (X.2.1 0, 12, .inl wd)) := by rw [eV37, hv_un (by omega)]; exact hV18
      have hV43 : V36 (mo + 12) = some (.inl (X.2.1 0, 48, .inl td)) := by rw [eV37, hv_un (by omega)]; exact hV19
      have hV44 : V36 (mo + 13) = some (.inl (X.2.1 2, 178, .inl sn)) := by rw [eV37, hv_un (by omega)]; exact hV20
      have hV45 : V36 (mo + 14) = some (.inl (X.2.1 0, 3, .inl ut)) := by rw [eV37, hv_un (by omega)]; exact hV21
      have hV46 : V36 (mo + 20) = some (.inl (X.2.1 0, 16, .inl kn)) := by rw [eV37, hv_un (by omega)]; exact hV22
      have hV47 : V36 (mo + 15) = some (.inl (X.2.1 0, 4, .inl sf)) := by rw [eV37, hv_un (by omega)]; exact hV23
      have hV48 : V36 (mo + 16) = some (.inl (X.2.1 0, 4, .inl sg9)) := by rw [eV37, hv_un (by omega)]; exact hV24
      have hV49 : V36 (mo + 17) = some (.inl (X.2.1 0, 4, .inl sh)) := by rw [eV37, hv_un (by omega)]; exact hV25
      have hV50 : V36 (mo + 18) = some (.inl (X.2.1 0, 8, .inl ef)) := by rw [eV37, hv_un (by omega)]; exact hV26
      have hV51 : V36 (mo + 19) = some (.inl (X.2.1 0, 8, .inl eg)) := by rw [eV37, hv_un (by omega)]; exact hV27
      have hV52 : V36 (mo + 21) = some (.inl (X.2.1 0, 8, .inl bf)) := by rw [eV37, hv_un (by omega)]; exact hV28
      have hV53 : V36 (mo + 22) = some (.inl (X.2.1 0, 8, .inl bg)) := by rw [eV37, hv_un (by omega)]; exact hV29
      have hV54 : V36 (mo + 41) = some (.inl (X.2.1 0, 6, .inl σ.2.2.2.1)) := by rw [eV37, hv_un (by omega)]; exact hV30
      have hV55 : V36 (mo + 42) = some (.inl (X.2.1 0, 6, .inl (fun j => nI (σ.2.2.2.2.1 j)))) := by rw [eV37, hv_un (by omega)]; exact hV31
      have hV56 : V36 (mo + 43) = some (.inl (X.2.1 7, 6, .inr (.inr (.inr (.inr tf))))) := by rw [eV37, hv_un (by omega)]; exact hV32
      have hV57 : V36 (mo + 4 + j1) = some (.inl (X.2.1 0, 16, .inl (σ.1.1.2.2 j1))) := by rw [eV37, hv_un (by omega)]; exact hV33
      have hV58 : V36 (mo + 1) = some (.inl (X.2.1 0, 6, .inl (upd (σ.1.1.1) j1 k))) := by rw [eV37, hv_un (by omega)]; exact hV34
      have hV59 : V36 (mo + 2) = some (.inl (X.2.1 0, 6, .inl (upd (fun j => nI (σ.1.1.2.1 j)) j1 0))) := by rw [eV37]; exact hv_us
      refine lv_iload_n C0.1 C0.2.1 dX7_begin_37 rfl (lv_at hl 0 rfl) ?_
      exact hv_iret C0 w hr hlk (by rw [sp_begin, if_pos ⟨ihb4, hb8⟩, kj1]; exact ⟨rfl, ⟨ab, be, pl, cl, sg, ik, ((by rw [eV37, hv_un (by omega), eV12, hv_un (by omega)] : _ = V mo).trans hO), hRw.set hj1 (by rw [eV37, hv_un (by omega), eV12]; exact hv_us) (by rw [eV37]; exact hv_us) ((by rw [eV37, hv_un (by omega), eV12, hv_un (by omega)] : _ = V (mo + 4 + j1)).trans hN_j1) (by rw [eV37, hv_un (by omega), eV12, hv_un (by omega)]) (fun i9 hi9 hne9 => by rw [eV37, hv_un (by omega), eV12, hv_un (by omega)]), (by rw [eV37, hv_un (by omega), eV12, hv_un (by omega)] : _ = V (mo + 10)).trans hTx, hSc.fr (fun q h7 h8 => by rw [eV37, hv_un (by omega), eV12, hv_un (by omega)]) (fun q h7 h8 => by rw [eV37, hv_un (by omega), eV12, hv_un (by omega)]), hSe.fr (fun q h7 h8 => by rw [eV37, hv_un (by omega), eV12, hv_un (by omega)]), hEv.fr (by rw [eV37, hv_un (by omega), eV12, hv_un (by omega)]) (by rw [eV37, hv_un (by omega), eV12, hv_un (by omega)]), hBk.fr (by rw [eV37, hv_un (by omega), eV12, hv_un (by omega)]) (by rw [eV37, hv_un (by omega), eV12, hv_un (by omega)]), hIm.fr (fun q h7 h8 => by rw [eV37, hv_un (by omega), eV12, hv_un (by omega)]), hTp.fr (fun q h7 h8 => by rw [eV37, hv_un (by omega), eV12, hv_un (by omega)])⟩, (fun q h7 => by rw [eV37, hv_un (by omega), eV12, hv_un (by omega)])⟩) dX7_begin_38
    · skip
      refine lv_if_ne (tgt := 16) C0.1 C0.2.1 dX7_begin_11 (by decide) (fun h9 => absurd h9 (by decide)) (fun _ => ?_)
      refine lv_iconst (v := -1) C0.1 C0.2.1 dX7_begin_14 (by decide) ?_
      exact hv_iret C0 w hr hlk (by rw [sp_begin, if_neg (fun h9 => hb8 h9.2)]; exact ⟨rfl, hM, hv_out.rf⟩) dX7_begin_15
  · skip
    refine lv_if_eq (tgt := 14) C0.1 C0.2.1 dX7_begin_4 (by decide) (fun _ => ?_) (fun h9 => absurd h9 (by decide))
    refine lv_iconst (v := -1) C0.1 C0.2.1 dX7_begin_14 (by decide) ?_
    exact hv_iret C0 w hr hlk (by rw [sp_begin, if_neg (fun h9 => hb4 h9.1)]; exact ⟨rfl, hM, hv_out.rf⟩) dX7_begin_15

set_option maxHeartbeats 4000000 in
set_option maxRecDepth 100000 in
theorem m_X7_add {l : Launch} {X : hv_X} {V : hv_V} {mo : Nat} {σ : hs_S} (hM : okM X V mo σ) (hB : hs_b σ) {r v : Int32} : hv_Mi l X 220 yX7_add cX7_add 3 .int V [.ref mo, .int r, .int v] (fun y V1 => y = (sp_add σ r v).1 ∧ okM X V1 mo (sp_add σ r v).2 ∧ hv_out V V1 mo (mo + 50)) := by
  refine hv_enter (by decide) (Nat.le_of_ble_eq_true rfl) ?_
  intro p e s m below meth c ls C0 hr hlk hnm w hl
  have hl : lv_has ls 3 [(0, .ref mo), (1, .int r), (2, .int v)] := hl
  obtain ⟨ab, be, pl, cl, sg, ik, hO, hRw, hTx, hSc, hSe, hEv, hBk, hIm, hTp⟩ := id hM
  obtain ⟨r1, r2, ⟨rf, r3, r4⟩, r5⟩ := id hRw
  obtain ⟨⟨wd, s1⟩, ⟨td, s2⟩, ⟨sn, s3⟩, ⟨ut, s4⟩, kn, s5⟩ := id hSc
  obtain ⟨sf, sg9, sh, e1, e2, e3, ea⟩ := id hSe
  obtain ⟨ef, eg, v1, v2, va⟩ := id hEv
  obtain ⟨bf, bg, b1, b2, ba⟩ := id hBk
  obtain ⟨t1, t2, ⟨tf, t3, t4⟩, t5⟩ := id hTp
  have hbR := hB.1.1
  refine lv_iload_n C0.1 C0.2.1 dX7_add_0 rfl (lv_at hl 1 rfl) ?_
  refine hv_cSi (As := [.int r]) C0 w kl_X7_135 ks_X7_isRow (c_X7_isRow) (by decide) (by decide) rfl hl.1 rfl (Nat.le_of_ble_eq_true rfl) dX7_add_1 ⟨Nat.le_refl _, Nat.le_refl _⟩ (fun x1 V2 Hq lq hp3 w => ?_)
  obtain ⟨e9, hz9⟩ := hp3
  rw [e9] at w; clear e9
  rcases hz9 with ⟨rfl, hb4⟩ | ⟨rfl, hb4⟩
  · skip
    have ihb4 := hb4
    obtain ⟨j1, hj1, rfl⟩ := sp_inN (k := 5) (by decide) hb4
    have kj1 : (nI j1).toNatClampNeg = j1 := nI_clamp (by omega)
    have hN_j1 : V (mo + 4 + j1) = some (nE X (σ.1.1.2.2 j1)) := r5 j1 hj1
    have hn_j1 : σ.1.1.2.1 j1 ≤ 16 := (hbR j1 hj1).2.1
    refine lv_if_ne (tgt := 9) C0.1 C0.2.1 dX7_add_4 (by decide) (fun _ => ?_) (fun h9 => absurd h9 (by decide))
    refine lv_iload_n C0.1 C0.2.1 dX7_add_9 rfl (lv_at hl 2 rfl) ?_
    refine lv_iconst (v := 0) C0.1 C0.2.1 dX7_add_10 (by decide) ?_
    refine lv_ldc C0.1 C0.2.1 C0.2.2.2.1 (C0.2.2.2.2.1 _ kk_X7_147) dX7_add_11 ?_
    refine hv_cSi (As := [.int v, .int 0, .int 1000000000]) C0 w kl_X7_89 ks_X7_in (c_X7_in) (by decide) (by decide) rfl hl.1 rfl (Nat.le_of_ble_eq_true rfl) dX7_add_13 ⟨Nat.le_refl _, Nat.le_refl _⟩ (fun x5 V6 Hq lq hp7 w => ?_)
    obtain ⟨e9, hz9⟩ := hp7
    rw [e9] at w; clear e9
    rcases hz9 with ⟨rfl, hb8⟩ | ⟨rfl, hb8⟩
    · skip
      refine lv_if_ne (tgt := 22) C0.1 C0.2.1 dX7_add_16 (by decide) (fun _ => ?_) (fun h9 => absurd h9 (by decide))
      refine lv_aload_n C0.1 C0.2.1 dX7_add_22 rfl (lv_at hl 0 rfl) ?_
      refine gf_X7_15 C0 w hO rfl dX7_add_23 ?_
      refine lv_iload_n C0.1 C0.2.1 dX7_add_26 rfl (lv_at hl 1 rfl) ?_
      refine hv_iald C0 w r2 (hn_in hj1 (by decide)) dX7_add_27 ?_
      have hc9 : (nI j1).toNatClampNeg = j1 := nI_clamp (by omega)
      rw [hc9]
      refine lv_bipush (v := 16) C0.1 C0.2.1 dX7_add_28 (by decide) ?_
      refine lv_icmp_ne (tgt := 36) C0.1 C0.2.1 dX7_add_30 (by decide) (fun c_30 => ?_) (fun c_30 => ?_)
      · skip
        have hlt : σ.1.1.2.1 j1 < 16 := by
          rcases Nat.lt_or_ge (σ.1.1.2.1 j1) 16 with h9 | h9
          · exact h9
          · exact absurd (show nI (σ.1.1.2.1 j1) = nI 16 from by rw [show σ.1.1.2.1 j1 = 16 by omega]) c_30
        refine lv_aload_n C0.1 C0.2.1 dX7_add_36 rfl (lv_at hl 0 rfl) ?_
        refine gf_X7_20 C0 w hO rfl dX7_add_37 ?_
        refine lv_iload_n C0.1 C0.2.1 dX7_add_40 rfl (lv_at hl 1 rfl) ?_
        refine hv_aalA 6 rfl C0 w rfl r3 (hn_in hj1 (by decide)) (by rw [kj1]; exact r4 j1 hj1) dX7_add_41 ?_
        refine lv_aload_n C0.1 C0.2.1 dX7_add_42 rfl (lv_at hl 0 rfl) ?_
        refine gf_X7_15 C0 w hO rfl dX7_add_43 ?_
        refine lv_iload_n C0.1 C0.2.1 dX7_add_46 rfl (lv_at hl 1 rfl) ?_
        refine hv_iald C0 w r2 (hn_in hj1 (by decide)) dX7_add_47 ?_
        have hc10 : (nI j1).toNatClampNeg = j1 := nI_clamp (by omega)
        rw [hc10]
        refine lv_iload_n C0.1 C0.2.1 dX7_add_48 rfl (lv_at hl 2 rfl) ?_
        refine hv_iast C0 w hN_j1 (hn_in hlt (by decide)) dX7_add_49 (fun Hq lq w => ?_)
        have hc11 : (nI (σ.1.1.2.1 j1)).toNatClampNeg = (σ.1.1.2.1 j1) := nI_clamp (by omega)
        rw [hc11] at w
        obtain ⟨V12, eV13⟩ : ∃ V9, V9 = hv_up V (mo + 4 + j1) (.inl (X.2.1 0, 16, .inl (upd (σ.1.1.2.2 j1) (σ.1.1.2.1 j1) v))) := ⟨_, rfl⟩
        have w : hv_w X s V12 Hq lq := by rw [eV13]; exact w
        have hV14 : V12 mo = some (.inr (7, [.ref (mo + 1), .ref (mo + 2), .ref (mo + 3), .long ab, .long be, .ref (mo + 10), .int (nI σ.2.2.1.1), .int pl, .int cl, .ref (mo + 11), .ref (mo + 12), .ref (mo + 13), .int sg, .ref (mo + 14), .ref (mo + 15), .ref (mo + 16), .ref (mo + 17), .int (nI σ.1.2.1.1), .ref (mo + 18), .ref (mo + 19), .int (nI σ.1.2.2.1.1), .ref (mo + 20), .ref (mo + 21), .ref (mo + 22), .int (nI σ.1.2.2.2.1), .int ik, .ref (mo + 23), .ref (mo + 24), .ref (mo + 25), .ref (mo + 26), .ref (mo + 33), .ref (mo + 41), .ref (mo + 42), .ref (mo + 43)])) := by rw [eV13, hv_un (by omega)]; exact hO
        have hV15 : V12 (mo + 1) = some (.inl (X.2.1 0, 6, .inl σ.1.1.1)) := by rw [eV13, hv_un (by omega)]; exact r1
        have hV16 : V12 (mo + 2) = some (.inl (X.2.1 0, 6, .inl (fun j => nI (σ.1.1.2.1 j)))) := by rw [eV13, hv_un (by omega)]; exact r2
        have hV17 : V12 (mo + 3) = some (.inl (X.2.1 6, 6, .inr (.inr (.inr (.inr rf))))) := by rw [eV13, hv_un (by omega)]; exact r3
        have hV18 : V12 (mo + 10) = some (.inl (X.2.1 2, 100, .inl σ.2.2.1.2)) := by rw [eV13, hv_un (by omega)]; exact hTx
        have hV19 : V12 (mo + 11) = some (.inl (X.2.1 0, 12, .inl wd)) := by rw [eV13, hv_un (by omega)]; exact s1
        have hV20 : V12 (mo + 12) = some (.inl (X.2.1 0, 48, .inl td)) := by rw [eV13, hv_un (by omega)]; exact s2
        have hV21 : V12 (mo + 13) = some (.inl (X.2.1 2, 178, .inl sn)) := by rw [eV13, hv_un (by omega)]; exact s3
        have hV22 : V12 (mo + 14) = some (.inl (X.2.1 0, 3, .inl ut)) := by rw [eV13, hv_un (by omega)]; exact s4
        have hV23 : V12 (mo + 20) = some (.inl (X.2.1 0, 16, .inl kn)) := by rw [eV13, hv_un (by omega)]; exact s5
        have hV24 : V12 (mo + 15) = some (.inl (X.2.1 0, 4, .inl sf)) := by rw [eV13, hv_un (by omega)]; exact e1
        have hV25 : V12 (mo + 16) = some (.inl (X.2.1 0, 4, .inl sg9)) := by rw [eV13, hv_un (by omega)]; exact e2
        have hV26 : V12 (mo + 17) = some (.inl (X.2.1 0, 4, .inl sh)) := by rw [eV13, hv_un (by omega)]; exact e3
        have hV27 : V12 (mo + 18) = some (.inl (X.2.1 0, 8, .inl ef)) := by rw [eV13, hv_un (by omega)]; exact v1
        have hV28 : V12 (mo + 19) = some (.inl (X.2.1 0, 8, .inl eg)) := by rw [eV13, hv_un (by omega)]; exact v2
        have hV29 : V12 (mo + 21) = some (.inl (X.2.1 0, 8, .inl bf)) := by rw [eV13, hv_un (by omega)]; exact b1
        have hV30 : V12 (mo + 22) = some (.inl (X.2.1 0, 8, .inl bg)) := by rw [eV13, hv_un (by omega)]; exact b2
        have hV31 : V12 (mo + 41) = some (.inl (X.2.1 0, 6, .inl σ.2.2.2.1)) := by rw [eV13, hv_un (by omega)]; exact t1
        have hV32 : V12 (mo + 42) = some (.inl (X.2.1 0, 6, .inl (fun j => nI (σ.2.2.2.2.1 j)))) := by rw [eV13, hv_un (by omega)]; exact t2
        have hV33 : V12 (mo + 43) = some (.inl (X.2.1 7, 6, .inr (.inr (.inr (.inr tf))))) := by rw [eV13, hv_un (by omega)]; exact t3
        have hV35 : V12 (mo + 4 + j1) = some (.inl (X.2.1 0, 16, .inl (upd (σ.1.1.2.2 j1) (σ.1.1.2.1 j1) v))) := by rw [eV13]; exact hv_us
        refine lv_aload_n C0.1 C0.2.1 dX7_add_50 rfl (lv_at hl 0 rfl) ?_
        refine gf_X7_15 C0 w hV14 rfl dX7_add_51 ?_
        refine lv_iload_n C0.1 C0.2.1 dX7_add_54 rfl (lv_at hl 1 rfl) ?_
        refine lv_dup2_11 C0.1 C0.2.1 dX7_add_55 rfl rfl ?_
        refine hv_iald C0 w hV16 (hn_in hj1 (by decide)) dX7_add_56 ?_
        have hc36 : (nI j1).toNatClampNeg = j1 := nI_clamp (by omega)
        rw [hc36]
        refine lv_iconst (v := 1) C0.1 C0.2.1 dX7_add_57 (by decide) ?_
        refine lv_iadd C0.1 C0.2.1 dX7_add_58 ?_
        rw [nI_1]
        refine hv_iast C0 w hV16 (hn_in hj1 (by decide)) dX7_add_59 (fun Hq lq w => ?_)
        have hc37 : (nI j1).toNatClampNeg = j1 := nI_clamp (by omega)
        rw [hc37] at w
        obtain ⟨V38, eV39⟩ : ∃ V9, V9 = hv_up V12 (mo + 2) (.inl (X.2.1 0, 6, .inl (upd (fun j => nI (σ.1.1.2.1 j)) j1 (nI (σ.1.1.2.1 j1 + 1))))) := ⟨_, rfl⟩
        have w : hv_w X s V38 Hq lq := by rw [eV39]; exact w
        have hV40 : V38 mo = some (.inr (7, [.ref (mo + 1), .ref (mo + 2), .ref (mo + 3), .long ab, .long be, .ref (mo + 10), .int (nI σ.2.2.1.1), .int pl, .int cl, .ref (mo + 11), .ref (mo + 12), .ref (mo + 13), .int sg, .ref (mo + 14), .ref (mo + 15), .ref (mo + 16), .ref (mo + 17), .int (nI σ.1.2.1.1), .ref (mo + 18), .ref (mo + 19), .int (nI σ.1.2.2.1.1), .ref (mo + 20), .ref (mo + 21), .ref (mo + 22), .int (nI σ.1.2.2.2.1), .int ik, .ref (mo + 23), .ref (mo + 24), .ref (mo + 25), .ref (mo + 26), .ref (mo + 33), .ref (mo + 41), .ref (mo + 42), .ref (mo + 43)])) := by rw [eV39, hv_un (by omega)]; exact hV14
        have hV41 : V38 (mo + 1) = some (.inl (X.2.1 0, 6, .inl σ.1.1.1)) := by rw [eV39, hv_un (by omega)]; exact hV15
        have hV43 : V38 (mo + 3) = some (.inl (X.2.1 6, 6, .inr (.inr (.inr (.inr rf))))) := by rw [eV39, hv_un (by omega)]; exact hV17
        have hV44 : V38 (mo + 10) = some (.inl (X.2.1 2, 100, .inl σ.2.2.1.2)) := by rw [eV39, hv_un (by omega)]; exact hV18
        have hV45 : V38 (mo + 11) = some (.inl (X.2.1 0, 12, .inl wd)) := by rw [eV39, hv_un (by omega)]; exact hV19
        have hV46 : V38 (mo + 12) = some (.inl (X.2.1 0, 48, .inl td)) := by rw [eV39, hv_un (by omega)]; exact hV20
        have hV47 : V38 (mo + 13) = some (.inl (X.2.1 2, 178, .inl sn)) := by rw [eV39, hv_un (by omega)]; exact hV21
        have hV48 : V38 (mo + 14) = some (.inl (X.2.1 0, 3, .inl ut)) := by rw [eV39, hv_un (by omega)]; exact hV22
        have hV49 : V38 (mo + 20) = some (.inl (X.2.1 0, 16, .inl kn)) := by rw [eV39, hv_un (by omega)]; exact hV23
        have hV50 : V38 (mo + 15) = some (.inl (X.2.1 0, 4, .inl sf)) := by rw [eV39, hv_un (by omega)]; exact hV24
        have hV51 : V38 (mo + 16) = some (.inl (X.2.1 0, 4, .inl sg9)) := by rw [eV39, hv_un (by omega)]; exact hV25
        have hV52 : V38 (mo + 17) = some (.inl (X.2.1 0, 4, .inl sh)) := by rw [eV39, hv_un (by omega)]; exact hV26
        have hV53 : V38 (mo + 18) = some (.inl (X.2.1 0, 8, .inl ef)) := by rw [eV39, hv_un (by omega)]; exact hV27
        have hV54 : V38 (mo + 19) = some (.inl (X.2.1 0, 8, .inl eg)) := by rw [eV39, hv_un (by omega)]; exact hV28
        have hV55 : V38 (mo + 21) = some (.inl (X.2.1 0, 8, .inl bf)) := by rw [eV39, hv_un (by omega)]; exact hV29
        have hV56 : V38 (mo + 22) = some (.inl (X.2.1 0, 8, .inl bg)) := by rw [eV39, hv_un (by omega)]; exact hV30
        have hV57 : V38 (mo + 41) = some (.inl (X.2.1 0, 6, .inl σ.2.2.2.1)) := by rw [eV39, hv_un (by omega)]; exact hV31
        have hV58 : V38 (mo + 42) = some (.inl (X.2.1 0, 6, .inl (fun j => nI (σ.2.2.2.2.1 j)))) := by rw [eV39, hv_un (by omega)]; exact hV32
        have hV59 : V38 (mo + 43) = some (.inl (X.2.1 7, 6, .inr (.inr (.inr (.inr tf))))) := by rw [eV39, hv_un (by omega)]; exact hV33
        have hV60 : V38 (mo + 4 + j1) = some (.inl (X.2.1 0, 16, .inl (upd (σ.1.1.2.2 j1) (σ.1.1.2.1 j1) v))) := by rw [eV39, hv_un (by omega)]; exact hV35
        have hV61 : V38 (mo + 2) = some (.inl (X.2.1 0, 6, .inl (upd (fun j => nI (σ.1.1.2.1 j)) j1 (nI (σ.1.1.2.1 j1 + 1))))) := by rw [eV39]; exact hv_us
        refine lv_aload_n C0.1 C0.2.1 dX7_add_60 rfl (lv_at hl 0 rfl) ?_
        refine gf_X7_15 C0 w hV40 rfl dX7_add_61 ?_
        refine lv_iload_n C0.1 C0.2.1 dX7_add_64 rfl (lv_at hl 1 rfl) ?_
        refine hv_iald C0 w hV61 (hn_in hj1 (by decide)) dX7_add_65 ?_
        have hc62 : (nI j1).toNatClampNeg = j1 := nI_clamp (by omega)
        rw [hc62]
        rw [hs_uself]
        exact hv_iret C0 w hr hlk (by rw [sp_add, if_pos ihb4, if_pos hb8, kj1, if_pos hlt]; exact ⟨rfl, ⟨ab, be, pl, cl, sg, ik, ((by rw [eV39, hv_un (by omega), eV13, hv_un (by omega)] : _ = V mo).trans hO), hRw.set hj1 (by rw [hs_uid, eV39, hv_un (by omega), eV13, hv_un (by omega)]; exact r1) (by rw [eV39]; exact hv_us) (by rw [eV39, hv_un (by omega), eV13]; exact hv_us) (by rw [eV39, hv_un (by omega), eV13, hv_un (by omega)]) (fun i9 hi9 hne9 => by rw [eV39, hv_un (by omega), eV13, hv_un (by omega)]), (by rw [eV39, hv_un (by omega), eV13, hv_un (by omega)] : _ = V (mo + 10)).trans hTx, hSc.fr (fun q h7 h8 => by rw [eV39, hv_un (by omega), eV13, hv_un (by omega)]) (fun q h7 h8 => by rw [eV39, hv_un (by omega), eV13, hv_un (by omega)]), hSe.fr (fun q h7 h8 => by rw [eV39, hv_un (by omega), eV13, hv_un (by omega)]), hEv.fr (by rw [eV39, hv_un (by omega), eV13, hv_un (by omega)]) (by rw [eV39, hv_un (by omega), eV13, hv_un (by omega)]), hBk.fr (by rw [eV39, hv_un (by omega), eV13, hv_un (by omega)]) (by rw [eV39, hv_un (by omega), eV13, hv_un (by omega)]), hIm.fr (fun q h7 h8 => by rw [eV39, hv_un (by omega), eV13, hv_un (by omega)]), hTp.fr (fun q h7 h8 => by rw [eV39, hv_un (by omega), eV13, hv_un (by omega)])⟩, (fun q h7 => by rw [eV39, hv_un (by omega), eV13, hv_un (by omega)])⟩) dX7_add_66
      · skip
        refine lv_bipush (v := -4) C0.1 C0.2.1 dX7_add_33 (by decide) ?_
        exact hv_iret C0 w hr hlk (by rw [sp_add, if_pos ihb4, if_pos hb8, kj1, if_neg (fun h9 => by have h8 := (nI_eq (a := σ.1.1.2.1 j1) (b := 16) (by omega) (by omega)).mp c_30; omega)]; exact ⟨rfl, hM, hv_out.rf⟩) dX7_add_35
    · skip
      refine lv_if_ne (tgt := 22) C0.1 C0.2.1 dX7_add_16 (by decide) (fun h9 => absurd h9 (by decide)) (fun _ => ?_)
      refine lv_bipush (v := -2) C0.1 C0.2.1 dX7_add_19 (by decide) ?_
      exact hv_iret C0 w hr hlk (by rw [sp_add, if_pos ihb4, if_neg hb8]; exact ⟨rfl, hM, hv_out.rf⟩) dX7_add_21
  · skip
    refine lv_if_ne (tgt := 9) C0.1 C0.2.1 dX7_add_4 (by decide) (fun h9 => absurd h9 (by decide)) (fun _ => ?_)
    refine lv_iconst (v := -1) C0.1 C0.2.1 dX7_add_7 (by decide) ?_
    exact hv_iret C0 w hr hlk (by rw [sp_add, if_neg hb4]; exact ⟨rfl, hM, hv_out.rf⟩) dX7_add_8

set_option maxHeartbeats 4000000 in
set_option maxRecDepth 100000 in
theorem m_X7_cut {l : Launch} {X : hv_X} {V : hv_V} {mo : Nat} {σ : hs_S} (hM : okM X V mo σ) (hB : hs_b σ) {r n : Int32} : hv_Mi l X 220 yX7_cut cX7_cut 4 .int V [.ref mo, .int r, .int n] (fun y V1 => y = (sp_cut σ r n).1 ∧ okM X V1 mo (sp_cut σ r n).2 ∧ hv_out V V1 mo (mo + 50)) := by
  refine hv_enter (by decide) (Nat.le_of_ble_eq_true rfl) ?_
  intro p e s m below meth c ls C0 hr hlk hnm w hl
  have hl : lv_has ls 4 [(0, .ref mo), (1, .int r), (2, .int n)] := hl
  obtain ⟨ab, be, pl, cl, sg, ik, hO, hRw, hTx, hSc, hSe, hEv, hBk, hIm, hTp⟩ := id hM
  obtain ⟨r1, r2, ⟨rf, r3, r4⟩, r5⟩ := id hRw
  obtain ⟨⟨wd, s1⟩, ⟨td, s2⟩, ⟨sn, s3⟩, ⟨ut, s4⟩, kn, s5⟩ := id hSc
  obtain ⟨sf, sg9, sh, e1, e2, e3, ea⟩ := id hSe
  obtain ⟨ef, eg, v1, v2, va⟩ := id hEv
  obtain ⟨bf, bg, b1, b2, ba⟩ := id hBk
  obtain ⟨t1, t2, ⟨tf, t3, t4⟩, t5⟩ := id hTp
  have hbR := hB.1.1
  refine lv_iload_n C0.1 C0.2.1 dX7_cut_0 rfl (lv_at hl 1 rfl) ?_
  refine hv_cSi (As := [.int r]) C0 w kl_X7_135 ks_X7_isRow (c_X7_isRow) (by decide) (by decide) rfl hl.1 rfl (Nat.le_of_ble_eq_true rfl) dX7_cut_1 ⟨Nat.le_refl _, Nat.le_refl _⟩ (fun x1 V2 Hq lq hp3 w => ?_)
  obtain ⟨e9, hz9⟩ := hp3
  rw [e9] at w; clear e9
  rcases hz9 with ⟨rfl, hb4⟩ | ⟨rfl, hb4⟩
  · skip
    have ihb4 := hb4
    obtain ⟨j1, hj1, rfl⟩ := sp_inN (k := 5) (by decide) hb4
    have kj1 : (nI j1).toNatClampNeg = j1 := nI_clamp (by omega)
    have hN_j1 : V (mo + 4 + j1) = some (nE X (σ.1.1.2.2 j1)) := r5 j1 hj1
    have hn_j1 : σ.1.1.2.1 j1 ≤ 16 := (hbR j1 hj1).2.1
    refine lv_if_ne (tgt := 9) C0.1 C0.2.1 dX7_cut_4 (by decide) (fun _ => ?_) (fun h9 => absurd h9 (by decide))
    refine lv_iload_n C0.1 C0.2.1 dX7_cut_9 rfl (lv_at hl 2 rfl) ?_
    refine lv_iconst (v := 0) C0.1 C0.2.1 dX7_cut_10 (by decide) ?_
    refine lv_aload_n C0.1 C0.2.1 dX7_cut_11 rfl (lv_at hl 0 rfl) ?_
    refine gf_X7_15 C0 w hO rfl dX7_cut_12 ?_
    refine lv_iload_n C0.1 C0.2.1 dX7_cut_15 rfl (lv_at hl 1 rfl) ?_
    refine hv_iald C0 w r2 (hn_in hj1 (by decide)) dX7_cut_16 ?_
    have hc5 : (nI j1).toNatClampNeg = j1 := nI_clamp (by omega)
    rw [hc5]
    refine hv_cSi (As := [.int n, .int 0, .int (nI (σ.1.1.2.1 j1))]) C0 w kl_X7_89 ks_X7_in (c_X7_in) (by decide) (by decide) rfl hl.1 rfl (Nat.le_of_ble_eq_true rfl) dX7_cut_17 ⟨Nat.le_refl _, Nat.le_refl _⟩ (fun x6 V7 Hq lq hp8 w => ?_)
    obtain ⟨e9, hz9⟩ := hp8
    rw [e9] at w; clear e9
    rcases hz9 with ⟨rfl, hb9⟩ | ⟨rfl, hb9⟩
    · skip
      refine lv_if_ne (tgt := 26) C0.1 C0.2.1 dX7_cut_20 (by decide) (fun _ => ?_) (fun h9 => absurd h9 (by decide))
      have hb9x := hb9
      obtain ⟨n1, hn1, rfl⟩ := sp_inN (by omega) hb9
      have kn1 : (nI n1).toNatClampNeg = n1 := nI_clamp (by omega)
      refine lv_aload_n C0.1 C0.2.1 dX7_cut_26 rfl (lv_at hl 0 rfl) ?_
      refine gf_X7_15 C0 w hO rfl dX7_cut_27 ?_
      refine lv_iload_n C0.1 C0.2.1 dX7_cut_30 rfl (lv_at hl 1 rfl) ?_
      refine hv_iald C0 w r2 (hn_in hj1 (by decide)) dX7_cut_31 ?_
      have hc10 : (nI j1).toNatClampNeg = j1 := nI_clamp (by omega)
      rw [hc10]
      refine lv_iload_n C0.1 C0.2.1 dX7_cut_32 rfl (lv_at hl 2 rfl) ?_
      refine lv_isub C0.1 C0.2.1 dX7_cut_33 ?_
      refine lv_istore_n (lv' := [(3, .int ((nI (σ.1.1.2.1 j1)) - (nI n1))), (0, .ref mo), (1, .int (nI j1)), (2, .int (nI n1))]) C0.1 C0.2.1 dX7_cut_34 rfl hl (by decide) rfl (fun ls hl => ?_)
      refine lv_aload_n C0.1 C0.2.1 dX7_cut_35 rfl (lv_at hl 1 rfl) ?_
      refine gf_X7_15 C0 w hO rfl dX7_cut_36 ?_
      refine lv_iload_n C0.1 C0.2.1 dX7_cut_39 rfl (lv_at hl 2 rfl) ?_
      refine lv_iload_n C0.1 C0.2.1 dX7_cut_40 rfl (lv_at hl 3 rfl) ?_
      refine hv_iast C0 w r2 (hn_in hj1 (by decide)) dX7_cut_41 (fun Hq lq w => ?_)
      have hc11 : (nI j1).toNatClampNeg = j1 := nI_clamp (by omega)
      rw [hc11] at w
      obtain ⟨V12, eV13⟩ : ∃ V9, V9 = hv_up V (mo + 2) (.inl (X.2.1 0, 6, .inl (upd (fun j => nI (σ.1.1.2.1 j)) j1 (nI n1)))) := ⟨_, rfl⟩
      have w : hv_w X s V12 Hq lq := by rw [eV13]; exact w
      have hV14 : V12 mo = some (.inr (7, [.ref (mo + 1), .ref (mo + 2), .ref (mo + 3), .long ab, .long be, .ref (mo + 10), .int (nI σ.2.2.1.1), .int pl, .int cl, .ref (mo + 11), .ref (mo + 12), .ref (mo + 13), .int sg, .ref (mo + 14), .ref (mo + 15), .ref (mo + 16), .ref (mo + 17), .int (nI σ.1.2.1.1), .ref (mo + 18), .ref (mo + 19), .int (nI σ.1.2.2.1.1), .ref (mo + 20), .ref (mo + 21), .ref (mo + 22), .int (nI σ.1.2.2.2.1), .int ik, .ref (mo + 23), .ref (mo + 24), .ref (mo + 25), .ref (mo + 26), .ref (mo + 33), .ref (mo + 41), .ref (mo + 42), .ref (mo + 43)])) := by rw [eV13, hv_un (by omega)]; exact hO
      have hV15 : V12 (mo + 1) = some (.inl (X.2.1 0, 6, .inl σ.1.1.1)) := by rw [eV13, hv_un (by omega)]; exact r1
      have hV17 : V12 (mo + 3) = some (.inl (X.2.1 6, 6, .inr (.inr (.inr (.inr rf))))) := by rw [eV13, hv_un (by omega)]; exact r3
      have hV18 : V12 (mo + 10) = some (.inl (X.2.1 2, 100, .inl σ.2.2.1.2)) := by rw [eV13, hv_un (by omega)]; exact hTx
      have hV19 : V12 (mo + 11) = some (.inl (X.2.1 0, 12, .inl wd)) := by rw [eV13, hv_un (by omega)]; exact s1
      have hV20 : V12 (mo + 12) = some (.inl (X.2.1 0, 48, .inl td)) := by rw [eV13, hv_un (by omega)]; exact s2
      have hV21 : V12 (mo + 13) = some (.inl (X.2.1 2, 178, .inl sn)) := by rw [eV13, hv_un (by omega)]; exact s3
      have hV22 : V12 (mo + 14) = some (.inl (X.2.1 0, 3, .inl ut)) := by rw [eV13, hv_un (by omega)]; exact s4
      have hV23 : V12 (mo + 20) = some (.inl (X.2.1 0, 16, .inl kn)) := by rw [eV13, hv_un (by omega)]; exact s5
      have hV24 : V12 (mo + 15) = some (.inl (X.2.1 0, 4, .inl sf)) := by rw [eV13, hv_un (by omega)]; exact e1
      have hV25 : V12 (mo + 16) = some (.inl (X.2.1 0, 4, .inl sg9)) := by rw [eV13, hv_un (by omega)]; exact e2
      have hV26 : V12 (mo + 17) = some (.inl (X.2.1 0, 4, .inl sh)) := by rw [eV13, hv_un (by omega)]; exact e3
      have hV27 : V12 (mo + 18) = some (.inl (X.2.1 0, 8, .inl ef)) := by rw [eV13, hv_un (by omega)]; exact v1
      have hV28 : V12 (mo + 19) = some (.inl (X.2.1 0, 8, .inl eg)) := by rw [eV13, hv_un (by omega)]; exact v2
      have hV29 : V12 (mo + 21) = some (.inl (X.2.1 0, 8, .inl bf)) := by rw [eV13, hv_un (by omega)]; exact b1
      have hV30 : V12 (mo + 22) = some (.inl (X.2.1 0, 8, .inl bg)) := by rw [eV13, hv_un (by omega)]; exact b2
      have hV31 : V12 (mo + 41) = some (.inl (X.2.1 0, 6, .inl σ.2.2.2.1)) := by rw [eV13, hv_un (by omega)]; exact t1
      have hV32 : V12 (mo + 42) = some (.inl (X.2.1 0, 6, .inl (fun j => nI (σ.2.2.2.2.1 j)))) := by rw [eV13, hv_un (by omega)]; exact t2
      have hV33 : V12 (mo + 43) = some (.inl (X.2.1 7, 6, .inr (.inr (.inr (.inr tf))))) := by rw [eV13, hv_un (by omega)]; exact t3
      have hV34 : V12 (mo + 4 + j1) = some (.inl (X.2.1 0, 16, .inl (σ.1.1.2.2 j1))) := by rw [eV13, hv_un (by omega)]; exact hN_j1
      have hV35 : V12 (mo + 2) = some (.inl (X.2.1 0, 6, .inl (upd (fun j => nI (σ.1.1.2.1 j)) j1 (nI n1)))) := by rw [eV13]; exact hv_us
      refine lv_iload_n C0.1 C0.2.1 dX7_cut_42 rfl (lv_at hl 0 rfl) ?_
      exact hv_iret C0 w hr hlk (by rw [sp_cut, if_pos ihb4, kj1, if_pos hb9x, kn1]; exact ⟨rfl, ⟨ab, be, pl, cl, sg, ik, ((by rw [eV13, hv_un (by omega)] : _ = V mo).trans hO), hRw.set hj1 (by rw [hs_uid, eV13, hv_un (by omega)]; exact r1) (by rw [eV13]; exact hv_us) ((by rw [eV13, hv_un (by omega)] : _ = V (mo + 4 + j1)).trans hN_j1) (by rw [eV13, hv_un (by omega)]) (fun i9 hi9 hne9 => by rw [eV13, hv_un (by omega)]), (by rw [eV13, hv_un (by omega)] : _ = V (mo + 10)).trans hTx, hSc.fr (fun q h7 h8 => by rw [eV13, hv_un (by omega)]) (fun q h7 h8 => by rw [eV13, hv_un (by omega)]), hSe.fr (fun q h7 h8 => by rw [eV13, hv_un (by omega)]), hEv.fr (by rw [eV13, hv_un (by omega)]) (by rw [eV13, hv_un (by omega)]), hBk.fr (by rw [eV13, hv_un (by omega)]) (by rw [eV13, hv_un (by omega)]), hIm.fr (fun q h7 h8 => by rw [eV13, hv_un (by omega)]), hTp.fr (fun q h7 h8 => by rw [eV13, hv_un (by omega)])⟩, (fun q h7 => by rw [eV13, hv_un (by omega)])⟩) dX7_cut_43
    · skip
      refine lv_if_ne (tgt := 26) C0.1 C0.2.1 dX7_cut_20 (by decide) (fun h9 => absurd h9 (by decide)) (fun _ => ?_)
      refine lv_bipush (v := -2) C0.1 C0.2.1 dX7_cut_23 (by decide) ?_
      exact hv_iret C0 w hr hlk (by rw [sp_cut, if_pos ihb4, kj1, if_neg hb9]; exact ⟨rfl, hM, hv_out.rf⟩) dX7_cut_25
  · skip
    refine lv_if_ne (tgt := 9) C0.1 C0.2.1 dX7_cut_4 (by decide) (fun h9 => absurd h9 (by decide)) (fun _ => ?_)
    refine lv_iconst (v := -1) C0.1 C0.2.1 dX7_cut_7 (by decide) ?_
    exact hv_iret C0 w hr hlk (by rw [sp_cut, if_neg hb4]; exact ⟨rfl, hM, hv_out.rf⟩) dX7_cut_8

set_option maxHeartbeats 4000000 in
set_option maxRecDepth 100000 in
theorem m_X7_of {l : Launch} {X : hv_X} {V : hv_V} {mo : Nat} {σ : hs_S} (hM : okM X V mo σ) (hB : hs_b σ) {r i : Int32} : hv_Mi l X 220 yX7_of cX7_of 3 .int V [.ref mo, .int r, .int i] (fun y V1 => y = sp_of σ r i ∧ okM X V1 mo σ ∧ hv_out V V1 mo (mo + 50)) := by
  refine hv_enter (by decide) (Nat.le_of_ble_eq_true rfl) ?_
  intro p e s m below meth c ls C0 hr hlk hnm w hl
  have hl : lv_has ls 3 [(0, .ref mo), (1, .int r), (2, .int i)] := hl
  obtain ⟨ab, be, pl, cl, sg, ik, hO, hRw, hTx, hSc, hSe, hEv, hBk, hIm, hTp⟩ := id hM
  obtain ⟨r1, r2, ⟨rf, r3, r4⟩, r5⟩ := id hRw
  obtain ⟨⟨wd, s1⟩, ⟨td, s2⟩, ⟨sn, s3⟩, ⟨ut, s4⟩, kn, s5⟩ := id hSc
  obtain ⟨sf, sg9, sh, e1, e2, e3, ea⟩ := id hSe
  obtain ⟨ef, eg, v1, v2, va⟩ := id hEv
  obtain ⟨bf, bg, b1, b2, ba⟩ := id hBk
  obtain ⟨t1, t2, ⟨tf, t3, t4⟩, t5⟩ := id hTp
  have hbR := hB.1.1
  refine lv_iload_n C0.1 C0.2.1 dX7_of_0 rfl (lv_at hl 1 rfl) ?_
  refine hv_cSi (As := [.int r]) C0 w kl_X7_135 ks_X7_isRow (c_X7_isRow) (by decide) (by decide) rfl hl.1 rfl (Nat.le_of_ble_eq_true rfl) dX7_of_1 ⟨Nat.le_refl _, Nat.le_refl _⟩ (fun x1 V2 Hq lq hp3 w => ?_)
  obtain ⟨e9, hz9⟩ := hp3
  rw [e9] at w; clear e9
  rcases hz9 with ⟨rfl, hb4⟩ | ⟨rfl, hb4⟩
  · skip
    have ihb4 := hb4
    obtain ⟨j1, hj1, rfl⟩ := sp_inN (k := 5) (by decide) hb4
    have kj1 : (nI j1).toNatClampNeg = j1 := nI_clamp (by omega)
    have hN_j1 : V (mo + 4 + j1) = some (nE X (σ.1.1.2.2 j1)) := r5 j1 hj1
    have hn_j1 : σ.1.1.2.1 j1 ≤ 16 := (hbR j1 hj1).2.1
    refine lv_if_eq (tgt := 11) C0.1 C0.2.1 dX7_of_4 (by decide) (fun h9 => absurd h9 (by decide)) (fun _ => ?_)
    refine lv_iload_n C0.1 C0.2.1 dX7_of_7 rfl (lv_at hl 2 rfl) ?_
    refine lv_if_ge (tgt := 13) C0.1 C0.2.1 dX7_of_8 (by decide) (fun c_8 => ?_) (fun c_8 => ?_)
    · skip
      refine lv_iload_n C0.1 C0.2.1 dX7_of_13 rfl (lv_at hl 2 rfl) ?_
      refine lv_aload_n C0.1 C0.2.1 dX7_of_14 rfl (lv_at hl 0 rfl) ?_
      refine gf_X7_15 C0 w hO rfl dX7_of_15 ?_
      refine lv_iload_n C0.1 C0.2.1 dX7_of_18 rfl (lv_at hl 1 rfl) ?_
      refine hv_iald C0 w r2 (hn_in hj1 (by decide)) dX7_of_19 ?_
      have hc5 : (nI j1).toNatClampNeg = j1 := nI_clamp (by omega)
      rw [hc5]
      refine lv_icmp_ge (tgt := 34) C0.1 C0.2.1 dX7_of_20 (by decide) (fun c_20 => ?_) (fun c_20 => ?_)
      · skip
        refine lv_bipush (v := -5) C0.1 C0.2.1 dX7_of_34 (by decide) ?_
        exact hv_iret C0 w hr hlk (by rw [sp_of, if_pos ⟨ihb4, c_8⟩, kj1, if_neg (Int32.not_lt.mpr c_20)]; exact ⟨rfl, hM, hv_out.rf⟩) dX7_of_36
      · skip
        have hin : vp_in i 16 := fun h9 => h9.elim (fun h8 => absurd c_8 (Int32.not_le.mpr h8)) (fun h8 => absurd (Int32.not_le.mp c_20) (hs_nlt (fun h7 => absurd c_8 (Int32.not_le.mpr h7)) (by omega) (by omega)))
        refine lv_aload_n C0.1 C0.2.1 dX7_of_23 rfl (lv_at hl 0 rfl) ?_
        refine gf_X7_20 C0 w hO rfl dX7_of_24 ?_
        refine lv_iload_n C0.1 C0.2.1 dX7_of_27 rfl (lv_at hl 1 rfl) ?_
        refine hv_aalA 6 rfl C0 w rfl r3 (hn_in hj1 (by decide)) (by rw [kj1]; exact r4 j1 hj1) dX7_of_28 ?_
        refine lv_iload_n C0.1 C0.2.1 dX7_of_29 rfl (lv_at hl 2 rfl) ?_
        refine hv_iald C0 w hN_j1 (hin) dX7_of_30 ?_
        refine lv_goto (tgt := 36) C0.1 C0.2.1 dX7_of_31 (by decide) ?_
        exact hv_iret C0 w hr hlk (by rw [sp_of, if_pos ⟨ihb4, c_8⟩, kj1, if_pos (Int32.not_le.mp c_20)]; exact ⟨rfl, hM, hv_out.rf⟩) dX7_of_36
    · skip
      refine lv_iconst (v := -1) C0.1 C0.2.1 dX7_of_11 (by decide) ?_
      exact hv_iret C0 w hr hlk (by rw [sp_of, if_neg (fun h9 => c_8 h9.2)]; exact ⟨rfl, hM, hv_out.rf⟩) dX7_of_12
  · skip
    refine lv_if_eq (tgt := 11) C0.1 C0.2.1 dX7_of_4 (by decide) (fun _ => ?_) (fun h9 => absurd h9 (by decide))
    refine lv_iconst (v := -1) C0.1 C0.2.1 dX7_of_11 (by decide) ?_
    exact hv_iret C0 w hr hlk (by rw [sp_of, if_neg (fun h9 => hb4 h9.1)]; exact ⟨rfl, hM, hv_out.rf⟩) dX7_of_12

set_option maxHeartbeats 4000000 in
set_option maxRecDepth 100000 in
theorem m_X7_count {l : Launch} {X : hv_X} {V : hv_V} {mo : Nat} {σ : hs_S} (hM : okM X V mo σ) (hB : hs_b σ) {k : Int32} : hv_Mi l X 220 yX7_count cX7_count 2 .int V [.ref mo, .int k] (fun y V1 => y = sp_count σ k ∧ okM X V1 mo σ ∧ hv_out V V1 mo (mo + 50)) := by
  refine hv_enter (by decide) (Nat.le_of_ble_eq_true rfl) ?_
  intro p e s m below meth c ls C0 hr hlk hnm w hl
  have hl : lv_has ls 2 [(0, .ref mo), (1, .int k)] := hl
  obtain ⟨ab, be, pl, cl, sg, ik, hO, hRw, hTx, hSc, hSe, hEv, hBk, hIm, hTp⟩ := id hM
  obtain ⟨r1, r2, ⟨rf, r3, r4⟩, r5⟩ := id hRw
  obtain ⟨⟨wd, s1⟩, ⟨td, s2⟩, ⟨sn, s3⟩, ⟨ut, s4⟩, kn, s5⟩ := id hSc
  obtain ⟨sf, sg9, sh, e1, e2, e3, ea⟩ := id hSe
  obtain ⟨ef, eg, v1, v2, va⟩ := id hEv
  obtain ⟨bf, bg, b1, b2, ba⟩ := id hBk
  obtain ⟨t1, t2, ⟨tf, t3, t4⟩, t5⟩ := id hTp
  have hbR := hB.1.1
  refine lv_iload_n C0.1 C0.2.1 dX7_count_0 rfl (lv_at hl 1 rfl) ?_
  refine lv_if_ne (tgt := 11) C0.1 C0.2.1 dX7_count_1 (by decide) (fun c_1 => ?_) (fun c_1 => ?_)
  · skip
    refine lv_iload_n C0.1 C0.2.1 dX7_count_11 rfl (lv_at hl 1 rfl) ?_
    refine lv_iconst (v := 1) C0.1 C0.2.1 dX7_count_12 (by decide) ?_
    refine lv_icmp_ne (tgt := 23) C0.1 C0.2.1 dX7_count_13 (by decide) (fun c_13 => ?_) (fun c_13 => ?_)
    · skip
      refine lv_iload_n C0.1 C0.2.1 dX7_count_23 rfl (lv_at hl 1 rfl) ?_
      refine lv_iconst (v := 2) C0.1 C0.2.1 dX7_count_24 (by decide) ?_
      refine lv_icmp_ne (tgt := 35) C0.1 C0.2.1 dX7_count_25 (by decide) (fun c_25 => ?_) (fun c_25 => ?_)
      · skip
        refine lv_iload_n C0.1 C0.2.1 dX7_count_35 rfl (lv_at hl 1 rfl) ?_
        refine lv_iconst (v := 3) C0.1 C0.2.1 dX7_count_36 (by decide) ?_
        refine lv_icmp_ne (tgt := 47) C0.1 C0.2.1 dX7_count_37 (by decide) (fun c_37 => ?_) (fun c_37 => ?_)
        · skip
          refine lv_bipush (v := -2) C0.1 C0.2.1 dX7_count_47 (by decide) ?_
          exact hv_iret C0 w hr hlk (by rw [sp_count, if_neg c_1, if_neg c_13, if_neg c_25, if_neg c_37]; exact ⟨rfl, hM, hv_out.rf⟩) dX7_count_49
        · skip
          refine lv_aload_n C0.1 C0.2.1 dX7_count_40 rfl (lv_at hl 0 rfl) ?_
          refine gf_X7_162 C0 w hO rfl dX7_count_41 ?_
          refine lv_goto (tgt := 49) C0.1 C0.2.1 dX7_count_44 (by decide) ?_
          exact hv_iret C0 w hr hlk (by rw [sp_count, if_neg c_1, if_neg c_13, if_neg c_25, if_pos c_37]; exact ⟨rfl, hM, hv_out.rf⟩) dX7_count_49
      · skip
        refine lv_aload_n C0.1 C0.2.1 dX7_count_28 rfl (lv_at hl 0 rfl) ?_
        refine gf_X7_297 C0 w hO rfl dX7_count_29 ?_
        refine lv_goto (tgt := 49) C0.1 C0.2.1 dX7_count_32 (by decide) ?_
        exact hv_iret C0 w hr hlk (by rw [sp_count, if_neg c_1, if_neg c_13, if_pos c_25]; exact ⟨rfl, hM, hv_out.rf⟩) dX7_count_49
    · skip
      refine lv_aload_n C0.1 C0.2.1 dX7_count_16 rfl (lv_at hl 0 rfl) ?_
      refine gf_X7_285 C0 w hO rfl dX7_count_17 ?_
      refine lv_goto (tgt := 49) C0.1 C0.2.1 dX7_count_20 (by decide) ?_
      exact hv_iret C0 w hr hlk (by rw [sp_count, if_neg c_1, if_pos c_13]; exact ⟨rfl, hM, hv_out.rf⟩) dX7_count_49
  · skip
    refine lv_aload_n C0.1 C0.2.1 dX7_count_4 rfl (lv_at hl 0 rfl) ?_
    refine gf_X7_275 C0 w hO rfl dX7_count_5 ?_
    refine lv_goto (tgt := 49) C0.1 C0.2.1 dX7_count_8 (by decide) ?_
    exact hv_iret C0 w hr hlk (by rw [sp_count, if_pos c_1]; exact ⟨rfl, hM, hv_out.rf⟩) dX7_count_49

set_option maxHeartbeats 4000000 in
set_option maxRecDepth 100000 in
theorem m_X7_feed {l : Launch} {X : hv_X} {V : hv_V} {mo : Nat} {σ : hs_S} (hM : okM X V mo σ) (hB : hs_b σ) {v : Int32} : hv_Mi l X 220 yX7_feed cX7_feed 2 .int V [.ref mo, .int v] (fun y V1 => y = (sp_feed σ v).1 ∧ okM X V1 mo (sp_feed σ v).2 ∧ hv_out V V1 mo (mo + 50)) := by
  refine hv_enter (by decide) (Nat.le_of_ble_eq_true rfl) ?_
  intro p e s m below meth c ls C0 hr hlk hnm w hl
  have hl : lv_has ls 2 [(0, .ref mo), (1, .int v)] := hl
  obtain ⟨ab, be, pl, cl, sg, ik, hO, hRw, hTx, hSc, hSe, hEv, hBk, hIm, hTp⟩ := id hM
  obtain ⟨r1, r2, ⟨rf, r3, r4⟩, r5⟩ := id hRw
  obtain ⟨⟨wd, s1⟩, ⟨td, s2⟩, ⟨sn, s3⟩, ⟨ut, s4⟩, kn, s5⟩ := id hSc
  obtain ⟨sf, sg9, sh, e1, e2, e3, ea⟩ := id hSe
  obtain ⟨ef, eg, v1, v2, va⟩ := id hEv
  obtain ⟨bf, bg, b1, b2, ba⟩ := id hBk
  obtain ⟨t1, t2, ⟨tf, t3, t4⟩, t5⟩ := id hTp
  have hbR := hB.1.1
  have hl100 := hB.2.2.1
  refine lv_iload_n C0.1 C0.2.1 dX7_feed_0 rfl (lv_at hl 1 rfl) ?_
  refine lv_iconst (v := 0) C0.1 C0.2.1 dX7_feed_1 (by decide) ?_
  refine lv_bipush (v := 127) C0.1 C0.2.1 dX7_feed_2 (by decide) ?_
  refine hv_cSi (As := [.int v, .int 0, .int 127]) C0 w kl_X7_89 ks_X7_in (c_X7_in) (by decide) (by decide) rfl hl.1 rfl (Nat.le_of_ble_eq_true rfl) dX7_feed_4 ⟨Nat.le_refl _, Nat.le_refl _⟩ (fun x1 V2 Hq lq hp3 w => ?_)
  obtain ⟨e9, hz9⟩ := hp3
  rw [e9] at w; clear e9
  rcases hz9 with ⟨rfl, hb4⟩ | ⟨rfl, hb4⟩
  · skip
    refine lv_if_ne (tgt := 13) C0.1 C0.2.1 dX7_feed_7 (by decide) (fun _ => ?_) (fun h9 => absurd h9 (by decide))
    refine lv_aload_n C0.1 C0.2.1 dX7_feed_13 rfl (lv_at hl 0 rfl) ?_
    refine gf_X7_162 C0 w hO rfl dX7_feed_14 ?_
    refine lv_bipush (v := 100) C0.1 C0.2.1 dX7_feed_17 (by decide) ?_
    refine lv_icmp_ne (tgt := 25) C0.1 C0.2.1 dX7_feed_19 (by decide) (fun c_19 => ?_) (fun c_19 => ?_)
    · skip
      have hlt : σ.2.2.1.1 < 100 := by
        rcases Nat.lt_or_ge σ.2.2.1.1 100 with h9 | h9
        · exact h9
        · exact absurd (show nI σ.2.2.1.1 = nI 100 from by rw [show σ.2.2.1.1 = 100 by omega]) c_19
      refine lv_aload_n C0.1 C0.2.1 dX7_feed_25 rfl (lv_at hl 0 rfl) ?_
      refine gf_X7_23 C0 w hO rfl dX7_feed_26 ?_
      refine lv_aload_n C0.1 C0.2.1 dX7_feed_29 rfl (lv_at hl 0 rfl) ?_
      refine gf_X7_162 C0 w hO rfl dX7_feed_30 ?_
      refine lv_iload_n C0.1 C0.2.1 dX7_feed_33 rfl (lv_at hl 1 rfl) ?_
      refine lv_i2b (v := v.toInt8.toInt32) C0.1 C0.2.1 dX7_feed_34 rfl ?_
      refine hv_bast C0 w hTx (hn_in hlt (by decide)) dX7_feed_35 (fun Hq lq w => ?_)
      have hc5 : (nI σ.2.2.1.1).toNatClampNeg = σ.2.2.1.1 := nI_clamp (by omega)
      rw [hc5] at w
      obtain ⟨V6, eV7⟩ : ∃ V9, V9 = hv_up V (mo + 10) (.inl (X.2.1 2, 100, .inl (upd (σ.2.2.1.2) (σ.2.2.1.1) (vp_nar .byte (v.toInt8.toInt32))))) := ⟨_, rfl⟩
      have w : hv_w X s V6 Hq lq := by rw [eV7]; exact w
      have hV8 : V6 mo = some (.inr (7, [.ref (mo + 1), .ref (mo + 2), .ref (mo + 3), .long ab, .long be, .ref (mo + 10), .int (nI σ.2.2.1.1), .int pl, .int cl, .ref (mo + 11), .ref (mo + 12), .ref (mo + 13), .int sg, .ref (mo + 14), .ref (mo + 15), .ref (mo + 16), .ref (mo + 17), .int (nI σ.1.2.1.1), .ref (mo + 18), .ref (mo + 19), .int (nI σ.1.2.2.1.1), .ref (mo + 20), .ref (mo + 21), .ref (mo + 22), .int (nI σ.1.2.2.2.1), .int ik, .ref (mo + 23), .ref (mo + 24), .ref (mo + 25), .ref (mo + 26), .ref (mo + 33), .ref (mo + 41), .ref (mo + 42), .ref (mo + 43)])) := by rw [eV7, hv_un (by omega)]; exact hO
      have hV9 : V6 (mo + 1) = some (.inl (X.2.1 0, 6, .inl σ.1.1.1)) := by rw [eV7, hv_un (by omega)]; exact r1
      have hV10 : V6 (mo + 2) = some (.inl (X.2.1 0, 6, .inl (fun j => nI (σ.1.1.2.1 j)))) := by rw [eV7, hv_un (by omega)]; exact r2
      have hV11 : V6 (mo + 3) = some (.inl (X.2.1 6, 6, .inr (.inr (.inr (.inr rf))))) := by rw [eV7, hv_un (by omega)]; exact r3
      have hV13 : V6 (mo + 11) = some (.inl (X.2.1 0, 12, .inl wd)) := by rw [eV7, hv_un (by omega)]; exact s1
      have hV14 : V6 (mo + 12) = some (.inl (X.2.1 0, 48, .inl td)) := by rw [eV7, hv_un (by omega)]; exact s2
      have hV15 : V6 (mo + 13) = some (.inl (X.2.1 2, 178, .inl sn)) := by rw [eV7, hv_un (by omega)]; exact s3
      have hV16 : V6 (mo + 14) = some (.inl (X.2.1 0, 3, .inl ut)) := by rw [eV7, hv_un (by omega)]; exact s4
      have hV17 : V6 (mo + 20) = some (.inl (X.2.1 0, 16, .inl kn)) := by rw [eV7, hv_un (by omega)]; exact s5
      have hV18 : V6 (mo + 15) = some (.inl (X.2.1 0, 4, .inl sf)) := by rw [eV7, hv_un (by omega)]; exact e1
      have hV19 : V6 (mo + 16) = some (.inl (X.2.1 0, 4, .inl sg9)) := by rw [eV7, hv_un (by omega)]; exact e2
      have hV20 : V6 (mo + 17) = some (.inl (X.2.1 0, 4, .inl sh)) := by rw [eV7, hv_un (by omega)]; exact e3
      have hV21 : V6 (mo + 18) = some (.inl (X.2.1 0, 8, .inl ef)) := by rw [eV7, hv_un (by omega)]; exact v1
      have hV22 : V6 (mo + 19) = some (.inl (X.2.1 0, 8, .inl eg)) := by rw [eV7, hv_un (by omega)]; exact v2
      have hV23 : V6 (mo + 21) = some (.inl (X.2.1 0, 8, .inl bf)) := by rw [eV7, hv_un (by omega)]; exact b1
      have hV24 : V6 (mo + 22) = some (.inl (X.2.1 0, 8, .inl bg)) := by rw [eV7, hv_un (by omega)]; exact b2
      have hV25 : V6 (mo + 41) = some (.inl (X.2.1 0, 6, .inl σ.2.2.2.1)) := by rw [eV7, hv_un (by omega)]; exact t1
      have hV26 : V6 (mo + 42) = some (.inl (X.2.1 0, 6, .inl (fun j => nI (σ.2.2.2.2.1 j)))) := by rw [eV7, hv_un (by omega)]; exact t2
      have hV27 : V6 (mo + 43) = some (.inl (X.2.1 7, 6, .inr (.inr (.inr (.inr tf))))) := by rw [eV7, hv_un (by omega)]; exact t3
      have hV28 : V6 (mo + 10) = some (.inl (X.2.1 2, 100, .inl (upd (σ.2.2.1.2) (σ.2.2.1.1) (vp_nar .byte (v.toInt8.toInt32))))) := by rw [eV7]; exact hv_us
      refine lv_aload_n C0.1 C0.2.1 dX7_feed_36 rfl (lv_at hl 0 rfl) ?_
      refine lv_dup C0.1 C0.2.1 dX7_feed_37 rfl ?_
      refine gf_X7_162 C0 w hV8 rfl dX7_feed_38 ?_
      refine lv_iconst (v := 1) C0.1 C0.2.1 dX7_feed_41 (by decide) ?_
      refine lv_iadd C0.1 C0.2.1 dX7_feed_42 ?_
      rw [nI_1]
      refine pf_X7_162 C0 w hV8 (by simp) dX7_feed_43 (fun Hq lq w => ?_)
      obtain ⟨V29, eV30⟩ : ∃ V9, V9 = hv_up V6 mo (.inr (7, [.ref (mo + 1), .ref (mo + 2), .ref (mo + 3), .long ab, .long be, .ref (mo + 10), .int (nI (σ.2.2.1.1 + 1)), .int pl, .int cl, .ref (mo + 11), .ref (mo + 12), .ref (mo + 13), .int sg, .ref (mo + 14), .ref (mo + 15), .ref (mo + 16), .ref (mo + 17), .int (nI σ.1.2.1.1), .ref (mo + 18), .ref (mo + 19), .int (nI σ.1.2.2.1.1), .ref (mo + 20), .ref (mo + 21), .ref (mo + 22), .int (nI σ.1.2.2.2.1), .int ik, .ref (mo + 23), .ref (mo + 24), .ref (mo + 25), .ref (mo + 26), .ref (mo + 33), .ref (mo + 41), .ref (mo + 42), .ref (mo + 43)])) := ⟨_, rfl⟩
      have w : hv_w X s V29 Hq lq := by rw [eV30]; exact w
      have hV32 : V29 (mo + 1) = some (.inl (X.2.1 0, 6, .inl σ.1.1.1)) := by rw [eV30, hv_un (by omega)]; exact hV9
      have hV33 : V29 (mo + 2) = some (.inl (X.2.1 0, 6, .inl (fun j => nI (σ.1.1.2.1 j)))) := by rw [eV30, hv_un (by omega)]; exact hV10
      have hV34 : V29 (mo + 3) = some (.inl (X.2.1 6, 6, .inr (.inr (.inr (.inr rf))))) := by rw [eV30, hv_un (by omega)]; exact hV11
      have hV35 : V29 (mo + 11) = some (.inl (X.2.1 0, 12, .inl wd)) := by rw [eV30, hv_un (by omega)]; exact hV13
      have hV36 : V29 (mo + 12) = some (.inl (X.2.1 0, 48, .inl td)) := by rw [eV30, hv_un (by omega)]; exact hV14
      have hV37 : V29 (mo + 13) = some (.inl (X.2.1 2, 178, .inl sn)) := by rw [eV30, hv_un (by omega)]; exact hV15
      have hV38 : V29 (mo + 14) = some (.inl (X.2.1 0, 3, .inl ut)) := by rw [eV30, hv_un (by omega)]; exact hV16
      have hV39 : V29 (mo + 20) = some (.inl (X.2.1 0, 16, .inl kn)) := by rw [eV30, hv_un (by omega)]; exact hV17
      have hV40 : V29 (mo + 15) = some (.inl (X.2.1 0, 4, .inl sf)) := by rw [eV30, hv_un (by omega)]; exact hV18
      have hV41 : V29 (mo + 16) = some (.inl (X.2.1 0, 4, .inl sg9)) := by rw [eV30, hv_un (by omega)]; exact hV19
      have hV42 : V29 (mo + 17) = some (.inl (X.2.1 0, 4, .inl sh)) := by rw [eV30, hv_un (by omega)]; exact hV20
      have hV43 : V29 (mo + 18) = some (.inl (X.2.1 0, 8, .inl ef)) := by rw [eV30, hv_un (by omega)]; exact hV21
      have hV44 : V29 (mo + 19) = some (.inl (X.2.1 0, 8, .inl eg)) := by rw [eV30, hv_un (by omega)]; exact hV22
      have hV45 : V29 (mo + 21) = some (.inl (X.2.1 0, 8, .inl bf)) := by rw [eV30, hv_un (by omega)]; exact hV23
      have hV46 : V29 (mo + 22) = some (.inl (X.2.1 0, 8, .inl bg)) := by rw [eV30, hv_un (by omega)]; exact hV24
      have hV47 : V29 (mo + 41) = some (.inl (X.2.1 0, 6, .inl σ.2.2.2.1)) := by rw [eV30, hv_un (by omega)]; exact hV25
      have hV48 : V29 (mo + 42) = some (.inl (X.2.1 0, 6, .inl (fun j => nI (σ.2.2.2.2.1 j)))) := by rw [eV30, hv_un (by omega)]; exact hV26
      have hV49 : V29 (mo + 43) = some (.inl (X.2.1 7, 6, .inr (.inr (.inr (.inr tf))))) := by rw [eV30, hv_un (by omega)]; exact hV27
      have hV50 : V29 (mo + 10) = some (.inl (X.2.1 2, 100, .inl (upd (σ.2.2.1.2) (σ.2.2.1.1) (vp_nar .byte (v.toInt8.toInt32))))) := by rw [eV30, hv_un (by omega)]; exact hV28
      have hV51 : V29 mo = some (.inr (7, [.ref (mo + 1), .ref (mo + 2), .ref (mo + 3), .long ab, .long be, .ref (mo + 10), .int (nI (σ.2.2.1.1 + 1)), .int pl, .int cl, .ref (mo + 11), .ref (mo + 12), .ref (mo + 13), .int sg, .ref (mo + 14), .ref (mo + 15), .ref (mo + 16), .ref (mo + 17), .int (nI σ.1.2.1.1), .ref (mo + 18), .ref (mo + 19), .int (nI σ.1.2.2.1.1), .ref (mo + 20), .ref (mo + 21), .ref (mo + 22), .int (nI σ.1.2.2.2.1), .int ik, .ref (mo + 23), .ref (mo + 24), .ref (mo + 25), .ref (mo + 26), .ref (mo + 33), .ref (mo + 41), .ref (mo + 42), .ref (mo + 43)])) := by rw [eV30]; exact hv_us
      refine lv_aload_n C0.1 C0.2.1 dX7_feed_46 rfl (lv_at hl 0 rfl) ?_
      refine gf_X7_162 C0 w hV51 rfl dX7_feed_47 ?_
      exact hv_iret C0 w hr hlk (by rw [sp_feed, if_pos hb4, if_pos hlt]; exact ⟨rfl, ⟨ab, be, pl, cl, sg, ik, (by rw [eV30]; exact hv_us), hRw.fr (fun q h7 h8 => by rw [eV30, hv_un (by omega), eV7, hv_un (by omega)]), by rw [eV30, hv_un (by omega), eV7]; exact hv_us, hSc.fr (fun q h7 h8 => by rw [eV30, hv_un (by omega), eV7, hv_un (by omega)]) (fun q h7 h8 => by rw [eV30, hv_un (by omega), eV7, hv_un (by omega)]), hSe.fr (fun q h7 h8 => by rw [eV30, hv_un (by omega), eV7, hv_un (by omega)]), hEv.fr (by rw [eV30, hv_un (by omega), eV7, hv_un (by omega)]) (by rw [eV30, hv_un (by omega), eV7, hv_un (by omega)]), hBk.fr (by rw [eV30, hv_un (by omega), eV7, hv_un (by omega)]) (by rw [eV30, hv_un (by omega), eV7, hv_un (by omega)]), hIm.fr (fun q h7 h8 => by rw [eV30, hv_un (by omega), eV7, hv_un (by omega)]), hTp.fr (fun q h7 h8 => by rw [eV30, hv_un (by omega), eV7, hv_un (by omega)])⟩, (fun q h7 => by rw [eV30, hv_un (by omega), eV7, hv_un (by omega)])⟩) dX7_feed_50
    · skip
      refine lv_bipush (v := -4) C0.1 C0.2.1 dX7_feed_22 (by decide) ?_
      exact hv_iret C0 w hr hlk (by rw [sp_feed, if_pos hb4, if_neg (fun h9 => by have h8 := (nI_eq (a := σ.2.2.1.1) (b := 100) (by omega) (by omega)).mp c_19; omega)]; exact ⟨rfl, hM, hv_out.rf⟩) dX7_feed_24
  · skip
    refine lv_if_ne (tgt := 13) C0.1 C0.2.1 dX7_feed_7 (by decide) (fun h9 => absurd h9 (by decide)) (fun _ => ?_)
    refine lv_bipush (v := -2) C0.1 C0.2.1 dX7_feed_10 (by decide) ?_
    exact hv_iret C0 w hr hlk (by rw [sp_feed, if_neg hb4]; exact ⟨rfl, hM, hv_out.rf⟩) dX7_feed_12

