set_option maxHeartbeats 4000000 in
set_option maxRecDepth 100000 in
theorem n_X7_undo {l : Launch} {X : hv_X} {V : hv_V} {mo : Nat} {σ : hs_S} (hM : okM X V mo σ) (hB : hs_b σ) (hk : σ.2.1 = none) : hv_Mi l X 220 yX7_undo cX7_undo 2 .int V [.ref mo] (fun y V1 => y = (sp_undo σ).1 ∧ okM X V1 mo (sp_undo σ).2 ∧ hv_out V V1 mo (mo + 50)) := by
  refine hv_enter (by decide) (Nat.le_of_ble_eq_true rfl) ?_
  intro p e s m below meth c ls C0 hr hlk hnm w hl
  have hl : lv_has ls 2 [(0, .ref mo)] := hl
  obtain ⟨ab, be, pl, cl, sg, ik, hO, hRw, hTx, hSc, hSe, hEv, hBk, hIm, hTp⟩ := id hM
  obtain ⟨r1, r2, ⟨rf, r3, r4⟩, r5⟩ := id hRw
  obtain ⟨⟨wd, s1⟩, ⟨td, s2⟩, ⟨sn, s3⟩, ⟨ut, s4⟩, kn, s5⟩ := id hSc
  obtain ⟨sf, sg9, sh, e1, e2, e3, ea⟩ := id hSe
  obtain ⟨ef, eg, v1, v2, va⟩ := id hEv
  obtain ⟨bf, bg, b1, b2, ba⟩ := id hBk
  obtain ⟨t1, t2, ⟨tf, t3, t4⟩, t5⟩ := id hTp
  have hbR := hB.1.1
  obtain ⟨ct, ki, ma, nf, tf2, nu, td, i1, i2, i3, ⟨i4, i5⟩, i6, ⟨i7, i8⟩, i9x, i10⟩ := id hIm
  rw [hk] at i10
  have i10 : ik = 0 := i10
  subst i10
  refine lv_aload_n C0.1 C0.2.1 dX7_undo_0 rfl (lv_at hl 0 rfl) ?_
  refine gf_X7_306 C0 w hO rfl dX7_undo_1 ?_
  refine lv_if_ne (tgt := 10) C0.1 C0.2.1 dX7_undo_4 (by decide) (fun h9 => absurd h9 (by decide)) (fun _ => ?_)
  refine lv_bipush (v := -3) C0.1 C0.2.1 dX7_undo_7 (by decide) ?_
  exact hv_iret C0 w hr hlk (by rw [show sp_undo σ = (-3, σ) from by unfold sp_undo; rw [hk]]; exact ⟨rfl, hM, hv_out.rf⟩) dX7_undo_9

set_option maxHeartbeats 16000000 in
set_option maxRecDepth 100000 in
theorem c_X7_undo {l : Launch} {X : hv_X} {V : hv_V} {mo : Nat} {σ : hs_S} (hM : okM X V mo σ) (hB : hs_b σ) {P : hs_P} (hk : σ.2.1 = some P) : hv_Mi l X 220 yX7_undo cX7_undo 2 .int V [.ref mo] (fun y V1 => y = (sp_undo σ).1 ∧ okM X V1 mo (sp_undo σ).2 ∧ hv_out V V1 mo (mo + 50)) := by
  refine hv_enter (by decide) (Nat.le_of_ble_eq_true rfl) ?_
  intro p e s m below meth c ls C0 hr hlk hnm w hl
  have hl : lv_has ls 2 [(0, .ref mo)] := hl
  obtain ⟨ab, be, pl, cl, sg, ik, hO, hRw, hTx, hSc, hSe, hEv, hBk, hIm, hTp⟩ := id hM
  obtain ⟨r1, r2, ⟨rf, r3, r4⟩, r5⟩ := id hRw
  obtain ⟨⟨wd, s1⟩, ⟨td, s2⟩, ⟨sn, s3⟩, ⟨ut, s4⟩, kn, s5⟩ := id hSc
  obtain ⟨sf, sg9, sh, e1, e2, e3, ea⟩ := id hSe
  obtain ⟨ef, eg, v1, v2, va⟩ := id hEv
  obtain ⟨bf, bg, b1, b2, ba⟩ := id hBk
  obtain ⟨t1, t2, ⟨tf, t3, t4⟩, t5⟩ := id hTp
  have hbR := hB.1.1
  obtain ⟨ct, ki, ma, nf, tf2, nu, td, i1, i2, i3, ⟨i4, i5⟩, i6, ⟨i7, i8⟩, i9x, i10⟩ := id hIm
  rw [hk] at i10
  obtain ⟨rfl, ⟨c0, c1, c2⟩, hk6, hs3, he2, hb2⟩ := i10
  have hIm2 : om_img X V mo (some P) 1 := hk ▸ hIm
  have nr0 : V (mo + 4 + 0) = some (nE X (σ.1.1.2.2 0)) := r5 0 (by decide)
  have ir0 : V (mo + 27 + 0) = some (nE X (nu 0)) := i6 0 (by decide)
  have nr1 : V (mo + 4 + 1) = some (nE X (σ.1.1.2.2 1)) := r5 1 (by decide)
  have ir1 : V (mo + 27 + 1) = some (nE X (nu 1)) := i6 1 (by decide)
  have nr2 : V (mo + 4 + 2) = some (nE X (σ.1.1.2.2 2)) := r5 2 (by decide)
  have ir2 : V (mo + 27 + 2) = some (nE X (nu 2)) := i6 2 (by decide)
  have nr3 : V (mo + 4 + 3) = some (nE X (σ.1.1.2.2 3)) := r5 3 (by decide)
  have ir3 : V (mo + 27 + 3) = some (nE X (nu 3)) := i6 3 (by decide)
  have nr4 : V (mo + 4 + 4) = some (nE X (σ.1.1.2.2 4)) := r5 4 (by decide)
  have ir4 : V (mo + 27 + 4) = some (nE X (nu 4)) := i6 4 (by decide)
  have nr5 : V (mo + 4 + 5) = some (nE X (σ.1.1.2.2 5)) := r5 5 (by decide)
  have ir5 : V (mo + 27 + 5) = some (nE X (nu 5)) := i6 5 (by decide)
  have it0 : V (mo + 34 + 0) = some (iE X 8 (td 0)) := i9x 0 (by decide)
  have it1 : V (mo + 34 + 1) = some (iE X 8 (td 1)) := i9x 1 (by decide)
  have it2 : V (mo + 34 + 2) = some (iE X 8 (td 2)) := i9x 2 (by decide)
  have it3 : V (mo + 34 + 3) = some (iE X 8 (td 3)) := i9x 3 (by decide)
  have it4 : V (mo + 34 + 4) = some (iE X 8 (td 4)) := i9x 4 (by decide)
  have it5 : V (mo + 34 + 5) = some (iE X 8 (td 5)) := i9x 5 (by decide)
  have it6 : V (mo + 34 + 6) = some (iE X 8 (td 6)) := i9x 6 (by decide)
  have hb4 := (hB.2.1 P hk).2.1.1
  have hb8 := (hB.2.1 P hk).2.2.1.1
  have hb9 := (hB.2.1 P hk).2.2.2.1

  refine lv_aload_n C0.1 C0.2.1 dX7_undo_0 rfl (lv_at hl 0 rfl) ?_
  refine gf_X7_306 C0 w hO rfl dX7_undo_1 ?_
  refine lv_if_ne (tgt := 10) C0.1 C0.2.1 dX7_undo_4 (by decide) (fun _ => ?_) (fun h9 => absurd h9 (by decide))
  refine lv_aload_n C0.1 C0.2.1 dX7_undo_10 rfl (lv_at hl 0 rfl) ?_
  refine lv_aload_n C0.1 C0.2.1 dX7_undo_11 rfl (lv_at hl 0 rfl) ?_
  refine gf_X7_63 C0 w hO rfl dX7_undo_12 ?_
  refine lv_iconst (v := 0) C0.1 C0.2.1 dX7_undo_15 (by decide) ?_
  refine hv_iald C0 w i1 (hn_in (n := 0) (by decide) (by decide)) dX7_undo_16 ?_
  have hc9 : (0 : Int32).toNatClampNeg = 0 := by decide
  rw [hc9]; clear hc9
  rw [c0]
  refine pf_X7_275 C0 w hO (by simp) dX7_undo_17 (fun Hq lq w => ?_)
  obtain ⟨V1, eV2⟩ : ∃ W9, W9 = hv_up V mo (.inr (7, [.ref (mo + 1), .ref (mo + 2), .ref (mo + 3), .long ab, .long be, .ref (mo + 10), .int (nI σ.2.2.1.1), .int pl, .int cl, .ref (mo + 11), .ref (mo + 12), .ref (mo + 13), .int sg, .ref (mo + 14), .ref (mo + 15), .ref (mo + 16), .ref (mo + 17), .int (nI P.2.1.1), .ref (mo + 18), .ref (mo + 19), .int (nI σ.1.2.2.1.1), .ref (mo + 20), .ref (mo + 21), .ref (mo + 22), .int (nI σ.1.2.2.2.1), .int 1, .ref (mo + 23), .ref (mo + 24), .ref (mo + 25), .ref (mo + 26), .ref (mo + 33), .ref (mo + 41), .ref (mo + 42), .ref (mo + 43)])) := ⟨_, rfl⟩
  have w : hv_w X s V1 Hq lq := by rw [eV2]; exact w
  have hV4 : V1 (mo + 1) = some (.inl (X.2.1 0, 6, .inl σ.1.1.1)) := by rw [eV2, hv_un (by omega)]; exact r1
  have hV5 : V1 (mo + 2) = some (.inl (X.2.1 0, 6, .inl (fun j => nI (σ.1.1.2.1 j)))) := by rw [eV2, hv_un (by omega)]; exact r2
  have hV6 : V1 (mo + 3) = some (.inl (X.2.1 6, 6, .inr (.inr (.inr (.inr rf))))) := by rw [eV2, hv_un (by omega)]; exact r3
  have hV7 : V1 (mo + 15) = some (.inl (X.2.1 0, 4, .inl sf)) := by rw [eV2, hv_un (by omega)]; exact e1
  have hV8 : V1 (mo + 16) = some (.inl (X.2.1 0, 4, .inl sg9)) := by rw [eV2, hv_un (by omega)]; exact e2
  have hV9 : V1 (mo + 17) = some (.inl (X.2.1 0, 4, .inl sh)) := by rw [eV2, hv_un (by omega)]; exact e3
  have hV10 : V1 (mo + 18) = some (.inl (X.2.1 0, 8, .inl ef)) := by rw [eV2, hv_un (by omega)]; exact v1
  have hV11 : V1 (mo + 19) = some (.inl (X.2.1 0, 8, .inl eg)) := by rw [eV2, hv_un (by omega)]; exact v2
  have hV12 : V1 (mo + 21) = some (.inl (X.2.1 0, 8, .inl bf)) := by rw [eV2, hv_un (by omega)]; exact b1
  have hV13 : V1 (mo + 22) = some (.inl (X.2.1 0, 8, .inl bg)) := by rw [eV2, hv_un (by omega)]; exact b2
  have hV14 : V1 (mo + 4 + 0) = some (.inl (X.2.1 0, 16, .inl (σ.1.1.2.2 0))) := by rw [eV2, hv_un (by omega)]; exact nr0
  have hV15 : V1 (mo + 27 + 0) = some (.inl (X.2.1 0, 16, .inl (nu 0))) := by rw [eV2, hv_un (by omega)]; exact ir0
  have hV16 : V1 (mo + 4 + 1) = some (.inl (X.2.1 0, 16, .inl (σ.1.1.2.2 1))) := by rw [eV2, hv_un (by omega)]; exact nr1
  have hV17 : V1 (mo + 27 + 1) = some (.inl (X.2.1 0, 16, .inl (nu 1))) := by rw [eV2, hv_un (by omega)]; exact ir1
  have hV18 : V1 (mo + 4 + 2) = some (.inl (X.2.1 0, 16, .inl (σ.1.1.2.2 2))) := by rw [eV2, hv_un (by omega)]; exact nr2
  have hV19 : V1 (mo + 27 + 2) = some (.inl (X.2.1 0, 16, .inl (nu 2))) := by rw [eV2, hv_un (by omega)]; exact ir2
  have hV20 : V1 (mo + 4 + 3) = some (.inl (X.2.1 0, 16, .inl (σ.1.1.2.2 3))) := by rw [eV2, hv_un (by omega)]; exact nr3
  have hV21 : V1 (mo + 27 + 3) = some (.inl (X.2.1 0, 16, .inl (nu 3))) := by rw [eV2, hv_un (by omega)]; exact ir3
  have hV22 : V1 (mo + 4 + 4) = some (.inl (X.2.1 0, 16, .inl (σ.1.1.2.2 4))) := by rw [eV2, hv_un (by omega)]; exact nr4
  have hV23 : V1 (mo + 27 + 4) = some (.inl (X.2.1 0, 16, .inl (nu 4))) := by rw [eV2, hv_un (by omega)]; exact ir4
  have hV24 : V1 (mo + 4 + 5) = some (.inl (X.2.1 0, 16, .inl (σ.1.1.2.2 5))) := by rw [eV2, hv_un (by omega)]; exact nr5
  have hV25 : V1 (mo + 27 + 5) = some (.inl (X.2.1 0, 16, .inl (nu 5))) := by rw [eV2, hv_un (by omega)]; exact ir5
  have hV26 : V1 (mo + 23) = some (.inl (X.2.1 0, 3, .inl ct)) := by rw [eV2, hv_un (by omega)]; exact i1
  have hV27 : V1 (mo + 24) = some (.inl (X.2.1 0, 6, .inl ki)) := by rw [eV2, hv_un (by omega)]; exact i2
  have hV28 : V1 (mo + 25) = some (.inl (X.2.1 0, 6, .inl ma)) := by rw [eV2, hv_un (by omega)]; exact i3
  have hV29 : V1 (mo + 26) = some (.inl (X.2.1 6, 6, .inr (.inr (.inr (.inr nf))))) := by rw [eV2, hv_un (by omega)]; exact i4
  have hV30 : V1 (mo + 33) = some (.inl (X.2.1 6, 7, .inr (.inr (.inr (.inr tf2))))) := by rw [eV2, hv_un (by omega)]; exact i7
  have hV31 : V1 (mo + 34 + 0) = some (.inl (X.2.1 0, 8, .inl (td 0))) := by rw [eV2, hv_un (by omega)]; exact it0
  have hV32 : V1 (mo + 34 + 1) = some (.inl (X.2.1 0, 8, .inl (td 1))) := by rw [eV2, hv_un (by omega)]; exact it1
  have hV33 : V1 (mo + 34 + 2) = some (.inl (X.2.1 0, 8, .inl (td 2))) := by rw [eV2, hv_un (by omega)]; exact it2
  have hV34 : V1 (mo + 34 + 3) = some (.inl (X.2.1 0, 8, .inl (td 3))) := by rw [eV2, hv_un (by omega)]; exact it3
  have hV35 : V1 (mo + 34 + 4) = some (.inl (X.2.1 0, 8, .inl (td 4))) := by rw [eV2, hv_un (by omega)]; exact it4
  have hV36 : V1 (mo + 34 + 5) = some (.inl (X.2.1 0, 8, .inl (td 5))) := by rw [eV2, hv_un (by omega)]; exact it5
  have hV37 : V1 (mo + 34 + 6) = some (.inl (X.2.1 0, 8, .inl (td 6))) := by rw [eV2, hv_un (by omega)]; exact it6
  have hV38 : V1 mo = some (.inr (7, [.ref (mo + 1), .ref (mo + 2), .ref (mo + 3), .long ab, .long be, .ref (mo + 10), .int (nI σ.2.2.1.1), .int pl, .int cl, .ref (mo + 11), .ref (mo + 12), .ref (mo + 13), .int sg, .ref (mo + 14), .ref (mo + 15), .ref (mo + 16), .ref (mo + 17), .int (nI P.2.1.1), .ref (mo + 18), .ref (mo + 19), .int (nI σ.1.2.2.1.1), .ref (mo + 20), .ref (mo + 21), .ref (mo + 22), .int (nI σ.1.2.2.2.1), .int 1, .ref (mo + 23), .ref (mo + 24), .ref (mo + 25), .ref (mo + 26), .ref (mo + 33), .ref (mo + 41), .ref (mo + 42), .ref (mo + 43)])) := by rw [eV2]; exact hv_us
  refine lv_aload_n C0.1 C0.2.1 dX7_undo_20 rfl (lv_at hl 0 rfl) ?_
  refine lv_aload_n C0.1 C0.2.1 dX7_undo_21 rfl (lv_at hl 0 rfl) ?_
  refine gf_X7_63 C0 w hV38 rfl dX7_undo_22 ?_
  refine lv_iconst (v := 1) C0.1 C0.2.1 dX7_undo_25 (by decide) ?_
  refine hv_iald C0 w hV26 (hn_in (n := 1) (by decide) (by decide)) dX7_undo_26 ?_
  have hc9 : (1 : Int32).toNatClampNeg = 1 := by decide
  rw [hc9]; clear hc9
  rw [c1]
  refine pf_X7_285 C0 w hV38 (by simp) dX7_undo_27 (fun Hq lq w => ?_)
  obtain ⟨V39, eV40⟩ : ∃ W9, W9 = hv_up V1 mo (.inr (7, [.ref (mo + 1), .ref (mo + 2), .ref (mo + 3), .long ab, .long be, .ref (mo + 10), .int (nI σ.2.2.1.1), .int pl, .int cl, .ref (mo + 11), .ref (mo + 12), .ref (mo + 13), .int sg, .ref (mo + 14), .ref (mo + 15), .ref (mo + 16), .ref (mo + 17), .int (nI P.2.1.1), .ref (mo + 18), .ref (mo + 19), .int (nI P.2.2.1.1), .ref (mo + 20), .ref (mo + 21), .ref (mo + 22), .int (nI σ.1.2.2.2.1), .int 1, .ref (mo + 23), .ref (mo + 24), .ref (mo + 25), .ref (mo + 26), .ref (mo + 33), .ref (mo + 41), .ref (mo + 42), .ref (mo + 43)])) := ⟨_, rfl⟩
  have w : hv_w X s V39 Hq lq := by rw [eV40]; exact w
  have hV41 : V39 (mo + 1) = some (.inl (X.2.1 0, 6, .inl σ.1.1.1)) := by rw [eV40, hv_un (by omega)]; exact hV4
  have hV42 : V39 (mo + 2) = some (.inl (X.2.1 0, 6, .inl (fun j => nI (σ.1.1.2.1 j)))) := by rw [eV40, hv_un (by omega)]; exact hV5
  have hV43 : V39 (mo + 3) = some (.inl (X.2.1 6, 6, .inr (.inr (.inr (.inr rf))))) := by rw [eV40, hv_un (by omega)]; exact hV6
  have hV44 : V39 (mo + 15) = some (.inl (X.2.1 0, 4, .inl sf)) := by rw [eV40, hv_un (by omega)]; exact hV7
  have hV45 : V39 (mo + 16) = some (.inl (X.2.1 0, 4, .inl sg9)) := by rw [eV40, hv_un (by omega)]; exact hV8
  have hV46 : V39 (mo + 17) = some (.inl (X.2.1 0, 4, .inl sh)) := by rw [eV40, hv_un (by omega)]; exact hV9
  have hV47 : V39 (mo + 18) = some (.inl (X.2.1 0, 8, .inl ef)) := by rw [eV40, hv_un (by omega)]; exact hV10
  have hV48 : V39 (mo + 19) = some (.inl (X.2.1 0, 8, .inl eg)) := by rw [eV40, hv_un (by omega)]; exact hV11
  have hV49 : V39 (mo + 21) = some (.inl (X.2.1 0, 8, .inl bf)) := by rw [eV40, hv_un (by omega)]; exact hV12
  have hV50 : V39 (mo + 22) = some (.inl (X.2.1 0, 8, .inl bg)) := by rw [eV40, hv_un (by omega)]; exact hV13
  have hV51 : V39 (mo + 4 + 0) = some (.inl (X.2.1 0, 16, .inl (σ.1.1.2.2 0))) := by rw [eV40, hv_un (by omega)]; exact hV14
  have hV52 : V39 (mo + 27 + 0) = some (.inl (X.2.1 0, 16, .inl (nu 0))) := by rw [eV40, hv_un (by omega)]; exact hV15
  have hV53 : V39 (mo + 4 + 1) = some (.inl (X.2.1 0, 16, .inl (σ.1.1.2.2 1))) := by rw [eV40, hv_un (by omega)]; exact hV16
  have hV54 : V39 (mo + 27 + 1) = some (.inl (X.2.1 0, 16, .inl (nu 1))) := by rw [eV40, hv_un (by omega)]; exact hV17
  have hV55 : V39 (mo + 4 + 2) = some (.inl (X.2.1 0, 16, .inl (σ.1.1.2.2 2))) := by rw [eV40, hv_un (by omega)]; exact hV18
  have hV56 : V39 (mo + 27 + 2) = some (.inl (X.2.1 0, 16, .inl (nu 2))) := by rw [eV40, hv_un (by omega)]; exact hV19
  have hV57 : V39 (mo + 4 + 3) = some (.inl (X.2.1 0, 16, .inl (σ.1.1.2.2 3))) := by rw [eV40, hv_un (by omega)]; exact hV20
  have hV58 : V39 (mo + 27 + 3) = some (.inl (X.2.1 0, 16, .inl (nu 3))) := by rw [eV40, hv_un (by omega)]; exact hV21
  have hV59 : V39 (mo + 4 + 4) = some (.inl (X.2.1 0, 16, .inl (σ.1.1.2.2 4))) := by rw [eV40, hv_un (by omega)]; exact hV22
  have hV60 : V39 (mo + 27 + 4) = some (.inl (X.2.1 0, 16, .inl (nu 4))) := by rw [eV40, hv_un (by omega)]; exact hV23
  have hV61 : V39 (mo + 4 + 5) = some (.inl (X.2.1 0, 16, .inl (σ.1.1.2.2 5))) := by rw [eV40, hv_un (by omega)]; exact hV24
  have hV62 : V39 (mo + 27 + 5) = some (.inl (X.2.1 0, 16, .inl (nu 5))) := by rw [eV40, hv_un (by omega)]; exact hV25
  have hV63 : V39 (mo + 23) = some (.inl (X.2.1 0, 3, .inl ct)) := by rw [eV40, hv_un (by omega)]; exact hV26
  have hV64 : V39 (mo + 24) = some (.inl (X.2.1 0, 6, .inl ki)) := by rw [eV40, hv_un (by omega)]; exact hV27
  have hV65 : V39 (mo + 25) = some (.inl (X.2.1 0, 6, .inl ma)) := by rw [eV40, hv_un (by omega)]; exact hV28
  have hV66 : V39 (mo + 26) = some (.inl (X.2.1 6, 6, .inr (.inr (.inr (.inr nf))))) := by rw [eV40, hv_un (by omega)]; exact hV29
  have hV67 : V39 (mo + 33) = some (.inl (X.2.1 6, 7, .inr (.inr (.inr (.inr tf2))))) := by rw [eV40, hv_un (by omega)]; exact hV30
  have hV68 : V39 (mo + 34 + 0) = some (.inl (X.2.1 0, 8, .inl (td 0))) := by rw [eV40, hv_un (by omega)]; exact hV31
  have hV69 : V39 (mo + 34 + 1) = some (.inl (X.2.1 0, 8, .inl (td 1))) := by rw [eV40, hv_un (by omega)]; exact hV32
  have hV70 : V39 (mo + 34 + 2) = some (.inl (X.2.1 0, 8, .inl (td 2))) := by rw [eV40, hv_un (by omega)]; exact hV33
  have hV71 : V39 (mo + 34 + 3) = some (.inl (X.2.1 0, 8, .inl (td 3))) := by rw [eV40, hv_un (by omega)]; exact hV34
  have hV72 : V39 (mo + 34 + 4) = some (.inl (X.2.1 0, 8, .inl (td 4))) := by rw [eV40, hv_un (by omega)]; exact hV35
  have hV73 : V39 (mo + 34 + 5) = some (.inl (X.2.1 0, 8, .inl (td 5))) := by rw [eV40, hv_un (by omega)]; exact hV36
  have hV74 : V39 (mo + 34 + 6) = some (.inl (X.2.1 0, 8, .inl (td 6))) := by rw [eV40, hv_un (by omega)]; exact hV37
  have hV76 : V39 mo = some (.inr (7, [.ref (mo + 1), .ref (mo + 2), .ref (mo + 3), .long ab, .long be, .ref (mo + 10), .int (nI σ.2.2.1.1), .int pl, .int cl, .ref (mo + 11), .ref (mo + 12), .ref (mo + 13), .int sg, .ref (mo + 14), .ref (mo + 15), .ref (mo + 16), .ref (mo + 17), .int (nI P.2.1.1), .ref (mo + 18), .ref (mo + 19), .int (nI P.2.2.1.1), .ref (mo + 20), .ref (mo + 21), .ref (mo + 22), .int (nI σ.1.2.2.2.1), .int 1, .ref (mo + 23), .ref (mo + 24), .ref (mo + 25), .ref (mo + 26), .ref (mo + 33), .ref (mo + 41), .ref (mo + 42), .ref (mo + 43)])) := by rw [eV40]; exact hv_us
  clear hV4 hV5 hV6 hV7 hV8 hV9 hV10 hV11 hV12 hV13 hV14 hV15 hV16 hV17 hV18 hV19 hV20 hV21 hV22 hV23 hV24 hV25 hV26 hV27 hV28 hV29 hV30 hV31 hV32 hV33 hV34 hV35 hV36 hV37 hV38
  refine lv_aload_n C0.1 C0.2.1 dX7_undo_30 rfl (lv_at hl 0 rfl) ?_
  refine lv_aload_n C0.1 C0.2.1 dX7_undo_31 rfl (lv_at hl 0 rfl) ?_
  refine gf_X7_63 C0 w hV76 rfl dX7_undo_32 ?_
  refine lv_iconst (v := 2) C0.1 C0.2.1 dX7_undo_35 (by decide) ?_
  refine hv_iald C0 w hV63 (hn_in (n := 2) (by decide) (by decide)) dX7_undo_36 ?_
  have hc9 : (2 : Int32).toNatClampNeg = 2 := by decide
  rw [hc9]; clear hc9
  rw [c2]
  refine pf_X7_297 C0 w hV76 (by simp) dX7_undo_37 (fun Hq lq w => ?_)
  obtain ⟨V77, eV78⟩ : ∃ W9, W9 = hv_up V39 mo (.inr (7, [.ref (mo + 1), .ref (mo + 2), .ref (mo + 3), .long ab, .long be, .ref (mo + 10), .int (nI σ.2.2.1.1), .int pl, .int cl, .ref (mo + 11), .ref (mo + 12), .ref (mo + 13), .int sg, .ref (mo + 14), .ref (mo + 15), .ref (mo + 16), .ref (mo + 17), .int (nI P.2.1.1), .ref (mo + 18), .ref (mo + 19), .int (nI P.2.2.1.1), .ref (mo + 20), .ref (mo + 21), .ref (mo + 22), .int (nI P.2.2.2.1), .int 1, .ref (mo + 23), .ref (mo + 24), .ref (mo + 25), .ref (mo + 26), .ref (mo + 33), .ref (mo + 41), .ref (mo + 42), .ref (mo + 43)])) := ⟨_, rfl⟩
  have w : hv_w X s V77 Hq lq := by rw [eV78]; exact w
  have hV79 : V77 (mo + 1) = some (.inl (X.2.1 0, 6, .inl σ.1.1.1)) := by rw [eV78, hv_un (by omega)]; exact hV41
  have hV80 : V77 (mo + 2) = some (.inl (X.2.1 0, 6, .inl (fun j => nI (σ.1.1.2.1 j)))) := by rw [eV78, hv_un (by omega)]; exact hV42
  have hV81 : V77 (mo + 3) = some (.inl (X.2.1 6, 6, .inr (.inr (.inr (.inr rf))))) := by rw [eV78, hv_un (by omega)]; exact hV43
  have hV82 : V77 (mo + 15) = some (.inl (X.2.1 0, 4, .inl sf)) := by rw [eV78, hv_un (by omega)]; exact hV44
  have hV83 : V77 (mo + 16) = some (.inl (X.2.1 0, 4, .inl sg9)) := by rw [eV78, hv_un (by omega)]; exact hV45
  have hV84 : V77 (mo + 17) = some (.inl (X.2.1 0, 4, .inl sh)) := by rw [eV78, hv_un (by omega)]; exact hV46
  have hV85 : V77 (mo + 18) = some (.inl (X.2.1 0, 8, .inl ef)) := by rw [eV78, hv_un (by omega)]; exact hV47
  have hV86 : V77 (mo + 19) = some (.inl (X.2.1 0, 8, .inl eg)) := by rw [eV78, hv_un (by omega)]; exact hV48
  have hV87 : V77 (mo + 21) = some (.inl (X.2.1 0, 8, .inl bf)) := by rw [eV78, hv_un (by omega)]; exact hV49
  have hV88 : V77 (mo + 22) = some (.inl (X.2.1 0, 8, .inl bg)) := by rw [eV78, hv_un (by omega)]; exact hV50
  have hV89 : V77 (mo + 4 + 0) = some (.inl (X.2.1 0, 16, .inl (σ.1.1.2.2 0))) := by rw [eV78, hv_un (by omega)]; exact hV51
  have hV90 : V77 (mo + 27 + 0) = some (.inl (X.2.1 0, 16, .inl (nu 0))) := by rw [eV78, hv_un (by omega)]; exact hV52
  have hV91 : V77 (mo + 4 + 1) = some (.inl (X.2.1 0, 16, .inl (σ.1.1.2.2 1))) := by rw [eV78, hv_un (by omega)]; exact hV53
  have hV92 : V77 (mo + 27 + 1) = some (.inl (X.2.1 0, 16, .inl (nu 1))) := by rw [eV78, hv_un (by omega)]; exact hV54
  have hV93 : V77 (mo + 4 + 2) = some (.inl (X.2.1 0, 16, .inl (σ.1.1.2.2 2))) := by rw [eV78, hv_un (by omega)]; exact hV55
  have hV94 : V77 (mo + 27 + 2) = some (.inl (X.2.1 0, 16, .inl (nu 2))) := by rw [eV78, hv_un (by omega)]; exact hV56
  have hV95 : V77 (mo + 4 + 3) = some (.inl (X.2.1 0, 16, .inl (σ.1.1.2.2 3))) := by rw [eV78, hv_un (by omega)]; exact hV57
  have hV96 : V77 (mo + 27 + 3) = some (.inl (X.2.1 0, 16, .inl (nu 3))) := by rw [eV78, hv_un (by omega)]; exact hV58
  have hV97 : V77 (mo + 4 + 4) = some (.inl (X.2.1 0, 16, .inl (σ.1.1.2.2 4))) := by rw [eV78, hv_un (by omega)]; exact hV59
  have hV98 : V77 (mo + 27 + 4) = some (.inl (X.2.1 0, 16, .inl (nu 4))) := by rw [eV78, hv_un (by omega)]; exact hV60
  have hV99 : V77 (mo + 4 + 5) = some (.inl (X.2.1 0, 16, .inl (σ.1.1.2.2 5))) := by rw [eV78, hv_un (by omega)]; exact hV61
  have hV100 : V77 (mo + 27 + 5) = some (.inl (X.2.1 0, 16, .inl (nu 5))) := by rw [eV78, hv_un (by omega)]; exact hV62
  have hV101 : V77 (mo + 23) = some (.inl (X.2.1 0, 3, .inl ct)) := by rw [eV78, hv_un (by omega)]; exact hV63
  have hV102 : V77 (mo + 24) = some (.inl (X.2.1 0, 6, .inl ki)) := by rw [eV78, hv_un (by omega)]; exact hV64
  have hV103 : V77 (mo + 25) = some (.inl (X.2.1 0, 6, .inl ma)) := by rw [eV78, hv_un (by omega)]; exact hV65
  have hV104 : V77 (mo + 26) = some (.inl (X.2.1 6, 6, .inr (.inr (.inr (.inr nf))))) := by rw [eV78, hv_un (by omega)]; exact hV66
  have hV105 : V77 (mo + 33) = some (.inl (X.2.1 6, 7, .inr (.inr (.inr (.inr tf2))))) := by rw [eV78, hv_un (by omega)]; exact hV67
  have hV106 : V77 (mo + 34 + 0) = some (.inl (X.2.1 0, 8, .inl (td 0))) := by rw [eV78, hv_un (by omega)]; exact hV68
  have hV107 : V77 (mo + 34 + 1) = some (.inl (X.2.1 0, 8, .inl (td 1))) := by rw [eV78, hv_un (by omega)]; exact hV69
  have hV108 : V77 (mo + 34 + 2) = some (.inl (X.2.1 0, 8, .inl (td 2))) := by rw [eV78, hv_un (by omega)]; exact hV70
  have hV109 : V77 (mo + 34 + 3) = some (.inl (X.2.1 0, 8, .inl (td 3))) := by rw [eV78, hv_un (by omega)]; exact hV71
  have hV110 : V77 (mo + 34 + 4) = some (.inl (X.2.1 0, 8, .inl (td 4))) := by rw [eV78, hv_un (by omega)]; exact hV72
  have hV111 : V77 (mo + 34 + 5) = some (.inl (X.2.1 0, 8, .inl (td 5))) := by rw [eV78, hv_un (by omega)]; exact hV73
  have hV112 : V77 (mo + 34 + 6) = some (.inl (X.2.1 0, 8, .inl (td 6))) := by rw [eV78, hv_un (by omega)]; exact hV74
  have hV114 : V77 mo = some (.inr (7, [.ref (mo + 1), .ref (mo + 2), .ref (mo + 3), .long ab, .long be, .ref (mo + 10), .int (nI σ.2.2.1.1), .int pl, .int cl, .ref (mo + 11), .ref (mo + 12), .ref (mo + 13), .int sg, .ref (mo + 14), .ref (mo + 15), .ref (mo + 16), .ref (mo + 17), .int (nI P.2.1.1), .ref (mo + 18), .ref (mo + 19), .int (nI P.2.2.1.1), .ref (mo + 20), .ref (mo + 21), .ref (mo + 22), .int (nI P.2.2.2.1), .int 1, .ref (mo + 23), .ref (mo + 24), .ref (mo + 25), .ref (mo + 26), .ref (mo + 33), .ref (mo + 41), .ref (mo + 42), .ref (mo + 43)])) := by rw [eV78]; exact hv_us
  clear hV41 hV42 hV43 hV44 hV45 hV46 hV47 hV48 hV49 hV50 hV51 hV52 hV53 hV54 hV55 hV56 hV57 hV58 hV59 hV60 hV61 hV62 hV63 hV64 hV65 hV66 hV67 hV68 hV69 hV70 hV71 hV72 hV73 hV74 hV76
  refine lv_aload_n C0.1 C0.2.1 dX7_undo_40 rfl (lv_at hl 0 rfl) ?_
  refine gf_X7_66 C0 w hV114 rfl dX7_undo_41 ?_
  refine lv_iconst (v := 0) C0.1 C0.2.1 dX7_undo_44 (by decide) ?_
  refine lv_aload_n C0.1 C0.2.1 dX7_undo_45 rfl (lv_at hl 0 rfl) ?_
  refine gf_X7_11 C0 w hV114 rfl dX7_undo_46 ?_
  refine lv_iconst (v := 0) C0.1 C0.2.1 dX7_undo_49 (by decide) ?_
  refine lv_bipush (v := 6) C0.1 C0.2.1 dX7_undo_50 (by decide) ?_
  refine hv_copyi C0 w hl.1 kj_X7_148 hV102 hV79 (by decide) (by decide) (by decide) (by decide) (by decide) (by decide) (Nat.le_of_ble_eq_true rfl) dX7_undo_52 (fun Hq lq w => ?_)
  have w := hv_w.as (a := mo + 1) (n := 6) (f := va_cpy ki (σ.1.1.1) 0 0 6) (g := P.1.1) w hv_us (fun i9 hi9 => by rw [im_cp hi9]; exact (hk6 i9 hi9).1)
  rw [hv_uu] at w
  obtain ⟨V115, eV116⟩ : ∃ W9, W9 = hv_up V77 (mo + 1) (.inl (X.2.1 0, 6, .inl P.1.1)) := ⟨_, rfl⟩
  have w : hv_w X s V115 Hq lq := by rw [eV116]; exact w
  have hV118 : V115 (mo + 2) = some (.inl (X.2.1 0, 6, .inl (fun j => nI (σ.1.1.2.1 j)))) := by rw [eV116, hv_un (by omega)]; exact hV80
  have hV119 : V115 (mo + 3) = some (.inl (X.2.1 6, 6, .inr (.inr (.inr (.inr rf))))) := by rw [eV116, hv_un (by omega)]; exact hV81
  have hV120 : V115 (mo + 15) = some (.inl (X.2.1 0, 4, .inl sf)) := by rw [eV116, hv_un (by omega)]; exact hV82
  have hV121 : V115 (mo + 16) = some (.inl (X.2.1 0, 4, .inl sg9)) := by rw [eV116, hv_un (by omega)]; exact hV83
  have hV122 : V115 (mo + 17) = some (.inl (X.2.1 0, 4, .inl sh)) := by rw [eV116, hv_un (by omega)]; exact hV84
  have hV123 : V115 (mo + 18) = some (.inl (X.2.1 0, 8, .inl ef)) := by rw [eV116, hv_un (by omega)]; exact hV85
  have hV124 : V115 (mo + 19) = some (.inl (X.2.1 0, 8, .inl eg)) := by rw [eV116, hv_un (by omega)]; exact hV86
  have hV125 : V115 (mo + 21) = some (.inl (X.2.1 0, 8, .inl bf)) := by rw [eV116, hv_un (by omega)]; exact hV87
  have hV126 : V115 (mo + 22) = some (.inl (X.2.1 0, 8, .inl bg)) := by rw [eV116, hv_un (by omega)]; exact hV88
  have hV127 : V115 (mo + 4 + 0) = some (.inl (X.2.1 0, 16, .inl (σ.1.1.2.2 0))) := by rw [eV116, hv_un (by omega)]; exact hV89
  have hV128 : V115 (mo + 27 + 0) = some (.inl (X.2.1 0, 16, .inl (nu 0))) := by rw [eV116, hv_un (by omega)]; exact hV90
  have hV129 : V115 (mo + 4 + 1) = some (.inl (X.2.1 0, 16, .inl (σ.1.1.2.2 1))) := by rw [eV116, hv_un (by omega)]; exact hV91
  have hV130 : V115 (mo + 27 + 1) = some (.inl (X.2.1 0, 16, .inl (nu 1))) := by rw [eV116, hv_un (by omega)]; exact hV92
  have hV131 : V115 (mo + 4 + 2) = some (.inl (X.2.1 0, 16, .inl (σ.1.1.2.2 2))) := by rw [eV116, hv_un (by omega)]; exact hV93
  have hV132 : V115 (mo + 27 + 2) = some (.inl (X.2.1 0, 16, .inl (nu 2))) := by rw [eV116, hv_un (by omega)]; exact hV94
  have hV133 : V115 (mo + 4 + 3) = some (.inl (X.2.1 0, 16, .inl (σ.1.1.2.2 3))) := by rw [eV116, hv_un (by omega)]; exact hV95
  have hV134 : V115 (mo + 27 + 3) = some (.inl (X.2.1 0, 16, .inl (nu 3))) := by rw [eV116, hv_un (by omega)]; exact hV96
  have hV135 : V115 (mo + 4 + 4) = some (.inl (X.2.1 0, 16, .inl (σ.1.1.2.2 4))) := by rw [eV116, hv_un (by omega)]; exact hV97
  have hV136 : V115 (mo + 27 + 4) = some (.inl (X.2.1 0, 16, .inl (nu 4))) := by rw [eV116, hv_un (by omega)]; exact hV98
  have hV137 : V115 (mo + 4 + 5) = some (.inl (X.2.1 0, 16, .inl (σ.1.1.2.2 5))) := by rw [eV116, hv_un (by omega)]; exact hV99
  have hV138 : V115 (mo + 27 + 5) = some (.inl (X.2.1 0, 16, .inl (nu 5))) := by rw [eV116, hv_un (by omega)]; exact hV100
  have hV139 : V115 (mo + 23) = some (.inl (X.2.1 0, 3, .inl ct)) := by rw [eV116, hv_un (by omega)]; exact hV101
  have hV140 : V115 (mo + 24) = some (.inl (X.2.1 0, 6, .inl ki)) := by rw [eV116, hv_un (by omega)]; exact hV102
  have hV141 : V115 (mo + 25) = some (.inl (X.2.1 0, 6, .inl ma)) := by rw [eV116, hv_un (by omega)]; exact hV103
  have hV142 : V115 (mo + 26) = some (.inl (X.2.1 6, 6, .inr (.inr (.inr (.inr nf))))) := by rw [eV116, hv_un (by omega)]; exact hV104
  have hV143 : V115 (mo + 33) = some (.inl (X.2.1 6, 7, .inr (.inr (.inr (.inr tf2))))) := by rw [eV116, hv_un (by omega)]; exact hV105
  have hV144 : V115 (mo + 34 + 0) = some (.inl (X.2.1 0, 8, .inl (td 0))) := by rw [eV116, hv_un (by omega)]; exact hV106
  have hV145 : V115 (mo + 34 + 1) = some (.inl (X.2.1 0, 8, .inl (td 1))) := by rw [eV116, hv_un (by omega)]; exact hV107
  have hV146 : V115 (mo + 34 + 2) = some (.inl (X.2.1 0, 8, .inl (td 2))) := by rw [eV116, hv_un (by omega)]; exact hV108
  have hV147 : V115 (mo + 34 + 3) = some (.inl (X.2.1 0, 8, .inl (td 3))) := by rw [eV116, hv_un (by omega)]; exact hV109
  have hV148 : V115 (mo + 34 + 4) = some (.inl (X.2.1 0, 8, .inl (td 4))) := by rw [eV116, hv_un (by omega)]; exact hV110
  have hV149 : V115 (mo + 34 + 5) = some (.inl (X.2.1 0, 8, .inl (td 5))) := by rw [eV116, hv_un (by omega)]; exact hV111
  have hV150 : V115 (mo + 34 + 6) = some (.inl (X.2.1 0, 8, .inl (td 6))) := by rw [eV116, hv_un (by omega)]; exact hV112
  have hV151 : V115 mo = some (.inr (7, [.ref (mo + 1), .ref (mo + 2), .ref (mo + 3), .long ab, .long be, .ref (mo + 10), .int (nI σ.2.2.1.1), .int pl, .int cl, .ref (mo + 11), .ref (mo + 12), .ref (mo + 13), .int sg, .ref (mo + 14), .ref (mo + 15), .ref (mo + 16), .ref (mo + 17), .int (nI P.2.1.1), .ref (mo + 18), .ref (mo + 19), .int (nI P.2.2.1.1), .ref (mo + 20), .ref (mo + 21), .ref (mo + 22), .int (nI P.2.2.2.1), .int 1, .ref (mo + 23), .ref (mo + 24), .ref (mo + 25), .ref (mo + 26), .ref (mo + 33), .ref (mo + 41), .ref (mo + 42), .ref (mo + 43)])) := by rw [eV116, hv_un (by omega)]; exact hV114
  have hV152 : V115 (mo + 1) = some (.inl (X.2.1 0, 6, .inl P.1.1)) := by rw [eV116]; exact hv_us
  clear hV79 hV80 hV81 hV82 hV83 hV84 hV85 hV86 hV87 hV88 hV89 hV90 hV91 hV92 hV93 hV94 hV95 hV96 hV97 hV98 hV99 hV100 hV101 hV102 hV103 hV104 hV105 hV106 hV107 hV108 hV109 hV110 hV111 hV112 hV114
  refine lv_aload_n C0.1 C0.2.1 dX7_undo_55 rfl (lv_at hl 0 rfl) ?_
  refine gf_X7_69 C0 w hV151 rfl dX7_undo_56 ?_
  refine lv_iconst (v := 0) C0.1 C0.2.1 dX7_undo_59 (by decide) ?_
  refine lv_aload_n C0.1 C0.2.1 dX7_undo_60 rfl (lv_at hl 0 rfl) ?_
  refine gf_X7_15 C0 w hV151 rfl dX7_undo_61 ?_
  refine lv_iconst (v := 0) C0.1 C0.2.1 dX7_undo_64 (by decide) ?_
  refine lv_bipush (v := 6) C0.1 C0.2.1 dX7_undo_65 (by decide) ?_
  refine hv_copyi C0 w hl.1 kj_X7_148 hV141 hV118 (by decide) (by decide) (by decide) (by decide) (by decide) (by decide) (Nat.le_of_ble_eq_true rfl) dX7_undo_67 (fun Hq lq w => ?_)
  have w := hv_w.as (a := mo + 2) (n := 6) (f := va_cpy ma (fun j => nI (σ.1.1.2.1 j)) 0 0 6) (g := (fun j => nI (P.1.2.1 j))) w hv_us (fun i9 hi9 => by rw [im_cp hi9]; exact (hk6 i9 hi9).2.1)
  rw [hv_uu] at w
  obtain ⟨V153, eV154⟩ : ∃ W9, W9 = hv_up V115 (mo + 2) (.inl (X.2.1 0, 6, .inl (fun j => nI (P.1.2.1 j)))) := ⟨_, rfl⟩
  have w : hv_w X s V153 Hq lq := by rw [eV154]; exact w
  have hV156 : V153 (mo + 3) = some (.inl (X.2.1 6, 6, .inr (.inr (.inr (.inr rf))))) := by rw [eV154, hv_un (by omega)]; exact hV119
  have hV157 : V153 (mo + 15) = some (.inl (X.2.1 0, 4, .inl sf)) := by rw [eV154, hv_un (by omega)]; exact hV120
  have hV158 : V153 (mo + 16) = some (.inl (X.2.1 0, 4, .inl sg9)) := by rw [eV154, hv_un (by omega)]; exact hV121
  have hV159 : V153 (mo + 17) = some (.inl (X.2.1 0, 4, .inl sh)) := by rw [eV154, hv_un (by omega)]; exact hV122
  have hV160 : V153 (mo + 18) = some (.inl (X.2.1 0, 8, .inl ef)) := by rw [eV154, hv_un (by omega)]; exact hV123
  have hV161 : V153 (mo + 19) = some (.inl (X.2.1 0, 8, .inl eg)) := by rw [eV154, hv_un (by omega)]; exact hV124
  have hV162 : V153 (mo + 21) = some (.inl (X.2.1 0, 8, .inl bf)) := by rw [eV154, hv_un (by omega)]; exact hV125
  have hV163 : V153 (mo + 22) = some (.inl (X.2.1 0, 8, .inl bg)) := by rw [eV154, hv_un (by omega)]; exact hV126
  have hV164 : V153 (mo + 4 + 0) = some (.inl (X.2.1 0, 16, .inl (σ.1.1.2.2 0))) := by rw [eV154, hv_un (by omega)]; exact hV127
  have hV165 : V153 (mo + 27 + 0) = some (.inl (X.2.1 0, 16, .inl (nu 0))) := by rw [eV154, hv_un (by omega)]; exact hV128
  have hV166 : V153 (mo + 4 + 1) = some (.inl (X.2.1 0, 16, .inl (σ.1.1.2.2 1))) := by rw [eV154, hv_un (by omega)]; exact hV129
  have hV167 : V153 (mo + 27 + 1) = some (.inl (X.2.1 0, 16, .inl (nu 1))) := by rw [eV154, hv_un (by omega)]; exact hV130
  have hV168 : V153 (mo + 4 + 2) = some (.inl (X.2.1 0, 16, .inl (σ.1.1.2.2 2))) := by rw [eV154, hv_un (by omega)]; exact hV131
  have hV169 : V153 (mo + 27 + 2) = some (.inl (X.2.1 0, 16, .inl (nu 2))) := by rw [eV154, hv_un (by omega)]; exact hV132
  have hV170 : V153 (mo + 4 + 3) = some (.inl (X.2.1 0, 16, .inl (σ.1.1.2.2 3))) := by rw [eV154, hv_un (by omega)]; exact hV133
  have hV171 : V153 (mo + 27 + 3) = some (.inl (X.2.1 0, 16, .inl (nu 3))) := by rw [eV154, hv_un (by omega)]; exact hV134
  have hV172 : V153 (mo + 4 + 4) = some (.inl (X.2.1 0, 16, .inl (σ.1.1.2.2 4))) := by rw [eV154, hv_un (by omega)]; exact hV135
  have hV173 : V153 (mo + 27 + 4) = some (.inl (X.2.1 0, 16, .inl (nu 4))) := by rw [eV154, hv_un (by omega)]; exact hV136
  have hV174 : V153 (mo + 4 + 5) = some (.inl (X.2.1 0, 16, .inl (σ.1.1.2.2 5))) := by rw [eV154, hv_un (by omega)]; exact hV137
  have hV175 : V153 (mo + 27 + 5) = some (.inl (X.2.1 0, 16, .inl (nu 5))) := by rw [eV154, hv_un (by omega)]; exact hV138
  have hV176 : V153 (mo + 23) = some (.inl (X.2.1 0, 3, .inl ct)) := by rw [eV154, hv_un (by omega)]; exact hV139
  have hV177 : V153 (mo + 24) = some (.inl (X.2.1 0, 6, .inl ki)) := by rw [eV154, hv_un (by omega)]; exact hV140
  have hV178 : V153 (mo + 25) = some (.inl (X.2.1 0, 6, .inl ma)) := by rw [eV154, hv_un (by omega)]; exact hV141
  have hV179 : V153 (mo + 26) = some (.inl (X.2.1 6, 6, .inr (.inr (.inr (.inr nf))))) := by rw [eV154, hv_un (by omega)]; exact hV142
  have hV180 : V153 (mo + 33) = some (.inl (X.2.1 6, 7, .inr (.inr (.inr (.inr tf2))))) := by rw [eV154, hv_un (by omega)]; exact hV143
  have hV181 : V153 (mo + 34 + 0) = some (.inl (X.2.1 0, 8, .inl (td 0))) := by rw [eV154, hv_un (by omega)]; exact hV144
  have hV182 : V153 (mo + 34 + 1) = some (.inl (X.2.1 0, 8, .inl (td 1))) := by rw [eV154, hv_un (by omega)]; exact hV145
  have hV183 : V153 (mo + 34 + 2) = some (.inl (X.2.1 0, 8, .inl (td 2))) := by rw [eV154, hv_un (by omega)]; exact hV146
  have hV184 : V153 (mo + 34 + 3) = some (.inl (X.2.1 0, 8, .inl (td 3))) := by rw [eV154, hv_un (by omega)]; exact hV147
  have hV185 : V153 (mo + 34 + 4) = some (.inl (X.2.1 0, 8, .inl (td 4))) := by rw [eV154, hv_un (by omega)]; exact hV148
  have hV186 : V153 (mo + 34 + 5) = some (.inl (X.2.1 0, 8, .inl (td 5))) := by rw [eV154, hv_un (by omega)]; exact hV149
  have hV187 : V153 (mo + 34 + 6) = some (.inl (X.2.1 0, 8, .inl (td 6))) := by rw [eV154, hv_un (by omega)]; exact hV150
  have hV188 : V153 mo = some (.inr (7, [.ref (mo + 1), .ref (mo + 2), .ref (mo + 3), .long ab, .long be, .ref (mo + 10), .int (nI σ.2.2.1.1), .int pl, .int cl, .ref (mo + 11), .ref (mo + 12), .ref (mo + 13), .int sg, .ref (mo + 14), .ref (mo + 15), .ref (mo + 16), .ref (mo + 17), .int (nI P.2.1.1), .ref (mo + 18), .ref (mo + 19), .int (nI P.2.2.1.1), .ref (mo + 20), .ref (mo + 21), .ref (mo + 22), .int (nI P.2.2.2.1), .int 1, .ref (mo + 23), .ref (mo + 24), .ref (mo + 25), .ref (mo + 26), .ref (mo + 33), .ref (mo + 41), .ref (mo + 42), .ref (mo + 43)])) := by rw [eV154, hv_un (by omega)]; exact hV151
  have hV189 : V153 (mo + 1) = some (.inl (X.2.1 0, 6, .inl P.1.1)) := by rw [eV154, hv_un (by omega)]; exact hV152
  have hV190 : V153 (mo + 2) = some (.inl (X.2.1 0, 6, .inl (fun j => nI (P.1.2.1 j)))) := by rw [eV154]; exact hv_us
  clear hV118 hV119 hV120 hV121 hV122 hV123 hV124 hV125 hV126 hV127 hV128 hV129 hV130 hV131 hV132 hV133 hV134 hV135 hV136 hV137 hV138 hV139 hV140 hV141 hV142 hV143 hV144 hV145 hV146 hV147 hV148 hV149 hV150 hV151 hV152
  refine lv_iconst (v := 0) C0.1 C0.2.1 dX7_undo_70 (by decide) ?_
  refine lv_istore_n (lv' := [(1, .int 0), (0, .ref mo)]) C0.1 C0.2.1 dX7_undo_71 rfl hl (by decide) rfl (fun ls hl => ?_)
  refine lv_iload_n C0.1 C0.2.1 dX7_undo_72 rfl (lv_at hl 0 rfl) ?_
  refine lv_bipush (v := 6) C0.1 C0.2.1 dX7_undo_73 (by decide) ?_
  refine lv_icmp_ge (tgt := 103) C0.1 C0.2.1 dX7_undo_75 (by decide) (fun h9 => absurd h9 (by decide)) (fun _ => ?_)
  refine lv_aload_n C0.1 C0.2.1 dX7_undo_78 rfl (lv_at hl 1 rfl) ?_
  refine gf_X7_72 C0 w hV188 rfl dX7_undo_79 ?_
  refine lv_iload_n C0.1 C0.2.1 dX7_undo_82 rfl (lv_at hl 0 rfl) ?_
  refine hv_aalA 6 rfl C0 w rfl hV179 (hn_in (n := 0) (by decide) (by decide)) (by rw [show (0 : Int32).toNatClampNeg = 0 by decide]; exact i5 0 (by decide)) dX7_undo_83 ?_
  refine lv_iconst (v := 0) C0.1 C0.2.1 dX7_undo_84 (by decide) ?_
  refine lv_aload_n C0.1 C0.2.1 dX7_undo_85 rfl (lv_at hl 1 rfl) ?_
  refine gf_X7_20 C0 w hV188 rfl dX7_undo_86 ?_
  refine lv_iload_n C0.1 C0.2.1 dX7_undo_89 rfl (lv_at hl 0 rfl) ?_
  refine hv_aalA 6 rfl C0 w rfl hV156 (hn_in (n := 0) (by decide) (by decide)) (by rw [show (0 : Int32).toNatClampNeg = 0 by decide]; exact r4 0 (by decide)) dX7_undo_90 ?_
  refine lv_iconst (v := 0) C0.1 C0.2.1 dX7_undo_91 (by decide) ?_
  refine lv_bipush (v := 16) C0.1 C0.2.1 dX7_undo_92 (by decide) ?_
  refine hv_copyi C0 w hl.1 kj_X7_148 hV165 hV164 (by decide) (by decide) (by decide) (by decide) (by decide) (by decide) (Nat.le_of_ble_eq_true rfl) dX7_undo_94 (fun Hq lq w => ?_)
  have w := hv_w.as (a := mo + 4 + 0) (n := 16) (f := va_cpy (nu 0) (σ.1.1.2.2 0) 0 0 16) (g := P.1.2.2 0) w hv_us (fun i9 hi9 => by rw [im_cp hi9, (hk6 0 (by decide)).2.2])
  rw [hv_uu] at w
  obtain ⟨V191, eV192⟩ : ∃ W9, W9 = hv_up V153 (mo + 4 + 0) (.inl (X.2.1 0, 16, .inl (P.1.2.2 0))) := ⟨_, rfl⟩
  have w : hv_w X s V191 Hq lq := by rw [eV192]; exact w
  have hV193 : V191 (mo + 3) = some (.inl (X.2.1 6, 6, .inr (.inr (.inr (.inr rf))))) := by rw [eV192, hv_un (by omega)]; exact hV156
  have hV194 : V191 (mo + 15) = some (.inl (X.2.1 0, 4, .inl sf)) := by rw [eV192, hv_un (by omega)]; exact hV157
  have hV195 : V191 (mo + 16) = some (.inl (X.2.1 0, 4, .inl sg9)) := by rw [eV192, hv_un (by omega)]; exact hV158
  have hV196 : V191 (mo + 17) = some (.inl (X.2.1 0, 4, .inl sh)) := by rw [eV192, hv_un (by omega)]; exact hV159
  have hV197 : V191 (mo + 18) = some (.inl (X.2.1 0, 8, .inl ef)) := by rw [eV192, hv_un (by omega)]; exact hV160
  have hV198 : V191 (mo + 19) = some (.inl (X.2.1 0, 8, .inl eg)) := by rw [eV192, hv_un (by omega)]; exact hV161
  have hV199 : V191 (mo + 21) = some (.inl (X.2.1 0, 8, .inl bf)) := by rw [eV192, hv_un (by omega)]; exact hV162
  have hV200 : V191 (mo + 22) = some (.inl (X.2.1 0, 8, .inl bg)) := by rw [eV192, hv_un (by omega)]; exact hV163
  have hV202 : V191 (mo + 27 + 0) = some (.inl (X.2.1 0, 16, .inl (nu 0))) := by rw [eV192, hv_un (by omega)]; exact hV165
  have hV203 : V191 (mo + 4 + 1) = some (.inl (X.2.1 0, 16, .inl (σ.1.1.2.2 1))) := by rw [eV192, hv_un (by omega)]; exact hV166
  have hV204 : V191 (mo + 27 + 1) = some (.inl (X.2.1 0, 16, .inl (nu 1))) := by rw [eV192, hv_un (by omega)]; exact hV167
  have hV205 : V191 (mo + 4 + 2) = some (.inl (X.2.1 0, 16, .inl (σ.1.1.2.2 2))) := by rw [eV192, hv_un (by omega)]; exact hV168
  have hV206 : V191 (mo + 27 + 2) = some (.inl (X.2.1 0, 16, .inl (nu 2))) := by rw [eV192, hv_un (by omega)]; exact hV169
  have hV207 : V191 (mo + 4 + 3) = some (.inl (X.2.1 0, 16, .inl (σ.1.1.2.2 3))) := by rw [eV192, hv_un (by omega)]; exact hV170
  have hV208 : V191 (mo + 27 + 3) = some (.inl (X.2.1 0, 16, .inl (nu 3))) := by rw [eV192, hv_un (by omega)]; exact hV171
  have hV209 : V191 (mo + 4 + 4) = some (.inl (X.2.1 0, 16, .inl (σ.1.1.2.2 4))) := by rw [eV192, hv_un (by omega)]; exact hV172
  have hV210 : V191 (mo + 27 + 4) = some (.inl (X.2.1 0, 16, .inl (nu 4))) := by rw [eV192, hv_un (by omega)]; exact hV173
  have hV211 : V191 (mo + 4 + 5) = some (.inl (X.2.1 0, 16, .inl (σ.1.1.2.2 5))) := by rw [eV192, hv_un (by omega)]; exact hV174
  have hV212 : V191 (mo + 27 + 5) = some (.inl (X.2.1 0, 16, .inl (nu 5))) := by rw [eV192, hv_un (by omega)]; exact hV175
  have hV213 : V191 (mo + 23) = some (.inl (X.2.1 0, 3, .inl ct)) := by rw [eV192, hv_un (by omega)]; exact hV176
  have hV214 : V191 (mo + 24) = some (.inl (X.2.1 0, 6, .inl ki)) := by rw [eV192, hv_un (by omega)]; exact hV177
  have hV215 : V191 (mo + 25) = some (.inl (X.2.1 0, 6, .inl ma)) := by rw [eV192, hv_un (by omega)]; exact hV178
  have hV216 : V191 (mo + 26) = some (.inl (X.2.1 6, 6, .inr (.inr (.inr (.inr nf))))) := by rw [eV192, hv_un (by omega)]; exact hV179
  have hV217 : V191 (mo + 33) = some (.inl (X.2.1 6, 7, .inr (.inr (.inr (.inr tf2))))) := by rw [eV192, hv_un (by omega)]; exact hV180
  have hV218 : V191 (mo + 34 + 0) = some (.inl (X.2.1 0, 8, .inl (td 0))) := by rw [eV192, hv_un (by omega)]; exact hV181
  have hV219 : V191 (mo + 34 + 1) = some (.inl (X.2.1 0, 8, .inl (td 1))) := by rw [eV192, hv_un (by omega)]; exact hV182
  have hV220 : V191 (mo + 34 + 2) = some (.inl (X.2.1 0, 8, .inl (td 2))) := by rw [eV192, hv_un (by omega)]; exact hV183
  have hV221 : V191 (mo + 34 + 3) = some (.inl (X.2.1 0, 8, .inl (td 3))) := by rw [eV192, hv_un (by omega)]; exact hV184
  have hV222 : V191 (mo + 34 + 4) = some (.inl (X.2.1 0, 8, .inl (td 4))) := by rw [eV192, hv_un (by omega)]; exact hV185
  have hV223 : V191 (mo + 34 + 5) = some (.inl (X.2.1 0, 8, .inl (td 5))) := by rw [eV192, hv_un (by omega)]; exact hV186
  have hV224 : V191 (mo + 34 + 6) = some (.inl (X.2.1 0, 8, .inl (td 6))) := by rw [eV192, hv_un (by omega)]; exact hV187
  have hV225 : V191 mo = some (.inr (7, [.ref (mo + 1), .ref (mo + 2), .ref (mo + 3), .long ab, .long be, .ref (mo + 10), .int (nI σ.2.2.1.1), .int pl, .int cl, .ref (mo + 11), .ref (mo + 12), .ref (mo + 13), .int sg, .ref (mo + 14), .ref (mo + 15), .ref (mo + 16), .ref (mo + 17), .int (nI P.2.1.1), .ref (mo + 18), .ref (mo + 19), .int (nI P.2.2.1.1), .ref (mo + 20), .ref (mo + 21), .ref (mo + 22), .int (nI P.2.2.2.1), .int 1, .ref (mo + 23), .ref (mo + 24), .ref (mo + 25), .ref (mo + 26), .ref (mo + 33), .ref (mo + 41), .ref (mo + 42), .ref (mo + 43)])) := by rw [eV192, hv_un (by omega)]; exact hV188
  have hV226 : V191 (mo + 1) = some (.inl (X.2.1 0, 6, .inl P.1.1)) := by rw [eV192, hv_un (by omega)]; exact hV189
  have hV227 : V191 (mo + 2) = some (.inl (X.2.1 0, 6, .inl (fun j => nI (P.1.2.1 j)))) := by rw [eV192, hv_un (by omega)]; exact hV190
  have hV228 : V191 (mo + 4 + 0) = some (.inl (X.2.1 0, 16, .inl (P.1.2.2 0))) := by rw [eV192]; exact hv_us
  clear hV156 hV157 hV158 hV159 hV160 hV161 hV162 hV163 hV164 hV165 hV166 hV167 hV168 hV169 hV170 hV171 hV172 hV173 hV174 hV175 hV176 hV177 hV178 hV179 hV180 hV181 hV182 hV183 hV184 hV185 hV186 hV187 hV188 hV189 hV190
  refine lv_iinc (v := 0 + 1) (lv' := [(1, .int (0 + 1)), (0, .ref mo)]) C0.1 C0.2.1 dX7_undo_97 hl (k := 0) rfl rfl (by decide) rfl (fun ls hl => ?_)
  have hl : lv_has ls 2 [(1, .int 1), (0, .ref mo)] := by rw [show (1 : Int32) = 0 + 1 from by decide]; exact hl
  refine lv_goto (tgt := 72) C0.1 C0.2.1 dX7_undo_100 (by decide) ?_
  refine lv_iload_n C0.1 C0.2.1 dX7_undo_72 rfl (lv_at hl 0 rfl) ?_
  refine lv_bipush (v := 6) C0.1 C0.2.1 dX7_undo_73 (by decide) ?_
  refine lv_icmp_ge (tgt := 103) C0.1 C0.2.1 dX7_undo_75 (by decide) (fun h9 => absurd h9 (by decide)) (fun _ => ?_)
  refine lv_aload_n C0.1 C0.2.1 dX7_undo_78 rfl (lv_at hl 1 rfl) ?_
  refine gf_X7_72 C0 w hV225 rfl dX7_undo_79 ?_
  refine lv_iload_n C0.1 C0.2.1 dX7_undo_82 rfl (lv_at hl 0 rfl) ?_
  refine hv_aalA 6 rfl C0 w rfl hV216 (hn_in (n := 1) (by decide) (by decide)) (by rw [show (1 : Int32).toNatClampNeg = 1 by decide]; exact i5 1 (by decide)) dX7_undo_83 ?_
  refine lv_iconst (v := 0) C0.1 C0.2.1 dX7_undo_84 (by decide) ?_
  refine lv_aload_n C0.1 C0.2.1 dX7_undo_85 rfl (lv_at hl 1 rfl) ?_
  refine gf_X7_20 C0 w hV225 rfl dX7_undo_86 ?_
  refine lv_iload_n C0.1 C0.2.1 dX7_undo_89 rfl (lv_at hl 0 rfl) ?_
  refine hv_aalA 6 rfl C0 w rfl hV193 (hn_in (n := 1) (by decide) (by decide)) (by rw [show (1 : Int32).toNatClampNeg = 1 by decide]; exact r4 1 (by decide)) dX7_undo_90 ?_
  refine lv_iconst (v := 0) C0.1 C0.2.1 dX7_undo_91 (by decide) ?_
  refine lv_bipush (v := 16) C0.1 C0.2.1 dX7_undo_92 (by decide) ?_
  refine hv_copyi C0 w hl.1 kj_X7_148 hV204 hV203 (by decide) (by decide) (by decide) (by decide) (by decide) (by decide) (Nat.le_of_ble_eq_true rfl) dX7_undo_94 (fun Hq lq w => ?_)
  have w := hv_w.as (a := mo + 4 + 1) (n := 16) (f := va_cpy (nu 1) (σ.1.1.2.2 1) 0 0 16) (g := P.1.2.2 1) w hv_us (fun i9 hi9 => by rw [im_cp hi9, (hk6 1 (by decide)).2.2])
  rw [hv_uu] at w
  obtain ⟨V229, eV230⟩ : ∃ W9, W9 = hv_up V191 (mo + 4 + 1) (.inl (X.2.1 0, 16, .inl (P.1.2.2 1))) := ⟨_, rfl⟩
  have w : hv_w X s V229 Hq lq := by rw [eV230]; exact w
  have hV231 : V229 (mo + 3) = some (.inl (X.2.1 6, 6, .inr (.inr (.inr (.inr rf))))) := by rw [eV230, hv_un (by omega)]; exact hV193
  have hV232 : V229 (mo + 15) = some (.inl (X.2.1 0, 4, .inl sf)) := by rw [eV230, hv_un (by omega)]; exact hV194
  have hV233 : V229 (mo + 16) = some (.inl (X.2.1 0, 4, .inl sg9)) := by rw [eV230, hv_un (by omega)]; exact hV195
  have hV234 : V229 (mo + 17) = some (.inl (X.2.1 0, 4, .inl sh)) := by rw [eV230, hv_un (by omega)]; exact hV196
  have hV235 : V229 (mo + 18) = some (.inl (X.2.1 0, 8, .inl ef)) := by rw [eV230, hv_un (by omega)]; exact hV197
  have hV236 : V229 (mo + 19) = some (.inl (X.2.1 0, 8, .inl eg)) := by rw [eV230, hv_un (by omega)]; exact hV198
  have hV237 : V229 (mo + 21) = some (.inl (X.2.1 0, 8, .inl bf)) := by rw [eV230, hv_un (by omega)]; exact hV199
  have hV238 : V229 (mo + 22) = some (.inl (X.2.1 0, 8, .inl bg)) := by rw [eV230, hv_un (by omega)]; exact hV200
  have hV239 : V229 (mo + 27 + 0) = some (.inl (X.2.1 0, 16, .inl (nu 0))) := by rw [eV230, hv_un (by omega)]; exact hV202
  have hV241 : V229 (mo + 27 + 1) = some (.inl (X.2.1 0, 16, .inl (nu 1))) := by rw [eV230, hv_un (by omega)]; exact hV204
  have hV242 : V229 (mo + 4 + 2) = some (.inl (X.2.1 0, 16, .inl (σ.1.1.2.2 2))) := by rw [eV230, hv_un (by omega)]; exact hV205
  have hV243 : V229 (mo + 27 + 2) = some (.inl (X.2.1 0, 16, .inl (nu 2))) := by rw [eV230, hv_un (by omega)]; exact hV206
  have hV244 : V229 (mo + 4 + 3) = some (.inl (X.2.1 0, 16, .inl (σ.1.1.2.2 3))) := by rw [eV230, hv_un (by omega)]; exact hV207
  have hV245 : V229 (mo + 27 + 3) = some (.inl (X.2.1 0, 16, .inl (nu 3))) := by rw [eV230, hv_un (by omega)]; exact hV208
  have hV246 : V229 (mo + 4 + 4) = some (.inl (X.2.1 0, 16, .inl (σ.1.1.2.2 4))) := by rw [eV230, hv_un (by omega)]; exact hV209
  have hV247 : V229 (mo + 27 + 4) = some (.inl (X.2.1 0, 16, .inl (nu 4))) := by rw [eV230, hv_un (by omega)]; exact hV210
  have hV248 : V229 (mo + 4 + 5) = some (.inl (X.2.1 0, 16, .inl (σ.1.1.2.2 5))) := by rw [eV230, hv_un (by omega)]; exact hV211
  have hV249 : V229 (mo + 27 + 5) = some (.inl (X.2.1 0, 16, .inl (nu 5))) := by rw [eV230, hv_un (by omega)]; exact hV212
  have hV250 : V229 (mo + 23) = some (.inl (X.2.1 0, 3, .inl ct)) := by rw [eV230, hv_un (by omega)]; exact hV213
  have hV251 : V229 (mo + 24) = some (.inl (X.2.1 0, 6, .inl ki)) := by rw [eV230, hv_un (by omega)]; exact hV214
  have hV252 : V229 (mo + 25) = some (.inl (X.2.1 0, 6, .inl ma)) := by rw [eV230, hv_un (by omega)]; exact hV215
  have hV253 : V229 (mo + 26) = some (.inl (X.2.1 6, 6, .inr (.inr (.inr (.inr nf))))) := by rw [eV230, hv_un (by omega)]; exact hV216
  have hV254 : V229 (mo + 33) = some (.inl (X.2.1 6, 7, .inr (.inr (.inr (.inr tf2))))) := by rw [eV230, hv_un (by omega)]; exact hV217
  have hV255 : V229 (mo + 34 + 0) = some (.inl (X.2.1 0, 8, .inl (td 0))) := by rw [eV230, hv_un (by omega)]; exact hV218
  have hV256 : V229 (mo + 34 + 1) = some (.inl (X.2.1 0, 8, .inl (td 1))) := by rw [eV230, hv_un (by omega)]; exact hV219
  have hV257 : V229 (mo + 34 + 2) = some (.inl (X.2.1 0, 8, .inl (td 2))) := by rw [eV230, hv_un (by omega)]; exact hV220
  have hV258 : V229 (mo + 34 + 3) = some (.inl (X.2.1 0, 8, .inl (td 3))) := by rw [eV230, hv_un (by omega)]; exact hV221
  have hV259 : V229 (mo + 34 + 4) = some (.inl (X.2.1 0, 8, .inl (td 4))) := by rw [eV230, hv_un (by omega)]; exact hV222
  have hV260 : V229 (mo + 34 + 5) = some (.inl (X.2.1 0, 8, .inl (td 5))) := by rw [eV230, hv_un (by omega)]; exact hV223
  have hV261 : V229 (mo + 34 + 6) = some (.inl (X.2.1 0, 8, .inl (td 6))) := by rw [eV230, hv_un (by omega)]; exact hV224
  have hV262 : V229 mo = some (.inr (7, [.ref (mo + 1), .ref (mo + 2), .ref (mo + 3), .long ab, .long be, .ref (mo + 10), .int (nI σ.2.2.1.1), .int pl, .int cl, .ref (mo + 11), .ref (mo + 12), .ref (mo + 13), .int sg, .ref (mo + 14), .ref (mo + 15), .ref (mo + 16), .ref (mo + 17), .int (nI P.2.1.1), .ref (mo + 18), .ref (mo + 19), .int (nI P.2.2.1.1), .ref (mo + 20), .ref (mo + 21), .ref (mo + 22), .int (nI P.2.2.2.1), .int 1, .ref (mo + 23), .ref (mo + 24), .ref (mo + 25), .ref (mo + 26), .ref (mo + 33), .ref (mo + 41), .ref (mo + 42), .ref (mo + 43)])) := by rw [eV230, hv_un (by omega)]; exact hV225
  have hV263 : V229 (mo + 1) = some (.inl (X.2.1 0, 6, .inl P.1.1)) := by rw [eV230, hv_un (by omega)]; exact hV226
  have hV264 : V229 (mo + 2) = some (.inl (X.2.1 0, 6, .inl (fun j => nI (P.1.2.1 j)))) := by rw [eV230, hv_un (by omega)]; exact hV227
  have hV265 : V229 (mo + 4 + 0) = some (.inl (X.2.1 0, 16, .inl (P.1.2.2 0))) := by rw [eV230, hv_un (by omega)]; exact hV228
  have hV266 : V229 (mo + 4 + 1) = some (.inl (X.2.1 0, 16, .inl (P.1.2.2 1))) := by rw [eV230]; exact hv_us
  clear hV193 hV194 hV195 hV196 hV197 hV198 hV199 hV200 hV202 hV203 hV204 hV205 hV206 hV207 hV208 hV209 hV210 hV211 hV212 hV213 hV214 hV215 hV216 hV217 hV218 hV219 hV220 hV221 hV222 hV223 hV224 hV225 hV226 hV227 hV228
  refine lv_iinc (v := 1 + 1) (lv' := [(1, .int (1 + 1)), (0, .ref mo)]) C0.1 C0.2.1 dX7_undo_97 hl (k := 0) rfl rfl (by decide) rfl (fun ls hl => ?_)
  have hl : lv_has ls 2 [(1, .int 2), (0, .ref mo)] := by rw [show (2 : Int32) = 1 + 1 from by decide]; exact hl
  refine lv_goto (tgt := 72) C0.1 C0.2.1 dX7_undo_100 (by decide) ?_
  refine lv_iload_n C0.1 C0.2.1 dX7_undo_72 rfl (lv_at hl 0 rfl) ?_
  refine lv_bipush (v := 6) C0.1 C0.2.1 dX7_undo_73 (by decide) ?_
  refine lv_icmp_ge (tgt := 103) C0.1 C0.2.1 dX7_undo_75 (by decide) (fun h9 => absurd h9 (by decide)) (fun _ => ?_)
  refine lv_aload_n C0.1 C0.2.1 dX7_undo_78 rfl (lv_at hl 1 rfl) ?_
  refine gf_X7_72 C0 w hV262 rfl dX7_undo_79 ?_
  refine lv_iload_n C0.1 C0.2.1 dX7_undo_82 rfl (lv_at hl 0 rfl) ?_
  refine hv_aalA 6 rfl C0 w rfl hV253 (hn_in (n := 2) (by decide) (by decide)) (by rw [show (2 : Int32).toNatClampNeg = 2 by decide]; exact i5 2 (by decide)) dX7_undo_83 ?_
  refine lv_iconst (v := 0) C0.1 C0.2.1 dX7_undo_84 (by decide) ?_
  refine lv_aload_n C0.1 C0.2.1 dX7_undo_85 rfl (lv_at hl 1 rfl) ?_
  refine gf_X7_20 C0 w hV262 rfl dX7_undo_86 ?_
  refine lv_iload_n C0.1 C0.2.1 dX7_undo_89 rfl (lv_at hl 0 rfl) ?_
  refine hv_aalA 6 rfl C0 w rfl hV231 (hn_in (n := 2) (by decide) (by decide)) (by rw [show (2 : Int32).toNatClampNeg = 2 by decide]; exact r4 2 (by decide)) dX7_undo_90 ?_
  refine lv_iconst (v := 0) C0.1 C0.2.1 dX7_undo_91 (by decide) ?_
  refine lv_bipush (v := 16) C0.1 C0.2.1 dX7_undo_92 (by decide) ?_
  refine hv_copyi C0 w hl.1 kj_X7_148 hV243 hV242 (by decide) (by decide) (by decide) (by decide) (by decide) (by decide) (Nat.le_of_ble_eq_true rfl) dX7_undo_94 (fun Hq lq w => ?_)
  have w := hv_w.as (a := mo + 4 + 2) (n := 16) (f := va_cpy (nu 2) (σ.1.1.2.2 2) 0 0 16) (g := P.1.2.2 2) w hv_us (fun i9 hi9 => by rw [im_cp hi9, (hk6 2 (by decide)).2.2])
  rw [hv_uu] at w
  obtain ⟨V267, eV268⟩ : ∃ W9, W9 = hv_up V229 (mo + 4 + 2) (.inl (X.2.1 0, 16, .inl (P.1.2.2 2))) := ⟨_, rfl⟩
  have w : hv_w X s V267 Hq lq := by rw [eV268]; exact w
  have hV269 : V267 (mo + 3) = some (.inl (X.2.1 6, 6, .inr (.inr (.inr (.inr rf))))) := by rw [eV268, hv_un (by omega)]; exact hV231
  have hV270 : V267 (mo + 15) = some (.inl (X.2.1 0, 4, .inl sf)) := by rw [eV268, hv_un (by omega)]; exact hV232
  have hV271 : V267 (mo + 16) = some (.inl (X.2.1 0, 4, .inl sg9)) := by rw [eV268, hv_un (by omega)]; exact hV233
  have hV272 : V267 (mo + 17) = some (.inl (X.2.1 0, 4, .inl sh)) := by rw [eV268, hv_un (by omega)]; exact hV234
  have hV273 : V267 (mo + 18) = some (.inl (X.2.1 0, 8, .inl ef)) := by rw [eV268, hv_un (by omega)]; exact hV235
  have hV274 : V267 (mo + 19) = some (.inl (X.2.1 0, 8, .inl eg)) := by rw [eV268, hv_un (by omega)]; exact hV236
  have hV275 : V267 (mo + 21) = some (.inl (X.2.1 0, 8, .inl bf)) := by rw [eV268, hv_un (by omega)]; exact hV237
  have hV276 : V267 (mo + 22) = some (.inl (X.2.1 0, 8, .inl bg)) := by rw [eV268, hv_un (by omega)]; exact hV238
  have hV277 : V267 (mo + 27 + 0) = some (.inl (X.2.1 0, 16, .inl (nu 0))) := by rw [eV268, hv_un (by omega)]; exact hV239
  have hV278 : V267 (mo + 27 + 1) = some (.inl (X.2.1 0, 16, .inl (nu 1))) := by rw [eV268, hv_un (by omega)]; exact hV241
  have hV280 : V267 (mo + 27 + 2) = some (.inl (X.2.1 0, 16, .inl (nu 2))) := by rw [eV268, hv_un (by omega)]; exact hV243
  have hV281 : V267 (mo + 4 + 3) = some (.inl (X.2.1 0, 16, .inl (σ.1.1.2.2 3))) := by rw [eV268, hv_un (by omega)]; exact hV244
  have hV282 : V267 (mo + 27 + 3) = some (.inl (X.2.1 0, 16, .inl (nu 3))) := by rw [eV268, hv_un (by omega)]; exact hV245
  have hV283 : V267 (mo + 4 + 4) = some (.inl (X.2.1 0, 16, .inl (σ.1.1.2.2 4))) := by rw [eV268, hv_un (by omega)]; exact hV246
  have hV284 : V267 (mo + 27 + 4) = some (.inl (X.2.1 0, 16, .inl (nu 4))) := by rw [eV268, hv_un (by omega)]; exact hV247
  have hV285 : V267 (mo + 4 + 5) = some (.inl (X.2.1 0, 16, .inl (σ.1.1.2.2 5))) := by rw [eV268, hv_un (by omega)]; exact hV248
  have hV286 : V267 (mo + 27 + 5) = some (.inl (X.2.1 0, 16, .inl (nu 5))) := by rw [eV268, hv_un (by omega)]; exact hV249
  have hV287 : V267 (mo + 23) = some (.inl (X.2.1 0, 3, .inl ct)) := by rw [eV268, hv_un (by omega)]; exact hV250
  have hV288 : V267 (mo + 24) = some (.inl (X.2.1 0, 6, .inl ki)) := by rw [eV268, hv_un (by omega)]; exact hV251
  have hV289 : V267 (mo + 25) = some (.inl (X.2.1 0, 6, .inl ma)) := by rw [eV268, hv_un (by omega)]; exact hV252
  have hV290 : V267 (mo + 26) = some (.inl (X.2.1 6, 6, .inr (.inr (.inr (.inr nf))))) := by rw [eV268, hv_un (by omega)]; exact hV253
  have hV291 : V267 (mo + 33) = some (.inl (X.2.1 6, 7, .inr (.inr (.inr (.inr tf2))))) := by rw [eV268, hv_un (by omega)]; exact hV254
  have hV292 : V267 (mo + 34 + 0) = some (.inl (X.2.1 0, 8, .inl (td 0))) := by rw [eV268, hv_un (by omega)]; exact hV255
  have hV293 : V267 (mo + 34 + 1) = some (.inl (X.2.1 0, 8, .inl (td 1))) := by rw [eV268, hv_un (by omega)]; exact hV256
  have hV294 : V267 (mo + 34 + 2) = some (.inl (X.2.1 0, 8, .inl (td 2))) := by rw [eV268, hv_un (by omega)]; exact hV257
  have hV295 : V267 (mo + 34 + 3) = some (.inl (X.2.1 0, 8, .inl (td 3))) := by rw [eV268, hv_un (by omega)]; exact hV258
  have hV296 : V267 (mo + 34 + 4) = some (.inl (X.2.1 0, 8, .inl (td 4))) := by rw [eV268, hv_un (by omega)]; exact hV259
  have hV297 : V267 (mo + 34 + 5) = some (.inl (X.2.1 0, 8, .inl (td 5))) := by rw [eV268, hv_un (by omega)]; exact hV260
  have hV298 : V267 (mo + 34 + 6) = some (.inl (X.2.1 0, 8, .inl (td 6))) := by rw [eV268, hv_un (by omega)]; exact hV261
  have hV299 : V267 mo = some (.inr (7, [.ref (mo + 1), .ref (mo + 2), .ref (mo + 3), .long ab, .long be, .ref (mo + 10), .int (nI σ.2.2.1.1), .int pl, .int cl, .ref (mo + 11), .ref (mo + 12), .ref (mo + 13), .int sg, .ref (mo + 14), .ref (mo + 15), .ref (mo + 16), .ref (mo + 17), .int (nI P.2.1.1), .ref (mo + 18), .ref (mo + 19), .int (nI P.2.2.1.1), .ref (mo + 20), .ref (mo + 21), .ref (mo + 22), .int (nI P.2.2.2.1), .int 1, .ref (mo + 23), .ref (mo + 24), .ref (mo + 25), .ref (mo + 26), .ref (mo + 33), .ref (mo + 41), .ref (mo + 42), .ref (mo + 43)])) := by rw [eV268, hv_un (by omega)]; exact hV262
  have hV300 : V267 (mo + 1) = some (.inl (X.2.1 0, 6, .inl P.1.1)) := by rw [eV268, hv_un (by omega)]; exact hV263
  have hV301 : V267 (mo + 2) = some (.inl (X.2.1 0, 6, .inl (fun j => nI (P.1.2.1 j)))) := by rw [eV268, hv_un (by omega)]; exact hV264
  have hV302 : V267 (mo + 4 + 0) = some (.inl (X.2.1 0, 16, .inl (P.1.2.2 0))) := by rw [eV268, hv_un (by omega)]; exact hV265
  have hV303 : V267 (mo + 4 + 1) = some (.inl (X.2.1 0, 16, .inl (P.1.2.2 1))) := by rw [eV268, hv_un (by omega)]; exact hV266
  have hV304 : V267 (mo + 4 + 2) = some (.inl (X.2.1 0, 16, .inl (P.1.2.2 2))) := by rw [eV268]; exact hv_us
  clear hV231 hV232 hV233 hV234 hV235 hV236 hV237 hV238 hV239 hV241 hV242 hV243 hV244 hV245 hV246 hV247 hV248 hV249 hV250 hV251 hV252 hV253 hV254 hV255 hV256 hV257 hV258 hV259 hV260 hV261 hV262 hV263 hV264 hV265 hV266
  refine lv_iinc (v := 2 + 1) (lv' := [(1, .int (2 + 1)), (0, .ref mo)]) C0.1 C0.2.1 dX7_undo_97 hl (k := 0) rfl rfl (by decide) rfl (fun ls hl => ?_)
  have hl : lv_has ls 2 [(1, .int 3), (0, .ref mo)] := by rw [show (3 : Int32) = 2 + 1 from by decide]; exact hl
  refine lv_goto (tgt := 72) C0.1 C0.2.1 dX7_undo_100 (by decide) ?_
  refine lv_iload_n C0.1 C0.2.1 dX7_undo_72 rfl (lv_at hl 0 rfl) ?_
  refine lv_bipush (v := 6) C0.1 C0.2.1 dX7_undo_73 (by decide) ?_
  refine lv_icmp_ge (tgt := 103) C0.1 C0.2.1 dX7_undo_75 (by decide) (fun h9 => absurd h9 (by decide)) (fun _ => ?_)
  refine lv_aload_n C0.1 C0.2.1 dX7_undo_78 rfl (lv_at hl 1 rfl) ?_
  refine gf_X7_72 C0 w hV299 rfl dX7_undo_79 ?_
  refine lv_iload_n C0.1 C0.2.1 dX7_undo_82 rfl (lv_at hl 0 rfl) ?_
  refine hv_aalA 6 rfl C0 w rfl hV290 (hn_in (n := 3) (by decide) (by decide)) (by rw [show (3 : Int32).toNatClampNeg = 3 by decide]; exact i5 3 (by decide)) dX7_undo_83 ?_
  refine lv_iconst (v := 0) C0.1 C0.2.1 dX7_undo_84 (by decide) ?_
  refine lv_aload_n C0.1 C0.2.1 dX7_undo_85 rfl (lv_at hl 1 rfl) ?_
  refine gf_X7_20 C0 w hV299 rfl dX7_undo_86 ?_
  refine lv_iload_n C0.1 C0.2.1 dX7_undo_89 rfl (lv_at hl 0 rfl) ?_
  refine hv_aalA 6 rfl C0 w rfl hV269 (hn_in (n := 3) (by decide) (by decide)) (by rw [show (3 : Int32).toNatClampNeg = 3 by decide]; exact r4 3 (by decide)) dX7_undo_90 ?_
  refine lv_iconst (v := 0) C0.1 C0.2.1 dX7_undo_91 (by decide) ?_
  refine lv_bipush (v := 16) C0.1 C0.2.1 dX7_undo_92 (by decide) ?_
  refine hv_copyi C0 w hl.1 kj_X7_148 hV282 hV281 (by decide) (by decide) (by decide) (by decide) (by decide) (by decide) (Nat.le_of_ble_eq_true rfl) dX7_undo_94 (fun Hq lq w => ?_)
  have w := hv_w.as (a := mo + 4 + 3) (n := 16) (f := va_cpy (nu 3) (σ.1.1.2.2 3) 0 0 16) (g := P.1.2.2 3) w hv_us (fun i9 hi9 => by rw [im_cp hi9, (hk6 3 (by decide)).2.2])
  rw [hv_uu] at w
  obtain ⟨V305, eV306⟩ : ∃ W9, W9 = hv_up V267 (mo + 4 + 3) (.inl (X.2.1 0, 16, .inl (P.1.2.2 3))) := ⟨_, rfl⟩
  have w : hv_w X s V305 Hq lq := by rw [eV306]; exact w
  have hV307 : V305 (mo + 3) = some (.inl (X.2.1 6, 6, .inr (.inr (.inr (.inr rf))))) := by rw [eV306, hv_un (by omega)]; exact hV269
  have hV308 : V305 (mo + 15) = some (.inl (X.2.1 0, 4, .inl sf)) := by rw [eV306, hv_un (by omega)]; exact hV270
  have hV309 : V305 (mo + 16) = some (.inl (X.2.1 0, 4, .inl sg9)) := by rw [eV306, hv_un (by omega)]; exact hV271
  have hV310 : V305 (mo + 17) = some (.inl (X.2.1 0, 4, .inl sh)) := by rw [eV306, hv_un (by omega)]; exact hV272
  have hV311 : V305 (mo + 18) = some (.inl (X.2.1 0, 8, .inl ef)) := by rw [eV306, hv_un (by omega)]; exact hV273
  have hV312 : V305 (mo + 19) = some (.inl (X.2.1 0, 8, .inl eg)) := by rw [eV306, hv_un (by omega)]; exact hV274
  have hV313 : V305 (mo + 21) = some (.inl (X.2.1 0, 8, .inl bf)) := by rw [eV306, hv_un (by omega)]; exact hV275
  have hV314 : V305 (mo + 22) = some (.inl (X.2.1 0, 8, .inl bg)) := by rw [eV306, hv_un (by omega)]; exact hV276
  have hV315 : V305 (mo + 27 + 0) = some (.inl (X.2.1 0, 16, .inl (nu 0))) := by rw [eV306, hv_un (by omega)]; exact hV277
  have hV316 : V305 (mo + 27 + 1) = some (.inl (X.2.1 0, 16, .inl (nu 1))) := by rw [eV306, hv_un (by omega)]; exact hV278
  have hV317 : V305 (mo + 27 + 2) = some (.inl (X.2.1 0, 16, .inl (nu 2))) := by rw [eV306, hv_un (by omega)]; exact hV280
  have hV319 : V305 (mo + 27 + 3) = some (.inl (X.2.1 0, 16, .inl (nu 3))) := by rw [eV306, hv_un (by omega)]; exact hV282
  have hV320 : V305 (mo + 4 + 4) = some (.inl (X.2.1 0, 16, .inl (σ.1.1.2.2 4))) := by rw [eV306, hv_un (by omega)]; exact hV283
  have hV321 : V305 (mo + 27 + 4) = some (.inl (X.2.1 0, 16, .inl (nu 4))) := by rw [eV306, hv_un (by omega)]; exact hV284
  have hV322 : V305 (mo + 4 + 5) = some (.inl (X.2.1 0, 16, .inl (σ.1.1.2.2 5))) := by rw [eV306, hv_un (by omega)]; exact hV285
  have hV323 : V305 (mo + 27 + 5) = some (.inl (X.2.1 0, 16, .inl (nu 5))) := by rw [eV306, hv_un (by omega)]; exact hV286
  have hV324 : V305 (mo + 23) = some (.inl (X.2.1 0, 3, .inl ct)) := by rw [eV306, hv_un (by omega)]; exact hV287
  have hV325 : V305 (mo + 24) = some (.inl (X.2.1 0, 6, .inl ki)) := by rw [eV306, hv_un (by omega)]; exact hV288
  have hV326 : V305 (mo + 25) = some (.inl (X.2.1 0, 6, .inl ma)) := by rw [eV306, hv_un (by omega)]; exact hV289
  have hV327 : V305 (mo + 26) = some (.inl (X.2.1 6, 6, .inr (.inr (.inr (.inr nf))))) := by rw [eV306, hv_un (by omega)]; exact hV290
  have hV328 : V305 (mo + 33) = some (.inl (X.2.1 6, 7, .inr (.inr (.inr (.inr tf2))))) := by rw [eV306, hv_un (by omega)]; exact hV291
  have hV329 : V305 (mo + 34 + 0) = some (.inl (X.2.1 0, 8, .inl (td 0))) := by rw [eV306, hv_un (by omega)]; exact hV292
  have hV330 : V305 (mo + 34 + 1) = some (.inl (X.2.1 0, 8, .inl (td 1))) := by rw [eV306, hv_un (by omega)]; exact hV293
  have hV331 : V305 (mo + 34 + 2) = some (.inl (X.2.1 0, 8, .inl (td 2))) := by rw [eV306, hv_un (by omega)]; exact hV294
  have hV332 : V305 (mo + 34 + 3) = some (.inl (X.2.1 0, 8, .inl (td 3))) := by rw [eV306, hv_un (by omega)]; exact hV295
  have hV333 : V305 (mo + 34 + 4) = some (.inl (X.2.1 0, 8, .inl (td 4))) := by rw [eV306, hv_un (by omega)]; exact hV296
  have hV334 : V305 (mo + 34 + 5) = some (.inl (X.2.1 0, 8, .inl (td 5))) := by rw [eV306, hv_un (by omega)]; exact hV297
  have hV335 : V305 (mo + 34 + 6) = some (.inl (X.2.1 0, 8, .inl (td 6))) := by rw [eV306, hv_un (by omega)]; exact hV298
  have hV336 : V305 mo = some (.inr (7, [.ref (mo + 1), .ref (mo + 2), .ref (mo + 3), .long ab, .long be, .ref (mo + 10), .int (nI σ.2.2.1.1), .int pl, .int cl, .ref (mo + 11), .ref (mo + 12), .ref (mo + 13), .int sg, .ref (mo + 14), .ref (mo + 15), .ref (mo + 16), .ref (mo + 17), .int (nI P.2.1.1), .ref (mo + 18), .ref (mo + 19), .int (nI P.2.2.1.1), .ref (mo + 20), .ref (mo + 21), .ref (mo + 22), .int (nI P.2.2.2.1), .int 1, .ref (mo + 23), .ref (mo + 24), .ref (mo + 25), .ref (mo + 26), .ref (mo + 33), .ref (mo + 41), .ref (mo + 42), .ref (mo + 43)])) := by rw [eV306, hv_un (by omega)]; exact hV299
  have hV337 : V305 (mo + 1) = some (.inl (X.2.1 0, 6, .inl P.1.1)) := by rw [eV306, hv_un (by omega)]; exact hV300
  have hV338 : V305 (mo + 2) = some (.inl (X.2.1 0, 6, .inl (fun j => nI (P.1.2.1 j)))) := by rw [eV306, hv_un (by omega)]; exact hV301
  have hV339 : V305 (mo + 4 + 0) = some (.inl (X.2.1 0, 16, .inl (P.1.2.2 0))) := by rw [eV306, hv_un (by omega)]; exact hV302
  have hV340 : V305 (mo + 4 + 1) = some (.inl (X.2.1 0, 16, .inl (P.1.2.2 1))) := by rw [eV306, hv_un (by omega)]; exact hV303
  have hV341 : V305 (mo + 4 + 2) = some (.inl (X.2.1 0, 16, .inl (P.1.2.2 2))) := by rw [eV306, hv_un (by omega)]; exact hV304
  have hV342 : V305 (mo + 4 + 3) = some (.inl (X.2.1 0, 16, .inl (P.1.2.2 3))) := by rw [eV306]; exact hv_us
  clear hV269 hV270 hV271 hV272 hV273 hV274 hV275 hV276 hV277 hV278 hV280 hV281 hV282 hV283 hV284 hV285 hV286 hV287 hV288 hV289 hV290 hV291 hV292 hV293 hV294 hV295 hV296 hV297 hV298 hV299 hV300 hV301 hV302 hV303 hV304
  refine lv_iinc (v := 3 + 1) (lv' := [(1, .int (3 + 1)), (0, .ref mo)]) C0.1 C0.2.1 dX7_undo_97 hl (k := 0) rfl rfl (by decide) rfl (fun ls hl => ?_)
  have hl : lv_has ls 2 [(1, .int 4), (0, .ref mo)] := by rw [show (4 : Int32) = 3 + 1 from by decide]; exact hl
  refine lv_goto (tgt := 72) C0.1 C0.2.1 dX7_undo_100 (by decide) ?_
  refine lv_iload_n C0.1 C0.2.1 dX7_undo_72 rfl (lv_at hl 0 rfl) ?_
  refine lv_bipush (v := 6) C0.1 C0.2.1 dX7_undo_73 (by decide) ?_
  refine lv_icmp_ge (tgt := 103) C0.1 C0.2.1 dX7_undo_75 (by decide) (fun h9 => absurd h9 (by decide)) (fun _ => ?_)
  refine lv_aload_n C0.1 C0.2.1 dX7_undo_78 rfl (lv_at hl 1 rfl) ?_
  refine gf_X7_72 C0 w hV336 rfl dX7_undo_79 ?_
  refine lv_iload_n C0.1 C0.2.1 dX7_undo_82 rfl (lv_at hl 0 rfl) ?_
  refine hv_aalA 6 rfl C0 w rfl hV327 (hn_in (n := 4) (by decide) (by decide)) (by rw [show (4 : Int32).toNatClampNeg = 4 by decide]; exact i5 4 (by decide)) dX7_undo_83 ?_
  refine lv_iconst (v := 0) C0.1 C0.2.1 dX7_undo_84 (by decide) ?_
  refine lv_aload_n C0.1 C0.2.1 dX7_undo_85 rfl (lv_at hl 1 rfl) ?_
  refine gf_X7_20 C0 w hV336 rfl dX7_undo_86 ?_
  refine lv_iload_n C0.1 C0.2.1 dX7_undo_89 rfl (lv_at hl 0 rfl) ?_
  refine hv_aalA 6 rfl C0 w rfl hV307 (hn_in (n := 4) (by decide) (by decide)) (by rw [show (4 : Int32).toNatClampNeg = 4 by decide]; exact r4 4 (by decide)) dX7_undo_90 ?_
  refine lv_iconst (v := 0) C0.1 C0.2.1 dX7_undo_91 (by decide) ?_
  refine lv_bipush (v := 16) C0.1 C0.2.1 dX7_undo_92 (by decide) ?_
  refine hv_copyi C0 w hl.1 kj_X7_148 hV321 hV320 (by decide) (by decide) (by decide) (by decide) (by decide) (by decide) (Nat.le_of_ble_eq_true rfl) dX7_undo_94 (fun Hq lq w => ?_)
  have w := hv_w.as (a := mo + 4 + 4) (n := 16) (f := va_cpy (nu 4) (σ.1.1.2.2 4) 0 0 16) (g := P.1.2.2 4) w hv_us (fun i9 hi9 => by rw [im_cp hi9, (hk6 4 (by decide)).2.2])
  rw [hv_uu] at w
  obtain ⟨V343, eV344⟩ : ∃ W9, W9 = hv_up V305 (mo + 4 + 4) (.inl (X.2.1 0, 16, .inl (P.1.2.2 4))) := ⟨_, rfl⟩
  have w : hv_w X s V343 Hq lq := by rw [eV344]; exact w
  have hV345 : V343 (mo + 3) = some (.inl (X.2.1 6, 6, .inr (.inr (.inr (.inr rf))))) := by rw [eV344, hv_un (by omega)]; exact hV307
  have hV346 : V343 (mo + 15) = some (.inl (X.2.1 0, 4, .inl sf)) := by rw [eV344, hv_un (by omega)]; exact hV308
  have hV347 : V343 (mo + 16) = some (.inl (X.2.1 0, 4, .inl sg9)) := by rw [eV344, hv_un (by omega)]; exact hV309
  have hV348 : V343 (mo + 17) = some (.inl (X.2.1 0, 4, .inl sh)) := by rw [eV344, hv_un (by omega)]; exact hV310
  have hV349 : V343 (mo + 18) = some (.inl (X.2.1 0, 8, .inl ef)) := by rw [eV344, hv_un (by omega)]; exact hV311
  have hV350 : V343 (mo + 19) = some (.inl (X.2.1 0, 8, .inl eg)) := by rw [eV344, hv_un (by omega)]; exact hV312
  have hV351 : V343 (mo + 21) = some (.inl (X.2.1 0, 8, .inl bf)) := by rw [eV344, hv_un (by omega)]; exact hV313
  have hV352 : V343 (mo + 22) = some (.inl (X.2.1 0, 8, .inl bg)) := by rw [eV344, hv_un (by omega)]; exact hV314
  have hV353 : V343 (mo + 27 + 0) = some (.inl (X.2.1 0, 16, .inl (nu 0))) := by rw [eV344, hv_un (by omega)]; exact hV315
  have hV354 : V343 (mo + 27 + 1) = some (.inl (X.2.1 0, 16, .inl (nu 1))) := by rw [eV344, hv_un (by omega)]; exact hV316
  have hV355 : V343 (mo + 27 + 2) = some (.inl (X.2.1 0, 16, .inl (nu 2))) := by rw [eV344, hv_un (by omega)]; exact hV317
  have hV356 : V343 (mo + 27 + 3) = some (.inl (X.2.1 0, 16, .inl (nu 3))) := by rw [eV344, hv_un (by omega)]; exact hV319
  have hV358 : V343 (mo + 27 + 4) = some (.inl (X.2.1 0, 16, .inl (nu 4))) := by rw [eV344, hv_un (by omega)]; exact hV321
  have hV359 : V343 (mo + 4 + 5) = some (.inl (X.2.1 0, 16, .inl (σ.1.1.2.2 5))) := by rw [eV344, hv_un (by omega)]; exact hV322
  have hV360 : V343 (mo + 27 + 5) = some (.inl (X.2.1 0, 16, .inl (nu 5))) := by rw [eV344, hv_un (by omega)]; exact hV323
  have hV361 : V343 (mo + 23) = some (.inl (X.2.1 0, 3, .inl ct)) := by rw [eV344, hv_un (by omega)]; exact hV324
  have hV362 : V343 (mo + 24) = some (.inl (X.2.1 0, 6, .inl ki)) := by rw [eV344, hv_un (by omega)]; exact hV325
  have hV363 : V343 (mo + 25) = some (.inl (X.2.1 0, 6, .inl ma)) := by rw [eV344, hv_un (by omega)]; exact hV326
  have hV364 : V343 (mo + 26) = some (.inl (X.2.1 6, 6, .inr (.inr (.inr (.inr nf))))) := by rw [eV344, hv_un (by omega)]; exact hV327
  have hV365 : V343 (mo + 33) = some (.inl (X.2.1 6, 7, .inr (.inr (.inr (.inr tf2))))) := by rw [eV344, hv_un (by omega)]; exact hV328
  have hV366 : V343 (mo + 34 + 0) = some (.inl (X.2.1 0, 8, .inl (td 0))) := by rw [eV344, hv_un (by omega)]; exact hV329
  have hV367 : V343 (mo + 34 + 1) = some (.inl (X.2.1 0, 8, .inl (td 1))) := by rw [eV344, hv_un (by omega)]; exact hV330
  have hV368 : V343 (mo + 34 + 2) = some (.inl (X.2.1 0, 8, .inl (td 2))) := by rw [eV344, hv_un (by omega)]; exact hV331
  have hV369 : V343 (mo + 34 + 3) = some (.inl (X.2.1 0, 8, .inl (td 3))) := by rw [eV344, hv_un (by omega)]; exact hV332
  have hV370 : V343 (mo + 34 + 4) = some (.inl (X.2.1 0, 8, .inl (td 4))) := by rw [eV344, hv_un (by omega)]; exact hV333
  have hV371 : V343 (mo + 34 + 5) = some (.inl (X.2.1 0, 8, .inl (td 5))) := by rw [eV344, hv_un (by omega)]; exact hV334
  have hV372 : V343 (mo + 34 + 6) = some (.inl (X.2.1 0, 8, .inl (td 6))) := by rw [eV344, hv_un (by omega)]; exact hV335
  have hV373 : V343 mo = some (.inr (7, [.ref (mo + 1), .ref (mo + 2), .ref (mo + 3), .long ab, .long be, .ref (mo + 10), .int (nI σ.2.2.1.1), .int pl, .int cl, .ref (mo + 11), .ref (mo + 12), .ref (mo + 13), .int sg, .ref (mo + 14), .ref (mo + 15), .ref (mo + 16), .ref (mo + 17), .int (nI P.2.1.1), .ref (mo + 18), .ref (mo + 19), .int (nI P.2.2.1.1), .ref (mo + 20), .ref (mo + 21), .ref (mo + 22), .int (nI P.2.2.2.1), .int 1, .ref (mo + 23), .ref (mo + 24), .ref (mo + 25), .ref (mo + 26), .ref (mo + 33), .ref (mo + 41), .ref (mo + 42), .ref (mo + 43)])) := by rw [eV344, hv_un (by omega)]; exact hV336
  have hV374 : V343 (mo + 1) = some (.inl (X.2.1 0, 6, .inl P.1.1)) := by rw [eV344, hv_un (by omega)]; exact hV337
  have hV375 : V343 (mo + 2) = some (.inl (X.2.1 0, 6, .inl (fun j => nI (P.1.2.1 j)))) := by rw [eV344, hv_un (by omega)]; exact hV338
  have hV376 : V343 (mo + 4 + 0) = some (.inl (X.2.1 0, 16, .inl (P.1.2.2 0))) := by rw [eV344, hv_un (by omega)]; exact hV339
  have hV377 : V343 (mo + 4 + 1) = some (.inl (X.2.1 0, 16, .inl (P.1.2.2 1))) := by rw [eV344, hv_un (by omega)]; exact hV340
  have hV378 : V343 (mo + 4 + 2) = some (.inl (X.2.1 0, 16, .inl (P.1.2.2 2))) := by rw [eV344, hv_un (by omega)]; exact hV341
  have hV379 : V343 (mo + 4 + 3) = some (.inl (X.2.1 0, 16, .inl (P.1.2.2 3))) := by rw [eV344, hv_un (by omega)]; exact hV342
  have hV380 : V343 (mo + 4 + 4) = some (.inl (X.2.1 0, 16, .inl (P.1.2.2 4))) := by rw [eV344]; exact hv_us
  clear hV307 hV308 hV309 hV310 hV311 hV312 hV313 hV314 hV315 hV316 hV317 hV319 hV320 hV321 hV322 hV323 hV324 hV325 hV326 hV327 hV328 hV329 hV330 hV331 hV332 hV333 hV334 hV335 hV336 hV337 hV338 hV339 hV340 hV341 hV342
  refine lv_iinc (v := 4 + 1) (lv' := [(1, .int (4 + 1)), (0, .ref mo)]) C0.1 C0.2.1 dX7_undo_97 hl (k := 0) rfl rfl (by decide) rfl (fun ls hl => ?_)
  have hl : lv_has ls 2 [(1, .int 5), (0, .ref mo)] := by rw [show (5 : Int32) = 4 + 1 from by decide]; exact hl
  refine lv_goto (tgt := 72) C0.1 C0.2.1 dX7_undo_100 (by decide) ?_
  refine lv_iload_n C0.1 C0.2.1 dX7_undo_72 rfl (lv_at hl 0 rfl) ?_
  refine lv_bipush (v := 6) C0.1 C0.2.1 dX7_undo_73 (by decide) ?_
  refine lv_icmp_ge (tgt := 103) C0.1 C0.2.1 dX7_undo_75 (by decide) (fun h9 => absurd h9 (by decide)) (fun _ => ?_)
  refine lv_aload_n C0.1 C0.2.1 dX7_undo_78 rfl (lv_at hl 1 rfl) ?_
  refine gf_X7_72 C0 w hV373 rfl dX7_undo_79 ?_
  refine lv_iload_n C0.1 C0.2.1 dX7_undo_82 rfl (lv_at hl 0 rfl) ?_
  refine hv_aalA 6 rfl C0 w rfl hV364 (hn_in (n := 5) (by decide) (by decide)) (by rw [show (5 : Int32).toNatClampNeg = 5 by decide]; exact i5 5 (by decide)) dX7_undo_83 ?_
  refine lv_iconst (v := 0) C0.1 C0.2.1 dX7_undo_84 (by decide) ?_
  refine lv_aload_n C0.1 C0.2.1 dX7_undo_85 rfl (lv_at hl 1 rfl) ?_
  refine gf_X7_20 C0 w hV373 rfl dX7_undo_86 ?_
  refine lv_iload_n C0.1 C0.2.1 dX7_undo_89 rfl (lv_at hl 0 rfl) ?_
  refine hv_aalA 6 rfl C0 w rfl hV345 (hn_in (n := 5) (by decide) (by decide)) (by rw [show (5 : Int32).toNatClampNeg = 5 by decide]; exact r4 5 (by decide)) dX7_undo_90 ?_
  refine lv_iconst (v := 0) C0.1 C0.2.1 dX7_undo_91 (by decide) ?_
  refine lv_bipush (v := 16) C0.1 C0.2.1 dX7_undo_92 (by decide) ?_
  refine hv_copyi C0 w hl.1 kj_X7_148 hV360 hV359 (by decide) (by decide) (by decide) (by decide) (by decide) (by decide) (Nat.le_of_ble_eq_true rfl) dX7_undo_94 (fun Hq lq w => ?_)
  have w := hv_w.as (a := mo + 4 + 5) (n := 16) (f := va_cpy (nu 5) (σ.1.1.2.2 5) 0 0 16) (g := P.1.2.2 5) w hv_us (fun i9 hi9 => by rw [im_cp hi9, (hk6 5 (by decide)).2.2])
  rw [hv_uu] at w
  obtain ⟨V381, eV382⟩ : ∃ W9, W9 = hv_up V343 (mo + 4 + 5) (.inl (X.2.1 0, 16, .inl (P.1.2.2 5))) := ⟨_, rfl⟩
  have w : hv_w X s V381 Hq lq := by rw [eV382]; exact w
  have hV383 : V381 (mo + 3) = some (.inl (X.2.1 6, 6, .inr (.inr (.inr (.inr rf))))) := by rw [eV382, hv_un (by omega)]; exact hV345
  have hV384 : V381 (mo + 15) = some (.inl (X.2.1 0, 4, .inl sf)) := by rw [eV382, hv_un (by omega)]; exact hV346
  have hV385 : V381 (mo + 16) = some (.inl (X.2.1 0, 4, .inl sg9)) := by rw [eV382, hv_un (by omega)]; exact hV347
  have hV386 : V381 (mo + 17) = some (.inl (X.2.1 0, 4, .inl sh)) := by rw [eV382, hv_un (by omega)]; exact hV348
  have hV387 : V381 (mo + 18) = some (.inl (X.2.1 0, 8, .inl ef)) := by rw [eV382, hv_un (by omega)]; exact hV349
  have hV388 : V381 (mo + 19) = some (.inl (X.2.1 0, 8, .inl eg)) := by rw [eV382, hv_un (by omega)]; exact hV350
  have hV389 : V381 (mo + 21) = some (.inl (X.2.1 0, 8, .inl bf)) := by rw [eV382, hv_un (by omega)]; exact hV351
  have hV390 : V381 (mo + 22) = some (.inl (X.2.1 0, 8, .inl bg)) := by rw [eV382, hv_un (by omega)]; exact hV352
  have hV391 : V381 (mo + 27 + 0) = some (.inl (X.2.1 0, 16, .inl (nu 0))) := by rw [eV382, hv_un (by omega)]; exact hV353
  have hV392 : V381 (mo + 27 + 1) = some (.inl (X.2.1 0, 16, .inl (nu 1))) := by rw [eV382, hv_un (by omega)]; exact hV354
  have hV393 : V381 (mo + 27 + 2) = some (.inl (X.2.1 0, 16, .inl (nu 2))) := by rw [eV382, hv_un (by omega)]; exact hV355
  have hV394 : V381 (mo + 27 + 3) = some (.inl (X.2.1 0, 16, .inl (nu 3))) := by rw [eV382, hv_un (by omega)]; exact hV356
  have hV395 : V381 (mo + 27 + 4) = some (.inl (X.2.1 0, 16, .inl (nu 4))) := by rw [eV382, hv_un (by omega)]; exact hV358
  have hV397 : V381 (mo + 27 + 5) = some (.inl (X.2.1 0, 16, .inl (nu 5))) := by rw [eV382, hv_un (by omega)]; exact hV360
  have hV398 : V381 (mo + 23) = some (.inl (X.2.1 0, 3, .inl ct)) := by rw [eV382, hv_un (by omega)]; exact hV361
  have hV399 : V381 (mo + 24) = some (.inl (X.2.1 0, 6, .inl ki)) := by rw [eV382, hv_un (by omega)]; exact hV362
  have hV400 : V381 (mo + 25) = some (.inl (X.2.1 0, 6, .inl ma)) := by rw [eV382, hv_un (by omega)]; exact hV363
  have hV401 : V381 (mo + 26) = some (.inl (X.2.1 6, 6, .inr (.inr (.inr (.inr nf))))) := by rw [eV382, hv_un (by omega)]; exact hV364
  have hV402 : V381 (mo + 33) = some (.inl (X.2.1 6, 7, .inr (.inr (.inr (.inr tf2))))) := by rw [eV382, hv_un (by omega)]; exact hV365
  have hV403 : V381 (mo + 34 + 0) = some (.inl (X.2.1 0, 8, .inl (td 0))) := by rw [eV382, hv_un (by omega)]; exact hV366
  have hV404 : V381 (mo + 34 + 1) = some (.inl (X.2.1 0, 8, .inl (td 1))) := by rw [eV382, hv_un (by omega)]; exact hV367
  have hV405 : V381 (mo + 34 + 2) = some (.inl (X.2.1 0, 8, .inl (td 2))) := by rw [eV382, hv_un (by omega)]; exact hV368
  have hV406 : V381 (mo + 34 + 3) = some (.inl (X.2.1 0, 8, .inl (td 3))) := by rw [eV382, hv_un (by omega)]; exact hV369
  have hV407 : V381 (mo + 34 + 4) = some (.inl (X.2.1 0, 8, .inl (td 4))) := by rw [eV382, hv_un (by omega)]; exact hV370
  have hV408 : V381 (mo + 34 + 5) = some (.inl (X.2.1 0, 8, .inl (td 5))) := by rw [eV382, hv_un (by omega)]; exact hV371
  have hV409 : V381 (mo + 34 + 6) = some (.inl (X.2.1 0, 8, .inl (td 6))) := by rw [eV382, hv_un (by omega)]; exact hV372
  have hV410 : V381 mo = some (.inr (7, [.ref (mo + 1), .ref (mo + 2), .ref (mo + 3), .long ab, .long be, .ref (mo + 10), .int (nI σ.2.2.1.1), .int pl, .int cl, .ref (mo + 11), .ref (mo + 12), .ref (mo + 13), .int sg, .ref (mo + 14), .ref (mo + 15), .ref (mo + 16), .ref (mo + 17), .int (nI P.2.1.1), .ref (mo + 18), .ref (mo + 19), .int (nI P.2.2.1.1), .ref (mo + 20), .ref (mo + 21), .ref (mo + 22), .int (nI P.2.2.2.1), .int 1, .ref (mo + 23), .ref (mo + 24), .ref (mo + 25), .ref (mo + 26), .ref (mo + 33), .ref (mo + 41), .ref (mo + 42), .ref (mo + 43)])) := by rw [eV382, hv_un (by omega)]; exact hV373
  have hV411 : V381 (mo + 1) = some (.inl (X.2.1 0, 6, .inl P.1.1)) := by rw [eV382, hv_un (by omega)]; exact hV374
  have hV412 : V381 (mo + 2) = some (.inl (X.2.1 0, 6, .inl (fun j => nI (P.1.2.1 j)))) := by rw [eV382, hv_un (by omega)]; exact hV375
  have hV413 : V381 (mo + 4 + 0) = some (.inl (X.2.1 0, 16, .inl (P.1.2.2 0))) := by rw [eV382, hv_un (by omega)]; exact hV376
  have hV414 : V381 (mo + 4 + 1) = some (.inl (X.2.1 0, 16, .inl (P.1.2.2 1))) := by rw [eV382, hv_un (by omega)]; exact hV377
  have hV415 : V381 (mo + 4 + 2) = some (.inl (X.2.1 0, 16, .inl (P.1.2.2 2))) := by rw [eV382, hv_un (by omega)]; exact hV378
  have hV416 : V381 (mo + 4 + 3) = some (.inl (X.2.1 0, 16, .inl (P.1.2.2 3))) := by rw [eV382, hv_un (by omega)]; exact hV379
  have hV417 : V381 (mo + 4 + 4) = some (.inl (X.2.1 0, 16, .inl (P.1.2.2 4))) := by rw [eV382, hv_un (by omega)]; exact hV380
  have hV418 : V381 (mo + 4 + 5) = some (.inl (X.2.1 0, 16, .inl (P.1.2.2 5))) := by rw [eV382]; exact hv_us
  clear hV345 hV346 hV347 hV348 hV349 hV350 hV351 hV352 hV353 hV354 hV355 hV356 hV358 hV359 hV360 hV361 hV362 hV363 hV364 hV365 hV366 hV367 hV368 hV369 hV370 hV371 hV372 hV373 hV374 hV375 hV376 hV377 hV378 hV379 hV380
  refine lv_iinc (v := 5 + 1) (lv' := [(1, .int (5 + 1)), (0, .ref mo)]) C0.1 C0.2.1 dX7_undo_97 hl (k := 0) rfl rfl (by decide) rfl (fun ls hl => ?_)
  have hl : lv_has ls 2 [(1, .int 6), (0, .ref mo)] := by rw [show (6 : Int32) = 5 + 1 from by decide]; exact hl
  refine lv_goto (tgt := 72) C0.1 C0.2.1 dX7_undo_100 (by decide) ?_
  refine lv_iload_n C0.1 C0.2.1 dX7_undo_72 rfl (lv_at hl 0 rfl) ?_
  refine lv_bipush (v := 6) C0.1 C0.2.1 dX7_undo_73 (by decide) ?_
  refine lv_icmp_ge (tgt := 103) C0.1 C0.2.1 dX7_undo_75 (by decide) (fun _ => ?_) (fun h9 => absurd h9 (by decide))
  refine lv_iconst (v := 0) C0.1 C0.2.1 dX7_undo_103 (by decide) ?_
  refine lv_istore_n (lv' := [(1, .int 0), (0, .ref mo)]) C0.1 C0.2.1 dX7_undo_104 rfl hl (by decide) rfl (fun ls hl => ?_)
  refine lv_iload_n C0.1 C0.2.1 dX7_undo_105 rfl (lv_at hl 0 rfl) ?_
  refine lv_bipush (v := 7) C0.1 C0.2.1 dX7_undo_106 (by decide) ?_
  refine lv_icmp_ge (tgt := 139) C0.1 C0.2.1 dX7_undo_108 (by decide) (fun h9 => absurd h9 (by decide)) (fun _ => ?_)
  refine lv_aload_n C0.1 C0.2.1 dX7_undo_111 rfl (lv_at hl 1 rfl) ?_
  refine gf_X7_75 C0 w hV410 rfl dX7_undo_112 ?_
  refine lv_iload_n C0.1 C0.2.1 dX7_undo_115 rfl (lv_at hl 0 rfl) ?_
  refine hv_aalA 6 rfl C0 w rfl hV402 (hn_in (n := 0) (by decide) (by decide)) (by rw [show (0 : Int32).toNatClampNeg = 0 by decide]; exact i8 0 (by decide)) dX7_undo_116 ?_
  refine lv_iconst (v := 0) C0.1 C0.2.1 dX7_undo_117 (by decide) ?_
  refine lv_aload_n C0.1 C0.2.1 dX7_undo_118 rfl (lv_at hl 1 rfl) ?_
  refine lv_iload_n C0.1 C0.2.1 dX7_undo_119 rfl (lv_at hl 0 rfl) ?_
  refine hv_cVr C0 w kl_X7_310 kv_X7_toldOf rfl hV410 (c_X7_toldOf0 hV410) (by decide) (by decide) rfl hl.1 rfl (Nat.le_of_ble_eq_true rfl) dX7_undo_120 ⟨Nat.le_refl _, Nat.le_refl _⟩ (fun x419 V420 Hq lq hp421 w => ?_)
  obtain ⟨e9, rfl⟩ := hp421
  rw [e9] at w; clear e9
  refine lv_iconst (v := 0) C0.1 C0.2.1 dX7_undo_123 (by decide) ?_
  refine lv_aload_n C0.1 C0.2.1 dX7_undo_124 rfl (lv_at hl 1 rfl) ?_
  refine lv_iload_n C0.1 C0.2.1 dX7_undo_125 rfl (lv_at hl 0 rfl) ?_
  refine hv_cVr C0 w kl_X7_310 kv_X7_toldOf rfl hV410 (c_X7_toldOf0 hV410) (by decide) (by decide) rfl hl.1 rfl (Nat.le_of_ble_eq_true rfl) dX7_undo_126 ⟨Nat.le_refl _, Nat.le_refl _⟩ (fun x422 V423 Hq lq hp424 w => ?_)
  obtain ⟨e9, rfl⟩ := hp424
  rw [e9] at w; clear e9
  refine hv_alen 0 (v := Int32.ofNat 4) C0 w rfl hV384 rfl dX7_undo_129 ?_
  refine hv_copyi C0 w hl.1 kj_X7_148 hV403 hV384 (by decide) (by decide) (by decide) (by decide) (by decide) (by decide) (Nat.le_of_ble_eq_true rfl) dX7_undo_130 (fun Hq lq w => ?_)
  rw [show (0 : Int32).toNatClampNeg = 0 by decide, show ((Int32.ofNat 4) : Int32).toNatClampNeg = 4 by decide] at w
  obtain ⟨V425, eV426⟩ : ∃ W9, W9 = hv_up V381 (mo + 15) (.inl (X.2.1 0, 4, .inl (va_cpy (td 0) sf 0 0 4))) := ⟨_, rfl⟩
  have w : hv_w X s V425 Hq lq := by rw [eV426]; exact w
  have hV427 : V425 (mo + 3) = some (.inl (X.2.1 6, 6, .inr (.inr (.inr (.inr rf))))) := by rw [eV426, hv_un (by omega)]; exact hV383
  have hV429 : V425 (mo + 16) = some (.inl (X.2.1 0, 4, .inl sg9)) := by rw [eV426, hv_un (by omega)]; exact hV385
  have hV430 : V425 (mo + 17) = some (.inl (X.2.1 0, 4, .inl sh)) := by rw [eV426, hv_un (by omega)]; exact hV386
  have hV431 : V425 (mo + 18) = some (.inl (X.2.1 0, 8, .inl ef)) := by rw [eV426, hv_un (by omega)]; exact hV387
  have hV432 : V425 (mo + 19) = some (.inl (X.2.1 0, 8, .inl eg)) := by rw [eV426, hv_un (by omega)]; exact hV388
  have hV433 : V425 (mo + 21) = some (.inl (X.2.1 0, 8, .inl bf)) := by rw [eV426, hv_un (by omega)]; exact hV389
  have hV434 : V425 (mo + 22) = some (.inl (X.2.1 0, 8, .inl bg)) := by rw [eV426, hv_un (by omega)]; exact hV390
  have hV435 : V425 (mo + 27 + 0) = some (.inl (X.2.1 0, 16, .inl (nu 0))) := by rw [eV426, hv_un (by omega)]; exact hV391
  have hV436 : V425 (mo + 27 + 1) = some (.inl (X.2.1 0, 16, .inl (nu 1))) := by rw [eV426, hv_un (by omega)]; exact hV392
  have hV437 : V425 (mo + 27 + 2) = some (.inl (X.2.1 0, 16, .inl (nu 2))) := by rw [eV426, hv_un (by omega)]; exact hV393
  have hV438 : V425 (mo + 27 + 3) = some (.inl (X.2.1 0, 16, .inl (nu 3))) := by rw [eV426, hv_un (by omega)]; exact hV394
  have hV439 : V425 (mo + 27 + 4) = some (.inl (X.2.1 0, 16, .inl (nu 4))) := by rw [eV426, hv_un (by omega)]; exact hV395
  have hV440 : V425 (mo + 27 + 5) = some (.inl (X.2.1 0, 16, .inl (nu 5))) := by rw [eV426, hv_un (by omega)]; exact hV397
  have hV441 : V425 (mo + 23) = some (.inl (X.2.1 0, 3, .inl ct)) := by rw [eV426, hv_un (by omega)]; exact hV398
  have hV442 : V425 (mo + 24) = some (.inl (X.2.1 0, 6, .inl ki)) := by rw [eV426, hv_un (by omega)]; exact hV399
  have hV443 : V425 (mo + 25) = some (.inl (X.2.1 0, 6, .inl ma)) := by rw [eV426, hv_un (by omega)]; exact hV400
  have hV444 : V425 (mo + 26) = some (.inl (X.2.1 6, 6, .inr (.inr (.inr (.inr nf))))) := by rw [eV426, hv_un (by omega)]; exact hV401
  have hV445 : V425 (mo + 33) = some (.inl (X.2.1 6, 7, .inr (.inr (.inr (.inr tf2))))) := by rw [eV426, hv_un (by omega)]; exact hV402
  have hV446 : V425 (mo + 34 + 0) = some (.inl (X.2.1 0, 8, .inl (td 0))) := by rw [eV426, hv_un (by omega)]; exact hV403
  have hV447 : V425 (mo + 34 + 1) = some (.inl (X.2.1 0, 8, .inl (td 1))) := by rw [eV426, hv_un (by omega)]; exact hV404
  have hV448 : V425 (mo + 34 + 2) = some (.inl (X.2.1 0, 8, .inl (td 2))) := by rw [eV426, hv_un (by omega)]; exact hV405
  have hV449 : V425 (mo + 34 + 3) = some (.inl (X.2.1 0, 8, .inl (td 3))) := by rw [eV426, hv_un (by omega)]; exact hV406
  have hV450 : V425 (mo + 34 + 4) = some (.inl (X.2.1 0, 8, .inl (td 4))) := by rw [eV426, hv_un (by omega)]; exact hV407
  have hV451 : V425 (mo + 34 + 5) = some (.inl (X.2.1 0, 8, .inl (td 5))) := by rw [eV426, hv_un (by omega)]; exact hV408
  have hV452 : V425 (mo + 34 + 6) = some (.inl (X.2.1 0, 8, .inl (td 6))) := by rw [eV426, hv_un (by omega)]; exact hV409
  have hV453 : V425 mo = some (.inr (7, [.ref (mo + 1), .ref (mo + 2), .ref (mo + 3), .long ab, .long be, .ref (mo + 10), .int (nI σ.2.2.1.1), .int pl, .int cl, .ref (mo + 11), .ref (mo + 12), .ref (mo + 13), .int sg, .ref (mo + 14), .ref (mo + 15), .ref (mo + 16), .ref (mo + 17), .int (nI P.2.1.1), .ref (mo + 18), .ref (mo + 19), .int (nI P.2.2.1.1), .ref (mo + 20), .ref (mo + 21), .ref (mo + 22), .int (nI P.2.2.2.1), .int 1, .ref (mo + 23), .ref (mo + 24), .ref (mo + 25), .ref (mo + 26), .ref (mo + 33), .ref (mo + 41), .ref (mo + 42), .ref (mo + 43)])) := by rw [eV426, hv_un (by omega)]; exact hV410
  have hV454 : V425 (mo + 1) = some (.inl (X.2.1 0, 6, .inl P.1.1)) := by rw [eV426, hv_un (by omega)]; exact hV411
  have hV455 : V425 (mo + 2) = some (.inl (X.2.1 0, 6, .inl (fun j => nI (P.1.2.1 j)))) := by rw [eV426, hv_un (by omega)]; exact hV412
  have hV456 : V425 (mo + 4 + 0) = some (.inl (X.2.1 0, 16, .inl (P.1.2.2 0))) := by rw [eV426, hv_un (by omega)]; exact hV413
  have hV457 : V425 (mo + 4 + 1) = some (.inl (X.2.1 0, 16, .inl (P.1.2.2 1))) := by rw [eV426, hv_un (by omega)]; exact hV414
  have hV458 : V425 (mo + 4 + 2) = some (.inl (X.2.1 0, 16, .inl (P.1.2.2 2))) := by rw [eV426, hv_un (by omega)]; exact hV415
  have hV459 : V425 (mo + 4 + 3) = some (.inl (X.2.1 0, 16, .inl (P.1.2.2 3))) := by rw [eV426, hv_un (by omega)]; exact hV416
  have hV460 : V425 (mo + 4 + 4) = some (.inl (X.2.1 0, 16, .inl (P.1.2.2 4))) := by rw [eV426, hv_un (by omega)]; exact hV417
  have hV461 : V425 (mo + 4 + 5) = some (.inl (X.2.1 0, 16, .inl (P.1.2.2 5))) := by rw [eV426, hv_un (by omega)]; exact hV418
  have hV462 : V425 (mo + 15) = some (.inl (X.2.1 0, 4, .inl (va_cpy (td 0) sf 0 0 4))) := by rw [eV426]; exact hv_us
  clear hV383 hV384 hV385 hV386 hV387 hV388 hV389 hV390 hV391 hV392 hV393 hV394 hV395 hV397 hV398 hV399 hV400 hV401 hV402 hV403 hV404 hV405 hV406 hV407 hV408 hV409 hV410 hV411 hV412 hV413 hV414 hV415 hV416 hV417 hV418
  refine lv_iinc (v := 0 + 1) (lv' := [(1, .int (0 + 1)), (0, .ref mo)]) C0.1 C0.2.1 dX7_undo_133 hl (k := 0) rfl rfl (by decide) rfl (fun ls hl => ?_)
  have hl : lv_has ls 2 [(1, .int 1), (0, .ref mo)] := by rw [show (1 : Int32) = 0 + 1 from by decide]; exact hl
  refine lv_goto (tgt := 105) C0.1 C0.2.1 dX7_undo_136 (by decide) ?_
  refine lv_iload_n C0.1 C0.2.1 dX7_undo_105 rfl (lv_at hl 0 rfl) ?_
  refine lv_bipush (v := 7) C0.1 C0.2.1 dX7_undo_106 (by decide) ?_
  refine lv_icmp_ge (tgt := 139) C0.1 C0.2.1 dX7_undo_108 (by decide) (fun h9 => absurd h9 (by decide)) (fun _ => ?_)
  refine lv_aload_n C0.1 C0.2.1 dX7_undo_111 rfl (lv_at hl 1 rfl) ?_
  refine gf_X7_75 C0 w hV453 rfl dX7_undo_112 ?_
  refine lv_iload_n C0.1 C0.2.1 dX7_undo_115 rfl (lv_at hl 0 rfl) ?_
  refine hv_aalA 6 rfl C0 w rfl hV445 (hn_in (n := 1) (by decide) (by decide)) (by rw [show (1 : Int32).toNatClampNeg = 1 by decide]; exact i8 1 (by decide)) dX7_undo_116 ?_
  refine lv_iconst (v := 0) C0.1 C0.2.1 dX7_undo_117 (by decide) ?_
  refine lv_aload_n C0.1 C0.2.1 dX7_undo_118 rfl (lv_at hl 1 rfl) ?_
  refine lv_iload_n C0.1 C0.2.1 dX7_undo_119 rfl (lv_at hl 0 rfl) ?_
  refine hv_cVr C0 w kl_X7_310 kv_X7_toldOf rfl hV453 (c_X7_toldOf1 hV453) (by decide) (by decide) rfl hl.1 rfl (Nat.le_of_ble_eq_true rfl) dX7_undo_120 ⟨Nat.le_refl _, Nat.le_refl _⟩ (fun x463 V464 Hq lq hp465 w => ?_)
  obtain ⟨e9, rfl⟩ := hp465
  rw [e9] at w; clear e9
  refine lv_iconst (v := 0) C0.1 C0.2.1 dX7_undo_123 (by decide) ?_
  refine lv_aload_n C0.1 C0.2.1 dX7_undo_124 rfl (lv_at hl 1 rfl) ?_
  refine lv_iload_n C0.1 C0.2.1 dX7_undo_125 rfl (lv_at hl 0 rfl) ?_
  refine hv_cVr C0 w kl_X7_310 kv_X7_toldOf rfl hV453 (c_X7_toldOf1 hV453) (by decide) (by decide) rfl hl.1 rfl (Nat.le_of_ble_eq_true rfl) dX7_undo_126 ⟨Nat.le_refl _, Nat.le_refl _⟩ (fun x466 V467 Hq lq hp468 w => ?_)
  obtain ⟨e9, rfl⟩ := hp468
  rw [e9] at w; clear e9
  refine hv_alen 0 (v := Int32.ofNat 4) C0 w rfl hV429 rfl dX7_undo_129 ?_
  refine hv_copyi C0 w hl.1 kj_X7_148 hV447 hV429 (by decide) (by decide) (by decide) (by decide) (by decide) (by decide) (Nat.le_of_ble_eq_true rfl) dX7_undo_130 (fun Hq lq w => ?_)
  rw [show (0 : Int32).toNatClampNeg = 0 by decide, show ((Int32.ofNat 4) : Int32).toNatClampNeg = 4 by decide] at w
  obtain ⟨V469, eV470⟩ : ∃ W9, W9 = hv_up V425 (mo + 16) (.inl (X.2.1 0, 4, .inl (va_cpy (td 1) sg9 0 0 4))) := ⟨_, rfl⟩
  have w : hv_w X s V469 Hq lq := by rw [eV470]; exact w
  have hV471 : V469 (mo + 3) = some (.inl (X.2.1 6, 6, .inr (.inr (.inr (.inr rf))))) := by rw [eV470, hv_un (by omega)]; exact hV427
  have hV473 : V469 (mo + 17) = some (.inl (X.2.1 0, 4, .inl sh)) := by rw [eV470, hv_un (by omega)]; exact hV430
  have hV474 : V469 (mo + 18) = some (.inl (X.2.1 0, 8, .inl ef)) := by rw [eV470, hv_un (by omega)]; exact hV431
  have hV475 : V469 (mo + 19) = some (.inl (X.2.1 0, 8, .inl eg)) := by rw [eV470, hv_un (by omega)]; exact hV432
  have hV476 : V469 (mo + 21) = some (.inl (X.2.1 0, 8, .inl bf)) := by rw [eV470, hv_un (by omega)]; exact hV433
  have hV477 : V469 (mo + 22) = some (.inl (X.2.1 0, 8, .inl bg)) := by rw [eV470, hv_un (by omega)]; exact hV434
  have hV478 : V469 (mo + 27 + 0) = some (.inl (X.2.1 0, 16, .inl (nu 0))) := by rw [eV470, hv_un (by omega)]; exact hV435
  have hV479 : V469 (mo + 27 + 1) = some (.inl (X.2.1 0, 16, .inl (nu 1))) := by rw [eV470, hv_un (by omega)]; exact hV436
  have hV480 : V469 (mo + 27 + 2) = some (.inl (X.2.1 0, 16, .inl (nu 2))) := by rw [eV470, hv_un (by omega)]; exact hV437
  have hV481 : V469 (mo + 27 + 3) = some (.inl (X.2.1 0, 16, .inl (nu 3))) := by rw [eV470, hv_un (by omega)]; exact hV438
  have hV482 : V469 (mo + 27 + 4) = some (.inl (X.2.1 0, 16, .inl (nu 4))) := by rw [eV470, hv_un (by omega)]; exact hV439
  have hV483 : V469 (mo + 27 + 5) = some (.inl (X.2.1 0, 16, .inl (nu 5))) := by rw [eV470, hv_un (by omega)]; exact hV440
  have hV484 : V469 (mo + 23) = some (.inl (X.2.1 0, 3, .inl ct)) := by rw [eV470, hv_un (by omega)]; exact hV441
  have hV485 : V469 (mo + 24) = some (.inl (X.2.1 0, 6, .inl ki)) := by rw [eV470, hv_un (by omega)]; exact hV442
  have hV486 : V469 (mo + 25) = some (.inl (X.2.1 0, 6, .inl ma)) := by rw [eV470, hv_un (by omega)]; exact hV443
  have hV487 : V469 (mo + 26) = some (.inl (X.2.1 6, 6, .inr (.inr (.inr (.inr nf))))) := by rw [eV470, hv_un (by omega)]; exact hV444
  have hV488 : V469 (mo + 33) = some (.inl (X.2.1 6, 7, .inr (.inr (.inr (.inr tf2))))) := by rw [eV470, hv_un (by omega)]; exact hV445
  have hV489 : V469 (mo + 34 + 0) = some (.inl (X.2.1 0, 8, .inl (td 0))) := by rw [eV470, hv_un (by omega)]; exact hV446
  have hV490 : V469 (mo + 34 + 1) = some (.inl (X.2.1 0, 8, .inl (td 1))) := by rw [eV470, hv_un (by omega)]; exact hV447
  have hV491 : V469 (mo + 34 + 2) = some (.inl (X.2.1 0, 8, .inl (td 2))) := by rw [eV470, hv_un (by omega)]; exact hV448
  have hV492 : V469 (mo + 34 + 3) = some (.inl (X.2.1 0, 8, .inl (td 3))) := by rw [eV470, hv_un (by omega)]; exact hV449
  have hV493 : V469 (mo + 34 + 4) = some (.inl (X.2.1 0, 8, .inl (td 4))) := by rw [eV470, hv_un (by omega)]; exact hV450
  have hV494 : V469 (mo + 34 + 5) = some (.inl (X.2.1 0, 8, .inl (td 5))) := by rw [eV470, hv_un (by omega)]; exact hV451
  have hV495 : V469 (mo + 34 + 6) = some (.inl (X.2.1 0, 8, .inl (td 6))) := by rw [eV470, hv_un (by omega)]; exact hV452
  have hV496 : V469 mo = some (.inr (7, [.ref (mo + 1), .ref (mo + 2), .ref (mo + 3), .long ab, .long be, .ref (mo + 10), .int (nI σ.2.2.1.1), .int pl, .int cl, .ref (mo + 11), .ref (mo + 12), .ref (mo + 13), .int sg, .ref (mo + 14), .ref (mo + 15), .ref (mo + 16), .ref (mo + 17), .int (nI P.2.1.1), .ref (mo + 18), .ref (mo + 19), .int (nI P.2.2.1.1), .ref (mo + 20), .ref (mo + 21), .ref (mo + 22), .int (nI P.2.2.2.1), .int 1, .ref (mo + 23), .ref (mo + 24), .ref (mo + 25), .ref (mo + 26), .ref (mo + 33), .ref (mo + 41), .ref (mo + 42), .ref (mo + 43)])) := by rw [eV470, hv_un (by omega)]; exact hV453
  have hV497 : V469 (mo + 1) = some (.inl (X.2.1 0, 6, .inl P.1.1)) := by rw [eV470, hv_un (by omega)]; exact hV454
  have hV498 : V469 (mo + 2) = some (.inl (X.2.1 0, 6, .inl (fun j => nI (P.1.2.1 j)))) := by rw [eV470, hv_un (by omega)]; exact hV455
  have hV499 : V469 (mo + 4 + 0) = some (.inl (X.2.1 0, 16, .inl (P.1.2.2 0))) := by rw [eV470, hv_un (by omega)]; exact hV456
  have hV500 : V469 (mo + 4 + 1) = some (.inl (X.2.1 0, 16, .inl (P.1.2.2 1))) := by rw [eV470, hv_un (by omega)]; exact hV457
  have hV501 : V469 (mo + 4 + 2) = some (.inl (X.2.1 0, 16, .inl (P.1.2.2 2))) := by rw [eV470, hv_un (by omega)]; exact hV458
  have hV502 : V469 (mo + 4 + 3) = some (.inl (X.2.1 0, 16, .inl (P.1.2.2 3))) := by rw [eV470, hv_un (by omega)]; exact hV459
  have hV503 : V469 (mo + 4 + 4) = some (.inl (X.2.1 0, 16, .inl (P.1.2.2 4))) := by rw [eV470, hv_un (by omega)]; exact hV460
  have hV504 : V469 (mo + 4 + 5) = some (.inl (X.2.1 0, 16, .inl (P.1.2.2 5))) := by rw [eV470, hv_un (by omega)]; exact hV461
  have hV505 : V469 (mo + 15) = some (.inl (X.2.1 0, 4, .inl (va_cpy (td 0) sf 0 0 4))) := by rw [eV470, hv_un (by omega)]; exact hV462
  have hV506 : V469 (mo + 16) = some (.inl (X.2.1 0, 4, .inl (va_cpy (td 1) sg9 0 0 4))) := by rw [eV470]; exact hv_us
  clear hV427 hV429 hV430 hV431 hV432 hV433 hV434 hV435 hV436 hV437 hV438 hV439 hV440 hV441 hV442 hV443 hV444 hV445 hV446 hV447 hV448 hV449 hV450 hV451 hV452 hV453 hV454 hV455 hV456 hV457 hV458 hV459 hV460 hV461 hV462
  refine lv_iinc (v := 1 + 1) (lv' := [(1, .int (1 + 1)), (0, .ref mo)]) C0.1 C0.2.1 dX7_undo_133 hl (k := 0) rfl rfl (by decide) rfl (fun ls hl => ?_)
  have hl : lv_has ls 2 [(1, .int 2), (0, .ref mo)] := by rw [show (2 : Int32) = 1 + 1 from by decide]; exact hl
  refine lv_goto (tgt := 105) C0.1 C0.2.1 dX7_undo_136 (by decide) ?_
  refine lv_iload_n C0.1 C0.2.1 dX7_undo_105 rfl (lv_at hl 0 rfl) ?_
  refine lv_bipush (v := 7) C0.1 C0.2.1 dX7_undo_106 (by decide) ?_
  refine lv_icmp_ge (tgt := 139) C0.1 C0.2.1 dX7_undo_108 (by decide) (fun h9 => absurd h9 (by decide)) (fun _ => ?_)
  refine lv_aload_n C0.1 C0.2.1 dX7_undo_111 rfl (lv_at hl 1 rfl) ?_
  refine gf_X7_75 C0 w hV496 rfl dX7_undo_112 ?_
  refine lv_iload_n C0.1 C0.2.1 dX7_undo_115 rfl (lv_at hl 0 rfl) ?_
  refine hv_aalA 6 rfl C0 w rfl hV488 (hn_in (n := 2) (by decide) (by decide)) (by rw [show (2 : Int32).toNatClampNeg = 2 by decide]; exact i8 2 (by decide)) dX7_undo_116 ?_
  refine lv_iconst (v := 0) C0.1 C0.2.1 dX7_undo_117 (by decide) ?_
  refine lv_aload_n C0.1 C0.2.1 dX7_undo_118 rfl (lv_at hl 1 rfl) ?_
  refine lv_iload_n C0.1 C0.2.1 dX7_undo_119 rfl (lv_at hl 0 rfl) ?_
  refine hv_cVr C0 w kl_X7_310 kv_X7_toldOf rfl hV496 (c_X7_toldOf2 hV496) (by decide) (by decide) rfl hl.1 rfl (Nat.le_of_ble_eq_true rfl) dX7_undo_120 ⟨Nat.le_refl _, Nat.le_refl _⟩ (fun x507 V508 Hq lq hp509 w => ?_)
  obtain ⟨e9, rfl⟩ := hp509
  rw [e9] at w; clear e9
  refine lv_iconst (v := 0) C0.1 C0.2.1 dX7_undo_123 (by decide) ?_
  refine lv_aload_n C0.1 C0.2.1 dX7_undo_124 rfl (lv_at hl 1 rfl) ?_
  refine lv_iload_n C0.1 C0.2.1 dX7_undo_125 rfl (lv_at hl 0 rfl) ?_
  refine hv_cVr C0 w kl_X7_310 kv_X7_toldOf rfl hV496 (c_X7_toldOf2 hV496) (by decide) (by decide) rfl hl.1 rfl (Nat.le_of_ble_eq_true rfl) dX7_undo_126 ⟨Nat.le_refl _, Nat.le_refl _⟩ (fun x510 V511 Hq lq hp512 w => ?_)
  obtain ⟨e9, rfl⟩ := hp512
  rw [e9] at w; clear e9
  refine hv_alen 0 (v := Int32.ofNat 4) C0 w rfl hV473 rfl dX7_undo_129 ?_
  refine hv_copyi C0 w hl.1 kj_X7_148 hV491 hV473 (by decide) (by decide) (by decide) (by decide) (by decide) (by decide) (Nat.le_of_ble_eq_true rfl) dX7_undo_130 (fun Hq lq w => ?_)
  rw [show (0 : Int32).toNatClampNeg = 0 by decide, show ((Int32.ofNat 4) : Int32).toNatClampNeg = 4 by decide] at w
  obtain ⟨V513, eV514⟩ : ∃ W9, W9 = hv_up V469 (mo + 17) (.inl (X.2.1 0, 4, .inl (va_cpy (td 2) sh 0 0 4))) := ⟨_, rfl⟩
  have w : hv_w X s V513 Hq lq := by rw [eV514]; exact w
  have hV515 : V513 (mo + 3) = some (.inl (X.2.1 6, 6, .inr (.inr (.inr (.inr rf))))) := by rw [eV514, hv_un (by omega)]; exact hV471
  have hV517 : V513 (mo + 18) = some (.inl (X.2.1 0, 8, .inl ef)) := by rw [eV514, hv_un (by omega)]; exact hV474
  have hV518 : V513 (mo + 19) = some (.inl (X.2.1 0, 8, .inl eg)) := by rw [eV514, hv_un (by omega)]; exact hV475
  have hV519 : V513 (mo + 21) = some (.inl (X.2.1 0, 8, .inl bf)) := by rw [eV514, hv_un (by omega)]; exact hV476
  have hV520 : V513 (mo + 22) = some (.inl (X.2.1 0, 8, .inl bg)) := by rw [eV514, hv_un (by omega)]; exact hV477
  have hV521 : V513 (mo + 27 + 0) = some (.inl (X.2.1 0, 16, .inl (nu 0))) := by rw [eV514, hv_un (by omega)]; exact hV478
  have hV522 : V513 (mo + 27 + 1) = some (.inl (X.2.1 0, 16, .inl (nu 1))) := by rw [eV514, hv_un (by omega)]; exact hV479
  have hV523 : V513 (mo + 27 + 2) = some (.inl (X.2.1 0, 16, .inl (nu 2))) := by rw [eV514, hv_un (by omega)]; exact hV480
  have hV524 : V513 (mo + 27 + 3) = some (.inl (X.2.1 0, 16, .inl (nu 3))) := by rw [eV514, hv_un (by omega)]; exact hV481
  have hV525 : V513 (mo + 27 + 4) = some (.inl (X.2.1 0, 16, .inl (nu 4))) := by rw [eV514, hv_un (by omega)]; exact hV482
  have hV526 : V513 (mo + 27 + 5) = some (.inl (X.2.1 0, 16, .inl (nu 5))) := by rw [eV514, hv_un (by omega)]; exact hV483
  have hV527 : V513 (mo + 23) = some (.inl (X.2.1 0, 3, .inl ct)) := by rw [eV514, hv_un (by omega)]; exact hV484
  have hV528 : V513 (mo + 24) = some (.inl (X.2.1 0, 6, .inl ki)) := by rw [eV514, hv_un (by omega)]; exact hV485
  have hV529 : V513 (mo + 25) = some (.inl (X.2.1 0, 6, .inl ma)) := by rw [eV514, hv_un (by omega)]; exact hV486
  have hV530 : V513 (mo + 26) = some (.inl (X.2.1 6, 6, .inr (.inr (.inr (.inr nf))))) := by rw [eV514, hv_un (by omega)]; exact hV487
  have hV531 : V513 (mo + 33) = some (.inl (X.2.1 6, 7, .inr (.inr (.inr (.inr tf2))))) := by rw [eV514, hv_un (by omega)]; exact hV488
  have hV532 : V513 (mo + 34 + 0) = some (.inl (X.2.1 0, 8, .inl (td 0))) := by rw [eV514, hv_un (by omega)]; exact hV489
  have hV533 : V513 (mo + 34 + 1) = some (.inl (X.2.1 0, 8, .inl (td 1))) := by rw [eV514, hv_un (by omega)]; exact hV490
  have hV534 : V513 (mo + 34 + 2) = some (.inl (X.2.1 0, 8, .inl (td 2))) := by rw [eV514, hv_un (by omega)]; exact hV491
  have hV535 : V513 (mo + 34 + 3) = some (.inl (X.2.1 0, 8, .inl (td 3))) := by rw [eV514, hv_un (by omega)]; exact hV492
  have hV536 : V513 (mo + 34 + 4) = some (.inl (X.2.1 0, 8, .inl (td 4))) := by rw [eV514, hv_un (by omega)]; exact hV493
  have hV537 : V513 (mo + 34 + 5) = some (.inl (X.2.1 0, 8, .inl (td 5))) := by rw [eV514, hv_un (by omega)]; exact hV494
  have hV538 : V513 (mo + 34 + 6) = some (.inl (X.2.1 0, 8, .inl (td 6))) := by rw [eV514, hv_un (by omega)]; exact hV495
  have hV539 : V513 mo = some (.inr (7, [.ref (mo + 1), .ref (mo + 2), .ref (mo + 3), .long ab, .long be, .ref (mo + 10), .int (nI σ.2.2.1.1), .int pl, .int cl, .ref (mo + 11), .ref (mo + 12), .ref (mo + 13), .int sg, .ref (mo + 14), .ref (mo + 15), .ref (mo + 16), .ref (mo + 17), .int (nI P.2.1.1), .ref (mo + 18), .ref (mo + 19), .int (nI P.2.2.1.1), .ref (mo + 20), .ref (mo + 21), .ref (mo + 22), .int (nI P.2.2.2.1), .int 1, .ref (mo + 23), .ref (mo + 24), .ref (mo + 25), .ref (mo + 26), .ref (mo + 33), .ref (mo + 41), .ref (mo + 42), .ref (mo + 43)])) := by rw [eV514, hv_un (by omega)]; exact hV496
  have hV540 : V513 (mo + 1) = some (.inl (X.2.1 0, 6, .inl P.1.1)) := by rw [eV514, hv_un (by omega)]; exact hV497
  have hV541 : V513 (mo + 2) = some (.inl (X.2.1 0, 6, .inl (fun j => nI (P.1.2.1 j)))) := by rw [eV514, hv_un (by omega)]; exact hV498
  have hV542 : V513 (mo + 4 + 0) = some (.inl (X.2.1 0, 16, .inl (P.1.2.2 0))) := by rw [eV514, hv_un (by omega)]; exact hV499
  have hV543 : V513 (mo + 4 + 1) = some (.inl (X.2.1 0, 16, .inl (P.1.2.2 1))) := by rw [eV514, hv_un (by omega)]; exact hV500
  have hV544 : V513 (mo + 4 + 2) = some (.inl (X.2.1 0, 16, .inl (P.1.2.2 2))) := by rw [eV514, hv_un (by omega)]; exact hV501
  have hV545 : V513 (mo + 4 + 3) = some (.inl (X.2.1 0, 16, .inl (P.1.2.2 3))) := by rw [eV514, hv_un (by omega)]; exact hV502
  have hV546 : V513 (mo + 4 + 4) = some (.inl (X.2.1 0, 16, .inl (P.1.2.2 4))) := by rw [eV514, hv_un (by omega)]; exact hV503
  have hV547 : V513 (mo + 4 + 5) = some (.inl (X.2.1 0, 16, .inl (P.1.2.2 5))) := by rw [eV514, hv_un (by omega)]; exact hV504
  have hV548 : V513 (mo + 15) = some (.inl (X.2.1 0, 4, .inl (va_cpy (td 0) sf 0 0 4))) := by rw [eV514, hv_un (by omega)]; exact hV505
  have hV549 : V513 (mo + 16) = some (.inl (X.2.1 0, 4, .inl (va_cpy (td 1) sg9 0 0 4))) := by rw [eV514, hv_un (by omega)]; exact hV506
  have hV550 : V513 (mo + 17) = some (.inl (X.2.1 0, 4, .inl (va_cpy (td 2) sh 0 0 4))) := by rw [eV514]; exact hv_us
  clear hV471 hV473 hV474 hV475 hV476 hV477 hV478 hV479 hV480 hV481 hV482 hV483 hV484 hV485 hV486 hV487 hV488 hV489 hV490 hV491 hV492 hV493 hV494 hV495 hV496 hV497 hV498 hV499 hV500 hV501 hV502 hV503 hV504 hV505 hV506
  refine lv_iinc (v := 2 + 1) (lv' := [(1, .int (2 + 1)), (0, .ref mo)]) C0.1 C0.2.1 dX7_undo_133 hl (k := 0) rfl rfl (by decide) rfl (fun ls hl => ?_)
  have hl : lv_has ls 2 [(1, .int 3), (0, .ref mo)] := by rw [show (3 : Int32) = 2 + 1 from by decide]; exact hl
  refine lv_goto (tgt := 105) C0.1 C0.2.1 dX7_undo_136 (by decide) ?_
  refine lv_iload_n C0.1 C0.2.1 dX7_undo_105 rfl (lv_at hl 0 rfl) ?_
  refine lv_bipush (v := 7) C0.1 C0.2.1 dX7_undo_106 (by decide) ?_
  refine lv_icmp_ge (tgt := 139) C0.1 C0.2.1 dX7_undo_108 (by decide) (fun h9 => absurd h9 (by decide)) (fun _ => ?_)
  refine lv_aload_n C0.1 C0.2.1 dX7_undo_111 rfl (lv_at hl 1 rfl) ?_
  refine gf_X7_75 C0 w hV539 rfl dX7_undo_112 ?_
  refine lv_iload_n C0.1 C0.2.1 dX7_undo_115 rfl (lv_at hl 0 rfl) ?_
  refine hv_aalA 6 rfl C0 w rfl hV531 (hn_in (n := 3) (by decide) (by decide)) (by rw [show (3 : Int32).toNatClampNeg = 3 by decide]; exact i8 3 (by decide)) dX7_undo_116 ?_
  refine lv_iconst (v := 0) C0.1 C0.2.1 dX7_undo_117 (by decide) ?_
  refine lv_aload_n C0.1 C0.2.1 dX7_undo_118 rfl (lv_at hl 1 rfl) ?_
  refine lv_iload_n C0.1 C0.2.1 dX7_undo_119 rfl (lv_at hl 0 rfl) ?_
  refine hv_cVr C0 w kl_X7_310 kv_X7_toldOf rfl hV539 (c_X7_toldOf3 hV539) (by decide) (by decide) rfl hl.1 rfl (Nat.le_of_ble_eq_true rfl) dX7_undo_120 ⟨Nat.le_refl _, Nat.le_refl _⟩ (fun x551 V552 Hq lq hp553 w => ?_)
  obtain ⟨e9, rfl⟩ := hp553
  rw [e9] at w; clear e9
  refine lv_iconst (v := 0) C0.1 C0.2.1 dX7_undo_123 (by decide) ?_
  refine lv_aload_n C0.1 C0.2.1 dX7_undo_124 rfl (lv_at hl 1 rfl) ?_
  refine lv_iload_n C0.1 C0.2.1 dX7_undo_125 rfl (lv_at hl 0 rfl) ?_
  refine hv_cVr C0 w kl_X7_310 kv_X7_toldOf rfl hV539 (c_X7_toldOf3 hV539) (by decide) (by decide) rfl hl.1 rfl (Nat.le_of_ble_eq_true rfl) dX7_undo_126 ⟨Nat.le_refl _, Nat.le_refl _⟩ (fun x554 V555 Hq lq hp556 w => ?_)
  obtain ⟨e9, rfl⟩ := hp556
  rw [e9] at w; clear e9
  refine hv_alen 0 (v := Int32.ofNat 8) C0 w rfl hV517 rfl dX7_undo_129 ?_
  refine hv_copyi C0 w hl.1 kj_X7_148 hV535 hV517 (by decide) (by decide) (by decide) (by decide) (by decide) (by decide) (Nat.le_of_ble_eq_true rfl) dX7_undo_130 (fun Hq lq w => ?_)
  rw [show (0 : Int32).toNatClampNeg = 0 by decide, show ((Int32.ofNat 8) : Int32).toNatClampNeg = 8 by decide] at w
  obtain ⟨V557, eV558⟩ : ∃ W9, W9 = hv_up V513 (mo + 18) (.inl (X.2.1 0, 8, .inl (va_cpy (td 3) ef 0 0 8))) := ⟨_, rfl⟩
  have w : hv_w X s V557 Hq lq := by rw [eV558]; exact w
  have hV559 : V557 (mo + 3) = some (.inl (X.2.1 6, 6, .inr (.inr (.inr (.inr rf))))) := by rw [eV558, hv_un (by omega)]; exact hV515
  have hV561 : V557 (mo + 19) = some (.inl (X.2.1 0, 8, .inl eg)) := by rw [eV558, hv_un (by omega)]; exact hV518
  have hV562 : V557 (mo + 21) = some (.inl (X.2.1 0, 8, .inl bf)) := by rw [eV558, hv_un (by omega)]; exact hV519
  have hV563 : V557 (mo + 22) = some (.inl (X.2.1 0, 8, .inl bg)) := by rw [eV558, hv_un (by omega)]; exact hV520
  have hV564 : V557 (mo + 27 + 0) = some (.inl (X.2.1 0, 16, .inl (nu 0))) := by rw [eV558, hv_un (by omega)]; exact hV521
  have hV565 : V557 (mo + 27 + 1) = some (.inl (X.2.1 0, 16, .inl (nu 1))) := by rw [eV558, hv_un (by omega)]; exact hV522
  have hV566 : V557 (mo + 27 + 2) = some (.inl (X.2.1 0, 16, .inl (nu 2))) := by rw [eV558, hv_un (by omega)]; exact hV523
  have hV567 : V557 (mo + 27 + 3) = some (.inl (X.2.1 0, 16, .inl (nu 3))) := by rw [eV558, hv_un (by omega)]; exact hV524
  have hV568 : V557 (mo + 27 + 4) = some (.inl (X.2.1 0, 16, .inl (nu 4))) := by rw [eV558, hv_un (by omega)]; exact hV525
  have hV569 : V557 (mo + 27 + 5) = some (.inl (X.2.1 0, 16, .inl (nu 5))) := by rw [eV558, hv_un (by omega)]; exact hV526
  have hV570 : V557 (mo + 23) = some (.inl (X.2.1 0, 3, .inl ct)) := by rw [eV558, hv_un (by omega)]; exact hV527
  have hV571 : V557 (mo + 24) = some (.inl (X.2.1 0, 6, .inl ki)) := by rw [eV558, hv_un (by omega)]; exact hV528
  have hV572 : V557 (mo + 25) = some (.inl (X.2.1 0, 6, .inl ma)) := by rw [eV558, hv_un (by omega)]; exact hV529
  have hV573 : V557 (mo + 26) = some (.inl (X.2.1 6, 6, .inr (.inr (.inr (.inr nf))))) := by rw [eV558, hv_un (by omega)]; exact hV530
  have hV574 : V557 (mo + 33) = some (.inl (X.2.1 6, 7, .inr (.inr (.inr (.inr tf2))))) := by rw [eV558, hv_un (by omega)]; exact hV531
  have hV575 : V557 (mo + 34 + 0) = some (.inl (X.2.1 0, 8, .inl (td 0))) := by rw [eV558, hv_un (by omega)]; exact hV532
  have hV576 : V557 (mo + 34 + 1) = some (.inl (X.2.1 0, 8, .inl (td 1))) := by rw [eV558, hv_un (by omega)]; exact hV533
  have hV577 : V557 (mo + 34 + 2) = some (.inl (X.2.1 0, 8, .inl (td 2))) := by rw [eV558, hv_un (by omega)]; exact hV534
  have hV578 : V557 (mo + 34 + 3) = some (.inl (X.2.1 0, 8, .inl (td 3))) := by rw [eV558, hv_un (by omega)]; exact hV535
  have hV579 : V557 (mo + 34 + 4) = some (.inl (X.2.1 0, 8, .inl (td 4))) := by rw [eV558, hv_un (by omega)]; exact hV536
  have hV580 : V557 (mo + 34 + 5) = some (.inl (X.2.1 0, 8, .inl (td 5))) := by rw [eV558, hv_un (by omega)]; exact hV537
  have hV581 : V557 (mo + 34 + 6) = some (.inl (X.2.1 0, 8, .inl (td 6))) := by rw [eV558, hv_un (by omega)]; exact hV538
  have hV582 : V557 mo = some (.inr (7, [.ref (mo + 1), .ref (mo + 2), .ref (mo + 3), .long ab, .long be, .ref (mo + 10), .int (nI σ.2.2.1.1), .int pl, .int cl, .ref (mo + 11), .ref (mo + 12), .ref (mo + 13), .int sg, .ref (mo + 14), .ref (mo + 15), .ref (mo + 16), .ref (mo + 17), .int (nI P.2.1.1), .ref (mo + 18), .ref (mo + 19), .int (nI P.2.2.1.1), .ref (mo + 20), .ref (mo + 21), .ref (mo + 22), .int (nI P.2.2.2.1), .int 1, .ref (mo + 23), .ref (mo + 24), .ref (mo + 25), .ref (mo + 26), .ref (mo + 33), .ref (mo + 41), .ref (mo + 42), .ref (mo + 43)])) := by rw [eV558, hv_un (by omega)]; exact hV539
  have hV583 : V557 (mo + 1) = some (.inl (X.2.1 0, 6, .inl P.1.1)) := by rw [eV558, hv_un (by omega)]; exact hV540
  have hV584 : V557 (mo + 2) = some (.inl (X.2.1 0, 6, .inl (fun j => nI (P.1.2.1 j)))) := by rw [eV558, hv_un (by omega)]; exact hV541
  have hV585 : V557 (mo + 4 + 0) = some (.inl (X.2.1 0, 16, .inl (P.1.2.2 0))) := by rw [eV558, hv_un (by omega)]; exact hV542
  have hV586 : V557 (mo + 4 + 1) = some (.inl (X.2.1 0, 16, .inl (P.1.2.2 1))) := by rw [eV558, hv_un (by omega)]; exact hV543
  have hV587 : V557 (mo + 4 + 2) = some (.inl (X.2.1 0, 16, .inl (P.1.2.2 2))) := by rw [eV558, hv_un (by omega)]; exact hV544
  have hV588 : V557 (mo + 4 + 3) = some (.inl (X.2.1 0, 16, .inl (P.1.2.2 3))) := by rw [eV558, hv_un (by omega)]; exact hV545
  have hV589 : V557 (mo + 4 + 4) = some (.inl (X.2.1 0, 16, .inl (P.1.2.2 4))) := by rw [eV558, hv_un (by omega)]; exact hV546
  have hV590 : V557 (mo + 4 + 5) = some (.inl (X.2.1 0, 16, .inl (P.1.2.2 5))) := by rw [eV558, hv_un (by omega)]; exact hV547
  have hV591 : V557 (mo + 15) = some (.inl (X.2.1 0, 4, .inl (va_cpy (td 0) sf 0 0 4))) := by rw [eV558, hv_un (by omega)]; exact hV548
  have hV592 : V557 (mo + 16) = some (.inl (X.2.1 0, 4, .inl (va_cpy (td 1) sg9 0 0 4))) := by rw [eV558, hv_un (by omega)]; exact hV549
  have hV593 : V557 (mo + 17) = some (.inl (X.2.1 0, 4, .inl (va_cpy (td 2) sh 0 0 4))) := by rw [eV558, hv_un (by omega)]; exact hV550
  have hV594 : V557 (mo + 18) = some (.inl (X.2.1 0, 8, .inl (va_cpy (td 3) ef 0 0 8))) := by rw [eV558]; exact hv_us
  clear hV515 hV517 hV518 hV519 hV520 hV521 hV522 hV523 hV524 hV525 hV526 hV527 hV528 hV529 hV530 hV531 hV532 hV533 hV534 hV535 hV536 hV537 hV538 hV539 hV540 hV541 hV542 hV543 hV544 hV545 hV546 hV547 hV548 hV549 hV550
  refine lv_iinc (v := 3 + 1) (lv' := [(1, .int (3 + 1)), (0, .ref mo)]) C0.1 C0.2.1 dX7_undo_133 hl (k := 0) rfl rfl (by decide) rfl (fun ls hl => ?_)
  have hl : lv_has ls 2 [(1, .int 4), (0, .ref mo)] := by rw [show (4 : Int32) = 3 + 1 from by decide]; exact hl
  refine lv_goto (tgt := 105) C0.1 C0.2.1 dX7_undo_136 (by decide) ?_
  refine lv_iload_n C0.1 C0.2.1 dX7_undo_105 rfl (lv_at hl 0 rfl) ?_
  refine lv_bipush (v := 7) C0.1 C0.2.1 dX7_undo_106 (by decide) ?_
  refine lv_icmp_ge (tgt := 139) C0.1 C0.2.1 dX7_undo_108 (by decide) (fun h9 => absurd h9 (by decide)) (fun _ => ?_)
  refine lv_aload_n C0.1 C0.2.1 dX7_undo_111 rfl (lv_at hl 1 rfl) ?_
  refine gf_X7_75 C0 w hV582 rfl dX7_undo_112 ?_
  refine lv_iload_n C0.1 C0.2.1 dX7_undo_115 rfl (lv_at hl 0 rfl) ?_
  refine hv_aalA 6 rfl C0 w rfl hV574 (hn_in (n := 4) (by decide) (by decide)) (by rw [show (4 : Int32).toNatClampNeg = 4 by decide]; exact i8 4 (by decide)) dX7_undo_116 ?_
  refine lv_iconst (v := 0) C0.1 C0.2.1 dX7_undo_117 (by decide) ?_
  refine lv_aload_n C0.1 C0.2.1 dX7_undo_118 rfl (lv_at hl 1 rfl) ?_
  refine lv_iload_n C0.1 C0.2.1 dX7_undo_119 rfl (lv_at hl 0 rfl) ?_
  refine hv_cVr C0 w kl_X7_310 kv_X7_toldOf rfl hV582 (c_X7_toldOf4 hV582) (by decide) (by decide) rfl hl.1 rfl (Nat.le_of_ble_eq_true rfl) dX7_undo_120 ⟨Nat.le_refl _, Nat.le_refl _⟩ (fun x595 V596 Hq lq hp597 w => ?_)
  obtain ⟨e9, rfl⟩ := hp597
  rw [e9] at w; clear e9
  refine lv_iconst (v := 0) C0.1 C0.2.1 dX7_undo_123 (by decide) ?_
  refine lv_aload_n C0.1 C0.2.1 dX7_undo_124 rfl (lv_at hl 1 rfl) ?_
  refine lv_iload_n C0.1 C0.2.1 dX7_undo_125 rfl (lv_at hl 0 rfl) ?_
  refine hv_cVr C0 w kl_X7_310 kv_X7_toldOf rfl hV582 (c_X7_toldOf4 hV582) (by decide) (by decide) rfl hl.1 rfl (Nat.le_of_ble_eq_true rfl) dX7_undo_126 ⟨Nat.le_refl _, Nat.le_refl _⟩ (fun x598 V599 Hq lq hp600 w => ?_)
  obtain ⟨e9, rfl⟩ := hp600
  rw [e9] at w; clear e9
  refine hv_alen 0 (v := Int32.ofNat 8) C0 w rfl hV561 rfl dX7_undo_129 ?_
  refine hv_copyi C0 w hl.1 kj_X7_148 hV579 hV561 (by decide) (by decide) (by decide) (by decide) (by decide) (by decide) (Nat.le_of_ble_eq_true rfl) dX7_undo_130 (fun Hq lq w => ?_)
  rw [show (0 : Int32).toNatClampNeg = 0 by decide, show ((Int32.ofNat 8) : Int32).toNatClampNeg = 8 by decide] at w
  obtain ⟨V601, eV602⟩ : ∃ W9, W9 = hv_up V557 (mo + 19) (.inl (X.2.1 0, 8, .inl (va_cpy (td 4) eg 0 0 8))) := ⟨_, rfl⟩
  have w : hv_w X s V601 Hq lq := by rw [eV602]; exact w
  have hV603 : V601 (mo + 3) = some (.inl (X.2.1 6, 6, .inr (.inr (.inr (.inr rf))))) := by rw [eV602, hv_un (by omega)]; exact hV559
  have hV605 : V601 (mo + 21) = some (.inl (X.2.1 0, 8, .inl bf)) := by rw [eV602, hv_un (by omega)]; exact hV562
  have hV606 : V601 (mo + 22) = some (.inl (X.2.1 0, 8, .inl bg)) := by rw [eV602, hv_un (by omega)]; exact hV563
  have hV607 : V601 (mo + 27 + 0) = some (.inl (X.2.1 0, 16, .inl (nu 0))) := by rw [eV602, hv_un (by omega)]; exact hV564
  have hV608 : V601 (mo + 27 + 1) = some (.inl (X.2.1 0, 16, .inl (nu 1))) := by rw [eV602, hv_un (by omega)]; exact hV565
  have hV609 : V601 (mo + 27 + 2) = some (.inl (X.2.1 0, 16, .inl (nu 2))) := by rw [eV602, hv_un (by omega)]; exact hV566
  have hV610 : V601 (mo + 27 + 3) = some (.inl (X.2.1 0, 16, .inl (nu 3))) := by rw [eV602, hv_un (by omega)]; exact hV567
  have hV611 : V601 (mo + 27 + 4) = some (.inl (X.2.1 0, 16, .inl (nu 4))) := by rw [eV602, hv_un (by omega)]; exact hV568
  have hV612 : V601 (mo + 27 + 5) = some (.inl (X.2.1 0, 16, .inl (nu 5))) := by rw [eV602, hv_un (by omega)]; exact hV569
  have hV613 : V601 (mo + 23) = some (.inl (X.2.1 0, 3, .inl ct)) := by rw [eV602, hv_un (by omega)]; exact hV570
  have hV614 : V601 (mo + 24) = some (.inl (X.2.1 0, 6, .inl ki)) := by rw [eV602, hv_un (by omega)]; exact hV571
  have hV615 : V601 (mo + 25) = some (.inl (X.2.1 0, 6, .inl ma)) := by rw [eV602, hv_un (by omega)]; exact hV572
  have hV616 : V601 (mo + 26) = some (.inl (X.2.1 6, 6, .inr (.inr (.inr (.inr nf))))) := by rw [eV602, hv_un (by omega)]; exact hV573
  have hV617 : V601 (mo + 33) = some (.inl (X.2.1 6, 7, .inr (.inr (.inr (.inr tf2))))) := by rw [eV602, hv_un (by omega)]; exact hV574
  have hV618 : V601 (mo + 34 + 0) = some (.inl (X.2.1 0, 8, .inl (td 0))) := by rw [eV602, hv_un (by omega)]; exact hV575
  have hV619 : V601 (mo + 34 + 1) = some (.inl (X.2.1 0, 8, .inl (td 1))) := by rw [eV602, hv_un (by omega)]; exact hV576
  have hV620 : V601 (mo + 34 + 2) = some (.inl (X.2.1 0, 8, .inl (td 2))) := by rw [eV602, hv_un (by omega)]; exact hV577
  have hV621 : V601 (mo + 34 + 3) = some (.inl (X.2.1 0, 8, .inl (td 3))) := by rw [eV602, hv_un (by omega)]; exact hV578
  have hV622 : V601 (mo + 34 + 4) = some (.inl (X.2.1 0, 8, .inl (td 4))) := by rw [eV602, hv_un (by omega)]; exact hV579
  have hV623 : V601 (mo + 34 + 5) = some (.inl (X.2.1 0, 8, .inl (td 5))) := by rw [eV602, hv_un (by omega)]; exact hV580
  have hV624 : V601 (mo + 34 + 6) = some (.inl (X.2.1 0, 8, .inl (td 6))) := by rw [eV602, hv_un (by omega)]; exact hV581
  have hV625 : V601 mo = some (.inr (7, [.ref (mo + 1), .ref (mo + 2), .ref (mo + 3), .long ab, .long be, .ref (mo + 10), .int (nI σ.2.2.1.1), .int pl, .int cl, .ref (mo + 11), .ref (mo + 12), .ref (mo + 13), .int sg, .ref (mo + 14), .ref (mo + 15), .ref (mo + 16), .ref (mo + 17), .int (nI P.2.1.1), .ref (mo + 18), .ref (mo + 19), .int (nI P.2.2.1.1), .ref (mo + 20), .ref (mo + 21), .ref (mo + 22), .int (nI P.2.2.2.1), .int 1, .ref (mo + 23), .ref (mo + 24), .ref (mo + 25), .ref (mo + 26), .ref (mo + 33), .ref (mo + 41), .ref (mo + 42), .ref (mo + 43)])) := by rw [eV602, hv_un (by omega)]; exact hV582
  have hV626 : V601 (mo + 1) = some (.inl (X.2.1 0, 6, .inl P.1.1)) := by rw [eV602, hv_un (by omega)]; exact hV583
  have hV627 : V601 (mo + 2) = some (.inl (X.2.1 0, 6, .inl (fun j => nI (P.1.2.1 j)))) := by rw [eV602, hv_un (by omega)]; exact hV584
  have hV628 : V601 (mo + 4 + 0) = some (.inl (X.2.1 0, 16, .inl (P.1.2.2 0))) := by rw [eV602, hv_un (by omega)]; exact hV585
  have hV629 : V601 (mo + 4 + 1) = some (.inl (X.2.1 0, 16, .inl (P.1.2.2 1))) := by rw [eV602, hv_un (by omega)]; exact hV586
  have hV630 : V601 (mo + 4 + 2) = some (.inl (X.2.1 0, 16, .inl (P.1.2.2 2))) := by rw [eV602, hv_un (by omega)]; exact hV587
  have hV631 : V601 (mo + 4 + 3) = some (.inl (X.2.1 0, 16, .inl (P.1.2.2 3))) := by rw [eV602, hv_un (by omega)]; exact hV588
  have hV632 : V601 (mo + 4 + 4) = some (.inl (X.2.1 0, 16, .inl (P.1.2.2 4))) := by rw [eV602, hv_un (by omega)]; exact hV589
  have hV633 : V601 (mo + 4 + 5) = some (.inl (X.2.1 0, 16, .inl (P.1.2.2 5))) := by rw [eV602, hv_un (by omega)]; exact hV590
  have hV634 : V601 (mo + 15) = some (.inl (X.2.1 0, 4, .inl (va_cpy (td 0) sf 0 0 4))) := by rw [eV602, hv_un (by omega)]; exact hV591
  have hV635 : V601 (mo + 16) = some (.inl (X.2.1 0, 4, .inl (va_cpy (td 1) sg9 0 0 4))) := by rw [eV602, hv_un (by omega)]; exact hV592
  have hV636 : V601 (mo + 17) = some (.inl (X.2.1 0, 4, .inl (va_cpy (td 2) sh 0 0 4))) := by rw [eV602, hv_un (by omega)]; exact hV593
  have hV637 : V601 (mo + 18) = some (.inl (X.2.1 0, 8, .inl (va_cpy (td 3) ef 0 0 8))) := by rw [eV602, hv_un (by omega)]; exact hV594
  have hV638 : V601 (mo + 19) = some (.inl (X.2.1 0, 8, .inl (va_cpy (td 4) eg 0 0 8))) := by rw [eV602]; exact hv_us
  clear hV559 hV561 hV562 hV563 hV564 hV565 hV566 hV567 hV568 hV569 hV570 hV571 hV572 hV573 hV574 hV575 hV576 hV577 hV578 hV579 hV580 hV581 hV582 hV583 hV584 hV585 hV586 hV587 hV588 hV589 hV590 hV591 hV592 hV593 hV594
  refine lv_iinc (v := 4 + 1) (lv' := [(1, .int (4 + 1)), (0, .ref mo)]) C0.1 C0.2.1 dX7_undo_133 hl (k := 0) rfl rfl (by decide) rfl (fun ls hl => ?_)
  have hl : lv_has ls 2 [(1, .int 5), (0, .ref mo)] := by rw [show (5 : Int32) = 4 + 1 from by decide]; exact hl
  refine lv_goto (tgt := 105) C0.1 C0.2.1 dX7_undo_136 (by decide) ?_
  refine lv_iload_n C0.1 C0.2.1 dX7_undo_105 rfl (lv_at hl 0 rfl) ?_
  refine lv_bipush (v := 7) C0.1 C0.2.1 dX7_undo_106 (by decide) ?_
  refine lv_icmp_ge (tgt := 139) C0.1 C0.2.1 dX7_undo_108 (by decide) (fun h9 => absurd h9 (by decide)) (fun _ => ?_)
  refine lv_aload_n C0.1 C0.2.1 dX7_undo_111 rfl (lv_at hl 1 rfl) ?_
  refine gf_X7_75 C0 w hV625 rfl dX7_undo_112 ?_
  refine lv_iload_n C0.1 C0.2.1 dX7_undo_115 rfl (lv_at hl 0 rfl) ?_
  refine hv_aalA 6 rfl C0 w rfl hV617 (hn_in (n := 5) (by decide) (by decide)) (by rw [show (5 : Int32).toNatClampNeg = 5 by decide]; exact i8 5 (by decide)) dX7_undo_116 ?_
  refine lv_iconst (v := 0) C0.1 C0.2.1 dX7_undo_117 (by decide) ?_
  refine lv_aload_n C0.1 C0.2.1 dX7_undo_118 rfl (lv_at hl 1 rfl) ?_
  refine lv_iload_n C0.1 C0.2.1 dX7_undo_119 rfl (lv_at hl 0 rfl) ?_
  refine hv_cVr C0 w kl_X7_310 kv_X7_toldOf rfl hV625 (c_X7_toldOf5 hV625) (by decide) (by decide) rfl hl.1 rfl (Nat.le_of_ble_eq_true rfl) dX7_undo_120 ⟨Nat.le_refl _, Nat.le_refl _⟩ (fun x639 V640 Hq lq hp641 w => ?_)
  obtain ⟨e9, rfl⟩ := hp641
  rw [e9] at w; clear e9
  refine lv_iconst (v := 0) C0.1 C0.2.1 dX7_undo_123 (by decide) ?_
  refine lv_aload_n C0.1 C0.2.1 dX7_undo_124 rfl (lv_at hl 1 rfl) ?_
  refine lv_iload_n C0.1 C0.2.1 dX7_undo_125 rfl (lv_at hl 0 rfl) ?_
  refine hv_cVr C0 w kl_X7_310 kv_X7_toldOf rfl hV625 (c_X7_toldOf5 hV625) (by decide) (by decide) rfl hl.1 rfl (Nat.le_of_ble_eq_true rfl) dX7_undo_126 ⟨Nat.le_refl _, Nat.le_refl _⟩ (fun x642 V643 Hq lq hp644 w => ?_)
  obtain ⟨e9, rfl⟩ := hp644
  rw [e9] at w; clear e9
  refine hv_alen 0 (v := Int32.ofNat 8) C0 w rfl hV605 rfl dX7_undo_129 ?_
  refine hv_copyi C0 w hl.1 kj_X7_148 hV623 hV605 (by decide) (by decide) (by decide) (by decide) (by decide) (by decide) (Nat.le_of_ble_eq_true rfl) dX7_undo_130 (fun Hq lq w => ?_)
  rw [show (0 : Int32).toNatClampNeg = 0 by decide, show ((Int32.ofNat 8) : Int32).toNatClampNeg = 8 by decide] at w
  obtain ⟨V645, eV646⟩ : ∃ W9, W9 = hv_up V601 (mo + 21) (.inl (X.2.1 0, 8, .inl (va_cpy (td 5) bf 0 0 8))) := ⟨_, rfl⟩
  have w : hv_w X s V645 Hq lq := by rw [eV646]; exact w
  have hV647 : V645 (mo + 3) = some (.inl (X.2.1 6, 6, .inr (.inr (.inr (.inr rf))))) := by rw [eV646, hv_un (by omega)]; exact hV603
  have hV649 : V645 (mo + 22) = some (.inl (X.2.1 0, 8, .inl bg)) := by rw [eV646, hv_un (by omega)]; exact hV606
  have hV650 : V645 (mo + 27 + 0) = some (.inl (X.2.1 0, 16, .inl (nu 0))) := by rw [eV646, hv_un (by omega)]; exact hV607
  have hV651 : V645 (mo + 27 + 1) = some (.inl (X.2.1 0, 16, .inl (nu 1))) := by rw [eV646, hv_un (by omega)]; exact hV608
  have hV652 : V645 (mo + 27 + 2) = some (.inl (X.2.1 0, 16, .inl (nu 2))) := by rw [eV646, hv_un (by omega)]; exact hV609
  have hV653 : V645 (mo + 27 + 3) = some (.inl (X.2.1 0, 16, .inl (nu 3))) := by rw [eV646, hv_un (by omega)]; exact hV610
  have hV654 : V645 (mo + 27 + 4) = some (.inl (X.2.1 0, 16, .inl (nu 4))) := by rw [eV646, hv_un (by omega)]; exact hV611
  have hV655 : V645 (mo + 27 + 5) = some (.inl (X.2.1 0, 16, .inl (nu 5))) := by rw [eV646, hv_un (by omega)]; exact hV612
  have hV656 : V645 (mo + 23) = some (.inl (X.2.1 0, 3, .inl ct)) := by rw [eV646, hv_un (by omega)]; exact hV613
  have hV657 : V645 (mo + 24) = some (.inl (X.2.1 0, 6, .inl ki)) := by rw [eV646, hv_un (by omega)]; exact hV614
  have hV658 : V645 (mo + 25) = some (.inl (X.2.1 0, 6, .inl ma)) := by rw [eV646, hv_un (by omega)]; exact hV615
  have hV659 : V645 (mo + 26) = some (.inl (X.2.1 6, 6, .inr (.inr (.inr (.inr nf))))) := by rw [eV646, hv_un (by omega)]; exact hV616
  have hV660 : V645 (mo + 33) = some (.inl (X.2.1 6, 7, .inr (.inr (.inr (.inr tf2))))) := by rw [eV646, hv_un (by omega)]; exact hV617
  have hV661 : V645 (mo + 34 + 0) = some (.inl (X.2.1 0, 8, .inl (td 0))) := by rw [eV646, hv_un (by omega)]; exact hV618
  have hV662 : V645 (mo + 34 + 1) = some (.inl (X.2.1 0, 8, .inl (td 1))) := by rw [eV646, hv_un (by omega)]; exact hV619
  have hV663 : V645 (mo + 34 + 2) = some (.inl (X.2.1 0, 8, .inl (td 2))) := by rw [eV646, hv_un (by omega)]; exact hV620
  have hV664 : V645 (mo + 34 + 3) = some (.inl (X.2.1 0, 8, .inl (td 3))) := by rw [eV646, hv_un (by omega)]; exact hV621
  have hV665 : V645 (mo + 34 + 4) = some (.inl (X.2.1 0, 8, .inl (td 4))) := by rw [eV646, hv_un (by omega)]; exact hV622
  have hV666 : V645 (mo + 34 + 5) = some (.inl (X.2.1 0, 8, .inl (td 5))) := by rw [eV646, hv_un (by omega)]; exact hV623
  have hV667 : V645 (mo + 34 + 6) = some (.inl (X.2.1 0, 8, .inl (td 6))) := by rw [eV646, hv_un (by omega)]; exact hV624
  have hV668 : V645 mo = some (.inr (7, [.ref (mo + 1), .ref (mo + 2), .ref (mo + 3), .long ab, .long be, .ref (mo + 10), .int (nI σ.2.2.1.1), .int pl, .int cl, .ref (mo + 11), .ref (mo + 12), .ref (mo + 13), .int sg, .ref (mo + 14), .ref (mo + 15), .ref (mo + 16), .ref (mo + 17), .int (nI P.2.1.1), .ref (mo + 18), .ref (mo + 19), .int (nI P.2.2.1.1), .ref (mo + 20), .ref (mo + 21), .ref (mo + 22), .int (nI P.2.2.2.1), .int 1, .ref (mo + 23), .ref (mo + 24), .ref (mo + 25), .ref (mo + 26), .ref (mo + 33), .ref (mo + 41), .ref (mo + 42), .ref (mo + 43)])) := by rw [eV646, hv_un (by omega)]; exact hV625
  have hV669 : V645 (mo + 1) = some (.inl (X.2.1 0, 6, .inl P.1.1)) := by rw [eV646, hv_un (by omega)]; exact hV626
  have hV670 : V645 (mo + 2) = some (.inl (X.2.1 0, 6, .inl (fun j => nI (P.1.2.1 j)))) := by rw [eV646, hv_un (by omega)]; exact hV627
  have hV671 : V645 (mo + 4 + 0) = some (.inl (X.2.1 0, 16, .inl (P.1.2.2 0))) := by rw [eV646, hv_un (by omega)]; exact hV628
  have hV672 : V645 (mo + 4 + 1) = some (.inl (X.2.1 0, 16, .inl (P.1.2.2 1))) := by rw [eV646, hv_un (by omega)]; exact hV629
  have hV673 : V645 (mo + 4 + 2) = some (.inl (X.2.1 0, 16, .inl (P.1.2.2 2))) := by rw [eV646, hv_un (by omega)]; exact hV630
  have hV674 : V645 (mo + 4 + 3) = some (.inl (X.2.1 0, 16, .inl (P.1.2.2 3))) := by rw [eV646, hv_un (by omega)]; exact hV631
  have hV675 : V645 (mo + 4 + 4) = some (.inl (X.2.1 0, 16, .inl (P.1.2.2 4))) := by rw [eV646, hv_un (by omega)]; exact hV632
  have hV676 : V645 (mo + 4 + 5) = some (.inl (X.2.1 0, 16, .inl (P.1.2.2 5))) := by rw [eV646, hv_un (by omega)]; exact hV633
  have hV677 : V645 (mo + 15) = some (.inl (X.2.1 0, 4, .inl (va_cpy (td 0) sf 0 0 4))) := by rw [eV646, hv_un (by omega)]; exact hV634
  have hV678 : V645 (mo + 16) = some (.inl (X.2.1 0, 4, .inl (va_cpy (td 1) sg9 0 0 4))) := by rw [eV646, hv_un (by omega)]; exact hV635
  have hV679 : V645 (mo + 17) = some (.inl (X.2.1 0, 4, .inl (va_cpy (td 2) sh 0 0 4))) := by rw [eV646, hv_un (by omega)]; exact hV636
  have hV680 : V645 (mo + 18) = some (.inl (X.2.1 0, 8, .inl (va_cpy (td 3) ef 0 0 8))) := by rw [eV646, hv_un (by omega)]; exact hV637
  have hV681 : V645 (mo + 19) = some (.inl (X.2.1 0, 8, .inl (va_cpy (td 4) eg 0 0 8))) := by rw [eV646, hv_un (by omega)]; exact hV638
  have hV682 : V645 (mo + 21) = some (.inl (X.2.1 0, 8, .inl (va_cpy (td 5) bf 0 0 8))) := by rw [eV646]; exact hv_us
  clear hV603 hV605 hV606 hV607 hV608 hV609 hV610 hV611 hV612 hV613 hV614 hV615 hV616 hV617 hV618 hV619 hV620 hV621 hV622 hV623 hV624 hV625 hV626 hV627 hV628 hV629 hV630 hV631 hV632 hV633 hV634 hV635 hV636 hV637 hV638
  refine lv_iinc (v := 5 + 1) (lv' := [(1, .int (5 + 1)), (0, .ref mo)]) C0.1 C0.2.1 dX7_undo_133 hl (k := 0) rfl rfl (by decide) rfl (fun ls hl => ?_)
  have hl : lv_has ls 2 [(1, .int 6), (0, .ref mo)] := by rw [show (6 : Int32) = 5 + 1 from by decide]; exact hl
  refine lv_goto (tgt := 105) C0.1 C0.2.1 dX7_undo_136 (by decide) ?_
  refine lv_iload_n C0.1 C0.2.1 dX7_undo_105 rfl (lv_at hl 0 rfl) ?_
  refine lv_bipush (v := 7) C0.1 C0.2.1 dX7_undo_106 (by decide) ?_
  refine lv_icmp_ge (tgt := 139) C0.1 C0.2.1 dX7_undo_108 (by decide) (fun h9 => absurd h9 (by decide)) (fun _ => ?_)
  refine lv_aload_n C0.1 C0.2.1 dX7_undo_111 rfl (lv_at hl 1 rfl) ?_
  refine gf_X7_75 C0 w hV668 rfl dX7_undo_112 ?_
  refine lv_iload_n C0.1 C0.2.1 dX7_undo_115 rfl (lv_at hl 0 rfl) ?_
  refine hv_aalA 6 rfl C0 w rfl hV660 (hn_in (n := 6) (by decide) (by decide)) (by rw [show (6 : Int32).toNatClampNeg = 6 by decide]; exact i8 6 (by decide)) dX7_undo_116 ?_
  refine lv_iconst (v := 0) C0.1 C0.2.1 dX7_undo_117 (by decide) ?_
  refine lv_aload_n C0.1 C0.2.1 dX7_undo_118 rfl (lv_at hl 1 rfl) ?_
  refine lv_iload_n C0.1 C0.2.1 dX7_undo_119 rfl (lv_at hl 0 rfl) ?_
  refine hv_cVr C0 w kl_X7_310 kv_X7_toldOf rfl hV668 (c_X7_toldOf6 hV668) (by decide) (by decide) rfl hl.1 rfl (Nat.le_of_ble_eq_true rfl) dX7_undo_120 ⟨Nat.le_refl _, Nat.le_refl _⟩ (fun x683 V684 Hq lq hp685 w => ?_)
  obtain ⟨e9, rfl⟩ := hp685
  rw [e9] at w; clear e9
  refine lv_iconst (v := 0) C0.1 C0.2.1 dX7_undo_123 (by decide) ?_
  refine lv_aload_n C0.1 C0.2.1 dX7_undo_124 rfl (lv_at hl 1 rfl) ?_
  refine lv_iload_n C0.1 C0.2.1 dX7_undo_125 rfl (lv_at hl 0 rfl) ?_
  refine hv_cVr C0 w kl_X7_310 kv_X7_toldOf rfl hV668 (c_X7_toldOf6 hV668) (by decide) (by decide) rfl hl.1 rfl (Nat.le_of_ble_eq_true rfl) dX7_undo_126 ⟨Nat.le_refl _, Nat.le_refl _⟩ (fun x686 V687 Hq lq hp688 w => ?_)
  obtain ⟨e9, rfl⟩ := hp688
  rw [e9] at w; clear e9
  refine hv_alen 0 (v := Int32.ofNat 8) C0 w rfl hV649 rfl dX7_undo_129 ?_
  refine hv_copyi C0 w hl.1 kj_X7_148 hV667 hV649 (by decide) (by decide) (by decide) (by decide) (by decide) (by decide) (Nat.le_of_ble_eq_true rfl) dX7_undo_130 (fun Hq lq w => ?_)
  rw [show (0 : Int32).toNatClampNeg = 0 by decide, show ((Int32.ofNat 8) : Int32).toNatClampNeg = 8 by decide] at w
  obtain ⟨V689, eV690⟩ : ∃ W9, W9 = hv_up V645 (mo + 22) (.inl (X.2.1 0, 8, .inl (va_cpy (td 6) bg 0 0 8))) := ⟨_, rfl⟩
  have w : hv_w X s V689 Hq lq := by rw [eV690]; exact w
  have hV691 : V689 (mo + 3) = some (.inl (X.2.1 6, 6, .inr (.inr (.inr (.inr rf))))) := by rw [eV690, hv_un (by omega)]; exact hV647
  have hV693 : V689 (mo + 27 + 0) = some (.inl (X.2.1 0, 16, .inl (nu 0))) := by rw [eV690, hv_un (by omega)]; exact hV650
  have hV694 : V689 (mo + 27 + 1) = some (.inl (X.2.1 0, 16, .inl (nu 1))) := by rw [eV690, hv_un (by omega)]; exact hV651
  have hV695 : V689 (mo + 27 + 2) = some (.inl (X.2.1 0, 16, .inl (nu 2))) := by rw [eV690, hv_un (by omega)]; exact hV652
  have hV696 : V689 (mo + 27 + 3) = some (.inl (X.2.1 0, 16, .inl (nu 3))) := by rw [eV690, hv_un (by omega)]; exact hV653
  have hV697 : V689 (mo + 27 + 4) = some (.inl (X.2.1 0, 16, .inl (nu 4))) := by rw [eV690, hv_un (by omega)]; exact hV654
  have hV698 : V689 (mo + 27 + 5) = some (.inl (X.2.1 0, 16, .inl (nu 5))) := by rw [eV690, hv_un (by omega)]; exact hV655
  have hV699 : V689 (mo + 23) = some (.inl (X.2.1 0, 3, .inl ct)) := by rw [eV690, hv_un (by omega)]; exact hV656
  have hV700 : V689 (mo + 24) = some (.inl (X.2.1 0, 6, .inl ki)) := by rw [eV690, hv_un (by omega)]; exact hV657
  have hV701 : V689 (mo + 25) = some (.inl (X.2.1 0, 6, .inl ma)) := by rw [eV690, hv_un (by omega)]; exact hV658
  have hV702 : V689 (mo + 26) = some (.inl (X.2.1 6, 6, .inr (.inr (.inr (.inr nf))))) := by rw [eV690, hv_un (by omega)]; exact hV659
  have hV703 : V689 (mo + 33) = some (.inl (X.2.1 6, 7, .inr (.inr (.inr (.inr tf2))))) := by rw [eV690, hv_un (by omega)]; exact hV660
  have hV704 : V689 (mo + 34 + 0) = some (.inl (X.2.1 0, 8, .inl (td 0))) := by rw [eV690, hv_un (by omega)]; exact hV661
  have hV705 : V689 (mo + 34 + 1) = some (.inl (X.2.1 0, 8, .inl (td 1))) := by rw [eV690, hv_un (by omega)]; exact hV662
  have hV706 : V689 (mo + 34 + 2) = some (.inl (X.2.1 0, 8, .inl (td 2))) := by rw [eV690, hv_un (by omega)]; exact hV663
  have hV707 : V689 (mo + 34 + 3) = some (.inl (X.2.1 0, 8, .inl (td 3))) := by rw [eV690, hv_un (by omega)]; exact hV664
  have hV708 : V689 (mo + 34 + 4) = some (.inl (X.2.1 0, 8, .inl (td 4))) := by rw [eV690, hv_un (by omega)]; exact hV665
  have hV709 : V689 (mo + 34 + 5) = some (.inl (X.2.1 0, 8, .inl (td 5))) := by rw [eV690, hv_un (by omega)]; exact hV666
  have hV710 : V689 (mo + 34 + 6) = some (.inl (X.2.1 0, 8, .inl (td 6))) := by rw [eV690, hv_un (by omega)]; exact hV667
  have hV711 : V689 mo = some (.inr (7, [.ref (mo + 1), .ref (mo + 2), .ref (mo + 3), .long ab, .long be, .ref (mo + 10), .int (nI σ.2.2.1.1), .int pl, .int cl, .ref (mo + 11), .ref (mo + 12), .ref (mo + 13), .int sg, .ref (mo + 14), .ref (mo + 15), .ref (mo + 16), .ref (mo + 17), .int (nI P.2.1.1), .ref (mo + 18), .ref (mo + 19), .int (nI P.2.2.1.1), .ref (mo + 20), .ref (mo + 21), .ref (mo + 22), .int (nI P.2.2.2.1), .int 1, .ref (mo + 23), .ref (mo + 24), .ref (mo + 25), .ref (mo + 26), .ref (mo + 33), .ref (mo + 41), .ref (mo + 42), .ref (mo + 43)])) := by rw [eV690, hv_un (by omega)]; exact hV668
  have hV712 : V689 (mo + 1) = some (.inl (X.2.1 0, 6, .inl P.1.1)) := by rw [eV690, hv_un (by omega)]; exact hV669
  have hV713 : V689 (mo + 2) = some (.inl (X.2.1 0, 6, .inl (fun j => nI (P.1.2.1 j)))) := by rw [eV690, hv_un (by omega)]; exact hV670
  have hV714 : V689 (mo + 4 + 0) = some (.inl (X.2.1 0, 16, .inl (P.1.2.2 0))) := by rw [eV690, hv_un (by omega)]; exact hV671
  have hV715 : V689 (mo + 4 + 1) = some (.inl (X.2.1 0, 16, .inl (P.1.2.2 1))) := by rw [eV690, hv_un (by omega)]; exact hV672
  have hV716 : V689 (mo + 4 + 2) = some (.inl (X.2.1 0, 16, .inl (P.1.2.2 2))) := by rw [eV690, hv_un (by omega)]; exact hV673
  have hV717 : V689 (mo + 4 + 3) = some (.inl (X.2.1 0, 16, .inl (P.1.2.2 3))) := by rw [eV690, hv_un (by omega)]; exact hV674
  have hV718 : V689 (mo + 4 + 4) = some (.inl (X.2.1 0, 16, .inl (P.1.2.2 4))) := by rw [eV690, hv_un (by omega)]; exact hV675
  have hV719 : V689 (mo + 4 + 5) = some (.inl (X.2.1 0, 16, .inl (P.1.2.2 5))) := by rw [eV690, hv_un (by omega)]; exact hV676
  have hV720 : V689 (mo + 15) = some (.inl (X.2.1 0, 4, .inl (va_cpy (td 0) sf 0 0 4))) := by rw [eV690, hv_un (by omega)]; exact hV677
  have hV721 : V689 (mo + 16) = some (.inl (X.2.1 0, 4, .inl (va_cpy (td 1) sg9 0 0 4))) := by rw [eV690, hv_un (by omega)]; exact hV678
  have hV722 : V689 (mo + 17) = some (.inl (X.2.1 0, 4, .inl (va_cpy (td 2) sh 0 0 4))) := by rw [eV690, hv_un (by omega)]; exact hV679
  have hV723 : V689 (mo + 18) = some (.inl (X.2.1 0, 8, .inl (va_cpy (td 3) ef 0 0 8))) := by rw [eV690, hv_un (by omega)]; exact hV680
  have hV724 : V689 (mo + 19) = some (.inl (X.2.1 0, 8, .inl (va_cpy (td 4) eg 0 0 8))) := by rw [eV690, hv_un (by omega)]; exact hV681
  have hV725 : V689 (mo + 21) = some (.inl (X.2.1 0, 8, .inl (va_cpy (td 5) bf 0 0 8))) := by rw [eV690, hv_un (by omega)]; exact hV682
  have hV726 : V689 (mo + 22) = some (.inl (X.2.1 0, 8, .inl (va_cpy (td 6) bg 0 0 8))) := by rw [eV690]; exact hv_us
  clear hV647 hV649 hV650 hV651 hV652 hV653 hV654 hV655 hV656 hV657 hV658 hV659 hV660 hV661 hV662 hV663 hV664 hV665 hV666 hV667 hV668 hV669 hV670 hV671 hV672 hV673 hV674 hV675 hV676 hV677 hV678 hV679 hV680 hV681 hV682
  refine lv_iinc (v := 6 + 1) (lv' := [(1, .int (6 + 1)), (0, .ref mo)]) C0.1 C0.2.1 dX7_undo_133 hl (k := 0) rfl rfl (by decide) rfl (fun ls hl => ?_)
  have hl : lv_has ls 2 [(1, .int 7), (0, .ref mo)] := by rw [show (7 : Int32) = 6 + 1 from by decide]; exact hl
  refine lv_goto (tgt := 105) C0.1 C0.2.1 dX7_undo_136 (by decide) ?_
  refine lv_iload_n C0.1 C0.2.1 dX7_undo_105 rfl (lv_at hl 0 rfl) ?_
  refine lv_bipush (v := 7) C0.1 C0.2.1 dX7_undo_106 (by decide) ?_
  refine lv_icmp_ge (tgt := 139) C0.1 C0.2.1 dX7_undo_108 (by decide) (fun _ => ?_) (fun h9 => absurd h9 (by decide))
  refine lv_aload_n C0.1 C0.2.1 dX7_undo_139 rfl (lv_at hl 1 rfl) ?_
  refine hv_cVi C0 w kl_X7_314 kv_X7_together rfl hV711 (c_X7_together (P := P) hV711 hV713) (by decide) (by decide) rfl hl.1 rfl (Nat.le_of_ble_eq_true rfl) dX7_undo_140 ⟨Nat.le_refl _, Nat.le_refl _⟩ (fun x727 V728 Hq lq hp729 w => ?_)
  obtain ⟨e9, e8x⟩ := hp729
  rw [e9] at w; rw [e8x]; clear e9 e8x
  exact hv_iret C0 w hr hlk (by rw [show sp_undo σ = (sp_tot P, (P, some P, σ.2.2)) from by unfold sp_undo; rw [hk]]; exact ⟨rfl, ⟨ab, be, pl, cl, sg, 1, (by rw [eV690, hv_un (by omega), eV646, hv_un (by omega), eV602, hv_un (by omega), eV558, hv_un (by omega), eV514, hv_un (by omega), eV470, hv_un (by omega), eV426, hv_un (by omega), eV382, hv_un (by omega), eV344, hv_un (by omega), eV306, hv_un (by omega), eV268, hv_un (by omega), eV230, hv_un (by omega), eV192, hv_un (by omega), eV154, hv_un (by omega), eV116, hv_un (by omega), eV78]; exact hv_us), ⟨hV712, hV713, ⟨rf, hV691, r4⟩, (fun j hj => match j, hj with | 0, _ => hV714 | 1, _ => hV715 | 2, _ => hV716 | 3, _ => hV717 | 4, _ => hV718 | 5, _ => hV719 | j + 6, hj => absurd hj (by omega))⟩, (by rw [eV690, hv_un (by omega), eV646, hv_un (by omega), eV602, hv_un (by omega), eV558, hv_un (by omega), eV514, hv_un (by omega), eV470, hv_un (by omega), eV426, hv_un (by omega), eV382, hv_un (by omega), eV344, hv_un (by omega), eV306, hv_un (by omega), eV268, hv_un (by omega), eV230, hv_un (by omega), eV192, hv_un (by omega), eV154, hv_un (by omega), eV116, hv_un (by omega), eV78, hv_un (by omega), eV40, hv_un (by omega), eV2, hv_un (by omega)] : _ = V (mo + 10)).trans hTx, hSc.fr (fun q h7 h8 => by rw [eV690, hv_un (by omega), eV646, hv_un (by omega), eV602, hv_un (by omega), eV558, hv_un (by omega), eV514, hv_un (by omega), eV470, hv_un (by omega), eV426, hv_un (by omega), eV382, hv_un (by omega), eV344, hv_un (by omega), eV306, hv_un (by omega), eV268, hv_un (by omega), eV230, hv_un (by omega), eV192, hv_un (by omega), eV154, hv_un (by omega), eV116, hv_un (by omega), eV78, hv_un (by omega), eV40, hv_un (by omega), eV2, hv_un (by omega)]) (fun q h7 h8 => by rw [eV690, hv_un (by omega), eV646, hv_un (by omega), eV602, hv_un (by omega), eV558, hv_un (by omega), eV514, hv_un (by omega), eV470, hv_un (by omega), eV426, hv_un (by omega), eV382, hv_un (by omega), eV344, hv_un (by omega), eV306, hv_un (by omega), eV268, hv_un (by omega), eV230, hv_un (by omega), eV192, hv_un (by omega), eV154, hv_un (by omega), eV116, hv_un (by omega), eV78, hv_un (by omega), eV40, hv_un (by omega), eV2, hv_un (by omega)]), ⟨_, _, _, hV720, hV721, hV722, fun j hj => ⟨(im_cp (Nat.lt_of_lt_of_le hj hb4)).trans (hs3 j hj).1, (im_cp (Nat.lt_of_lt_of_le hj hb4)).trans (hs3 j hj).2.1, (im_cp (Nat.lt_of_lt_of_le hj hb4)).trans (hs3 j hj).2.2⟩⟩, ⟨_, _, hV723, hV724, fun j hj => ⟨(im_cp (Nat.lt_of_lt_of_le hj hb8)).trans (he2 j hj).1, (im_cp (Nat.lt_of_lt_of_le hj hb8)).trans (he2 j hj).2⟩⟩, ⟨_, _, hV725, hV726, fun j hj => ⟨(im_cp (Nat.lt_of_lt_of_le hj hb9)).trans (hb2 j hj).1, (im_cp (Nat.lt_of_lt_of_le hj hb9)).trans (hb2 j hj).2⟩⟩, hIm2.fr (fun q h7 h8 => by rw [eV690, hv_un (by omega), eV646, hv_un (by omega), eV602, hv_un (by omega), eV558, hv_un (by omega), eV514, hv_un (by omega), eV470, hv_un (by omega), eV426, hv_un (by omega), eV382, hv_un (by omega), eV344, hv_un (by omega), eV306, hv_un (by omega), eV268, hv_un (by omega), eV230, hv_un (by omega), eV192, hv_un (by omega), eV154, hv_un (by omega), eV116, hv_un (by omega), eV78, hv_un (by omega), eV40, hv_un (by omega), eV2, hv_un (by omega)]), hTp.fr (fun q h7 h8 => by rw [eV690, hv_un (by omega), eV646, hv_un (by omega), eV602, hv_un (by omega), eV558, hv_un (by omega), eV514, hv_un (by omega), eV470, hv_un (by omega), eV426, hv_un (by omega), eV382, hv_un (by omega), eV344, hv_un (by omega), eV306, hv_un (by omega), eV268, hv_un (by omega), eV230, hv_un (by omega), eV192, hv_un (by omega), eV154, hv_un (by omega), eV116, hv_un (by omega), eV78, hv_un (by omega), eV40, hv_un (by omega), eV2, hv_un (by omega)])⟩, (fun q h7 => by rw [eV690, hv_un (by omega), eV646, hv_un (by omega), eV602, hv_un (by omega), eV558, hv_un (by omega), eV514, hv_un (by omega), eV470, hv_un (by omega), eV426, hv_un (by omega), eV382, hv_un (by omega), eV344, hv_un (by omega), eV306, hv_un (by omega), eV268, hv_un (by omega), eV230, hv_un (by omega), eV192, hv_un (by omega), eV154, hv_un (by omega), eV116, hv_un (by omega), eV78, hv_un (by omega), eV40, hv_un (by omega), eV2, hv_un (by omega)])⟩) dX7_undo_143

theorem m_X7_undo {l : Launch} {X : hv_X} {V : hv_V} {mo : Nat} {σ : hs_S} (hM : okM X V mo σ) (hB : hs_b σ) : hv_Mi l X 220 yX7_undo cX7_undo 2 .int V [.ref mo] (fun y V1 => y = (sp_undo σ).1 ∧ okM X V1 mo (sp_undo σ).2 ∧ hv_out V V1 mo (mo + 50)) := by
  cases hk : σ.2.1 with
  | none => exact n_X7_undo hM hB hk
  | some P => exact c_X7_undo hM hB hk
