theorem im_cp {f g : Nat → Int32} {n j : Nat} (h : j < n) : va_cpy f g 0 0 n j = f j := by simp [va_cpy, h]
set_option maxHeartbeats 16000000 in
set_option maxRecDepth 100000 in
theorem m_X7_image {l : Launch} {X : hv_X} {V : hv_V} {mo : Nat} {σ : hs_S} (hM : okM X V mo σ) (hB : hs_b σ) : hv_Mi l X 220 yX7_image cX7_image 2 .int V [.ref mo] (fun y V1 => y = (sp_image σ).1 ∧ okM X V1 mo (sp_image σ).2 ∧ hv_out V V1 mo (mo + 50)) := by
  refine hv_enter (by decide) (Nat.le_of_ble_eq_true rfl) ?_
  intro p e s m below meth c ls C0 hr hlk hnm w hl
  have hl : lv_has ls 2 [(0, .ref mo)] := hl
  obtain ⟨ab, be, pl, cl, sg, ik, hO, hRw, hTx, hSc, hSe, hEv, hBk, hIm, hTp⟩ := id hM
  obtain ⟨r1, r2, ⟨rf, r3, r4⟩, r5⟩ := id hRw
  obtain ⟨⟨wd, s1⟩, ⟨td, s2⟩, ⟨sn, s3⟩, ⟨ut, s4⟩, kn, s5⟩ := id hSc
  obtain ⟨sf, sg9, sh, e1, e2, e3, ea⟩ := id hSe
  obtain ⟨ef, eg, v1, v2, va⟩ := id hEv
  obtain ⟨bf, bg, b1, b2, ba⟩ := id hBk
  obtain ⟨t1, t2, ⟨tf, t3, t4⟩, t5⟩ := id hTp
  have hbR := hB.1.1
  obtain ⟨ct, ki, ma, nf, tf2, nu, td, i1, i2, i3, ⟨i4, i5⟩, i6, ⟨i7, i8⟩, i9x, i10⟩ := id hIm
  have nr0 : V (mo + 4 + 0) = some (nE X (σ.1.1.2.2 0)) := r5 0 (by decide)
  have ir0 : V (mo + 27 + 0) = some (nE X (nu 0)) := i6 0 (by decide)
  have nr1 : V (mo + 4 + 1) = some (nE X (σ.1.1.2.2 1)) := r5 1 (by decide)
  have ir1 : V (mo + 27 + 1) = some (nE X (nu 1)) := i6 1 (by decide)
  have nr2 : V (mo + 4 + 2) = some (nE X (σ.1.1.2.2 2)) := r5 2 (by decide)
  have ir2 : V (mo + 27 + 2) = some (nE X (nu 2)) := i6 2 (by decide)
  have nr3 : V (mo + 4 + 3) = some (nE X (σ.1.1.2.2 3)) := r5 3 (by decide)
  have ir3 : V (mo + 27 + 3) = some (nE X (nu 3)) := i6 3 (by decide)
  have nr4 : V (mo + 4 + 4) = some (nE X (σ.1.1.2.2 4)) := r5 4 (by decide)
  have ir4 : V (mo + 27 + 4) = some (nE X (nu 4)) := i6 4 (by decide)
  have nr5 : V (mo + 4 + 5) = some (nE X (σ.1.1.2.2 5)) := r5 5 (by decide)
  have ir5 : V (mo + 27 + 5) = some (nE X (nu 5)) := i6 5 (by decide)
  have it0 : V (mo + 34 + 0) = some (iE X 8 (td 0)) := i9x 0 (by decide)
  have it1 : V (mo + 34 + 1) = some (iE X 8 (td 1)) := i9x 1 (by decide)
  have it2 : V (mo + 34 + 2) = some (iE X 8 (td 2)) := i9x 2 (by decide)
  have it3 : V (mo + 34 + 3) = some (iE X 8 (td 3)) := i9x 3 (by decide)
  have it4 : V (mo + 34 + 4) = some (iE X 8 (td 4)) := i9x 4 (by decide)
  have it5 : V (mo + 34 + 5) = some (iE X 8 (td 5)) := i9x 5 (by decide)
  have it6 : V (mo + 34 + 6) = some (iE X 8 (td 6)) := i9x 6 (by decide)
  have hb4 := hB.1.2.1.1
  have hb8 := hB.1.2.2.1.1
  have hb9 := hB.1.2.2.2.1

  refine lv_aload_n C0.1 C0.2.1 dX7_image_0 rfl (lv_at hl 0 rfl) ?_
  refine lv_iconst (v := 1) C0.1 C0.2.1 dX7_image_1 (by decide) ?_
  refine pf_X7_306 C0 w hO (by simp) (by decide) (by decide) dX7_image_2 (fun Hq lq w => ?_)
  obtain ⟨V1, eV2⟩ : ∃ W9, W9 = hv_up V mo (.inr (7, [.ref (mo + 1), .ref (mo + 2), .ref (mo + 3), .long ab, .long be, .ref (mo + 10), .int (nI σ.2.2.1.1), .int pl, .int cl, .ref (mo + 11), .ref (mo + 12), .ref (mo + 13), .int sg, .ref (mo + 14), .ref (mo + 15), .ref (mo + 16), .ref (mo + 17), .int (nI σ.1.2.1.1), .ref (mo + 18), .ref (mo + 19), .int (nI σ.1.2.2.1.1), .ref (mo + 20), .ref (mo + 21), .ref (mo + 22), .int (nI σ.1.2.2.2.1), .int 1, .ref (mo + 23), .ref (mo + 24), .ref (mo + 25), .ref (mo + 26), .ref (mo + 33), .ref (mo + 41), .ref (mo + 42), .ref (mo + 43)])) := ⟨_, rfl⟩
  have w : hv_w X s V1 Hq lq := by rw [eV2]; exact w
  have hV4 : V1 (mo + 1) = some (.inl (X.2.1 0, 6, .inl σ.1.1.1)) := by rw [eV2, hv_un (by omega)]; exact r1
  have hV5 : V1 (mo + 2) = some (.inl (X.2.1 0, 6, .inl (fun j => nI (σ.1.1.2.1 j)))) := by rw [eV2, hv_un (by omega)]; exact r2
  have hV6 : V1 (mo + 3) = some (.inl (X.2.1 6, 6, .inr (.inr (.inr (.inr rf))))) := by rw [eV2, hv_un (by omega)]; exact r3
  have hV7 : V1 (mo + 15) = some (.inl (X.2.1 0, 4, .inl sf)) := by rw [eV2, hv_un (by omega)]; exact e1
  have hV8 : V1 (mo + 16) = some (.inl (X.2.1 0, 4, .inl sg9)) := by rw [eV2, hv_un (by omega)]; exact e2
  have hV9 : V1 (mo + 17) = some (.inl (X.2.1 0, 4, .inl sh)) := by rw [eV2, hv_un (by omega)]; exact e3
  have hV10 : V1 (mo + 18) = some (.inl (X.2.1 0, 8, .inl ef)) := by rw [eV2, hv_un (by omega)]; exact v1
  have hV11 : V1 (mo + 19) = some (.inl (X.2.1 0, 8, .inl eg)) := by rw [eV2, hv_un (by omega)]; exact v2
  have hV12 : V1 (mo + 21) = some (.inl (X.2.1 0, 8, .inl bf)) := by rw [eV2, hv_un (by omega)]; exact b1
  have hV13 : V1 (mo + 22) = some (.inl (X.2.1 0, 8, .inl bg)) := by rw [eV2, hv_un (by omega)]; exact b2
  have hV14 : V1 (mo + 4 + 0) = some (.inl (X.2.1 0, 16, .inl (σ.1.1.2.2 0))) := by rw [eV2, hv_un (by omega)]; exact nr0
  have hV15 : V1 (mo + 27 + 0) = some (.inl (X.2.1 0, 16, .inl (nu 0))) := by rw [eV2, hv_un (by omega)]; exact ir0
  have hV16 : V1 (mo + 4 + 1) = some (.inl (X.2.1 0, 16, .inl (σ.1.1.2.2 1))) := by rw [eV2, hv_un (by omega)]; exact nr1
  have hV17 : V1 (mo + 27 + 1) = some (.inl (X.2.1 0, 16, .inl (nu 1))) := by rw [eV2, hv_un (by omega)]; exact ir1
  have hV18 : V1 (mo + 4 + 2) = some (.inl (X.2.1 0, 16, .inl (σ.1.1.2.2 2))) := by rw [eV2, hv_un (by omega)]; exact nr2
  have hV19 : V1 (mo + 27 + 2) = some (.inl (X.2.1 0, 16, .inl (nu 2))) := by rw [eV2, hv_un (by omega)]; exact ir2
  have hV20 : V1 (mo + 4 + 3) = some (.inl (X.2.1 0, 16, .inl (σ.1.1.2.2 3))) := by rw [eV2, hv_un (by omega)]; exact nr3
  have hV21 : V1 (mo + 27 + 3) = some (.inl (X.2.1 0, 16, .inl (nu 3))) := by rw [eV2, hv_un (by omega)]; exact ir3
  have hV22 : V1 (mo + 4 + 4) = some (.inl (X.2.1 0, 16, .inl (σ.1.1.2.2 4))) := by rw [eV2, hv_un (by omega)]; exact nr4
  have hV23 : V1 (mo + 27 + 4) = some (.inl (X.2.1 0, 16, .inl (nu 4))) := by rw [eV2, hv_un (by omega)]; exact ir4
  have hV24 : V1 (mo + 4 + 5) = some (.inl (X.2.1 0, 16, .inl (σ.1.1.2.2 5))) := by rw [eV2, hv_un (by omega)]; exact nr5
  have hV25 : V1 (mo + 27 + 5) = some (.inl (X.2.1 0, 16, .inl (nu 5))) := by rw [eV2, hv_un (by omega)]; exact ir5
  have hV26 : V1 (mo + 23) = some (.inl (X.2.1 0, 3, .inl ct)) := by rw [eV2, hv_un (by omega)]; exact i1
  have hV27 : V1 (mo + 24) = some (.inl (X.2.1 0, 6, .inl ki)) := by rw [eV2, hv_un (by omega)]; exact i2
  have hV28 : V1 (mo + 25) = some (.inl (X.2.1 0, 6, .inl ma)) := by rw [eV2, hv_un (by omega)]; exact i3
  have hV29 : V1 (mo + 26) = some (.inl (X.2.1 6, 6, .inr (.inr (.inr (.inr nf))))) := by rw [eV2, hv_un (by omega)]; exact i4
  have hV30 : V1 (mo + 33) = some (.inl (X.2.1 6, 7, .inr (.inr (.inr (.inr tf2))))) := by rw [eV2, hv_un (by omega)]; exact i7
  have hV31 : V1 (mo + 34 + 0) = some (.inl (X.2.1 0, 8, .inl (td 0))) := by rw [eV2, hv_un (by omega)]; exact it0
  have hV32 : V1 (mo + 34 + 1) = some (.inl (X.2.1 0, 8, .inl (td 1))) := by rw [eV2, hv_un (by omega)]; exact it1
  have hV33 : V1 (mo + 34 + 2) = some (.inl (X.2.1 0, 8, .inl (td 2))) := by rw [eV2, hv_un (by omega)]; exact it2
  have hV34 : V1 (mo + 34 + 3) = some (.inl (X.2.1 0, 8, .inl (td 3))) := by rw [eV2, hv_un (by omega)]; exact it3
  have hV35 : V1 (mo + 34 + 4) = some (.inl (X.2.1 0, 8, .inl (td 4))) := by rw [eV2, hv_un (by omega)]; exact it4
  have hV36 : V1 (mo + 34 + 5) = some (.inl (X.2.1 0, 8, .inl (td 5))) := by rw [eV2, hv_un (by omega)]; exact it5
  have hV37 : V1 (mo + 34 + 6) = some (.inl (X.2.1 0, 8, .inl (td 6))) := by rw [eV2, hv_un (by omega)]; exact it6
  have hV38 : V1 mo = some (.inr (7, [.ref (mo + 1), .ref (mo + 2), .ref (mo + 3), .long ab, .long be, .ref (mo + 10), .int (nI σ.2.2.1.1), .int pl, .int cl, .ref (mo + 11), .ref (mo + 12), .ref (mo + 13), .int sg, .ref (mo + 14), .ref (mo + 15), .ref (mo + 16), .ref (mo + 17), .int (nI σ.1.2.1.1), .ref (mo + 18), .ref (mo + 19), .int (nI σ.1.2.2.1.1), .ref (mo + 20), .ref (mo + 21), .ref (mo + 22), .int (nI σ.1.2.2.2.1), .int 1, .ref (mo + 23), .ref (mo + 24), .ref (mo + 25), .ref (mo + 26), .ref (mo + 33), .ref (mo + 41), .ref (mo + 42), .ref (mo + 43)])) := by rw [eV2]; exact hv_us
  refine lv_aload_n C0.1 C0.2.1 dX7_image_5 rfl (lv_at hl 0 rfl) ?_
  refine gf_X7_63 C0 w hV38 rfl dX7_image_6 ?_
  refine lv_iconst (v := 0) C0.1 C0.2.1 dX7_image_9 (by decide) ?_
  refine lv_aload_n C0.1 C0.2.1 dX7_image_10 rfl (lv_at hl 0 rfl) ?_
  refine gf_X7_275 C0 w hV38 rfl dX7_image_11 ?_
  refine hv_iast C0 w hV26 (hn_in (n := 0) (by decide) (by decide)) dX7_image_14 (fun Hq lq w => ?_)
  have hc9 : (0 : Int32).toNatClampNeg = 0 := by decide
  rw [hc9] at w; clear hc9
  obtain ⟨V39, eV40⟩ : ∃ W9, W9 = hv_up V1 (mo + 23) (.inl (X.2.1 0, 3, .inl (upd ct 0 (nI σ.1.2.1.1)))) := ⟨_, rfl⟩
  have w : hv_w X s V39 Hq lq := by rw [eV40]; exact w
  have hV41 : V39 (mo + 1) = some (.inl (X.2.1 0, 6, .inl σ.1.1.1)) := by rw [eV40, hv_un (by omega)]; exact hV4
  have hV42 : V39 (mo + 2) = some (.inl (X.2.1 0, 6, .inl (fun j => nI (σ.1.1.2.1 j)))) := by rw [eV40, hv_un (by omega)]; exact hV5
  have hV43 : V39 (mo + 3) = some (.inl (X.2.1 6, 6, .inr (.inr (.inr (.inr rf))))) := by rw [eV40, hv_un (by omega)]; exact hV6
  have hV44 : V39 (mo + 15) = some (.inl (X.2.1 0, 4, .inl sf)) := by rw [eV40, hv_un (by omega)]; exact hV7
  have hV45 : V39 (mo + 16) = some (.inl (X.2.1 0, 4, .inl sg9)) := by rw [eV40, hv_un (by omega)]; exact hV8
  have hV46 : V39 (mo + 17) = some (.inl (X.2.1 0, 4, .inl sh)) := by rw [eV40, hv_un (by omega)]; exact hV9
  have hV47 : V39 (mo + 18) = some (.inl (X.2.1 0, 8, .inl ef)) := by rw [eV40, hv_un (by omega)]; exact hV10
  have hV48 : V39 (mo + 19) = some (.inl (X.2.1 0, 8, .inl eg)) := by rw [eV40, hv_un (by omega)]; exact hV11
  have hV49 : V39 (mo + 21) = some (.inl (X.2.1 0, 8, .inl bf)) := by rw [eV40, hv_un (by omega)]; exact hV12
  have hV50 : V39 (mo + 22) = some (.inl (X.2.1 0, 8, .inl bg)) := by rw [eV40, hv_un (by omega)]; exact hV13
  have hV51 : V39 (mo + 4 + 0) = some (.inl (X.2.1 0, 16, .inl (σ.1.1.2.2 0))) := by rw [eV40, hv_un (by omega)]; exact hV14
  have hV52 : V39 (mo + 27 + 0) = some (.inl (X.2.1 0, 16, .inl (nu 0))) := by rw [eV40, hv_un (by omega)]; exact hV15
  have hV53 : V39 (mo + 4 + 1) = some (.inl (X.2.1 0, 16, .inl (σ.1.1.2.2 1))) := by rw [eV40, hv_un (by omega)]; exact hV16
  have hV54 : V39 (mo + 27 + 1) = some (.inl (X.2.1 0, 16, .inl (nu 1))) := by rw [eV40, hv_un (by omega)]; exact hV17
  have hV55 : V39 (mo + 4 + 2) = some (.inl (X.2.1 0, 16, .inl (σ.1.1.2.2 2))) := by rw [eV40, hv_un (by omega)]; exact hV18
  have hV56 : V39 (mo + 27 + 2) = some (.inl (X.2.1 0, 16, .inl (nu 2))) := by rw [eV40, hv_un (by omega)]; exact hV19
  have hV57 : V39 (mo + 4 + 3) = some (.inl (X.2.1 0, 16, .inl (σ.1.1.2.2 3))) := by rw [eV40, hv_un (by omega)]; exact hV20
  have hV58 : V39 (mo + 27 + 3) = some (.inl (X.2.1 0, 16, .inl (nu 3))) := by rw [eV40, hv_un (by omega)]; exact hV21
  have hV59 : V39 (mo + 4 + 4) = some (.inl (X.2.1 0, 16, .inl (σ.1.1.2.2 4))) := by rw [eV40, hv_un (by omega)]; exact hV22
  have hV60 : V39 (mo + 27 + 4) = some (.inl (X.2.1 0, 16, .inl (nu 4))) := by rw [eV40, hv_un (by omega)]; exact hV23
  have hV61 : V39 (mo + 4 + 5) = some (.inl (X.2.1 0, 16, .inl (σ.1.1.2.2 5))) := by rw [eV40, hv_un (by omega)]; exact hV24
  have hV62 : V39 (mo + 27 + 5) = some (.inl (X.2.1 0, 16, .inl (nu 5))) := by rw [eV40, hv_un (by omega)]; exact hV25
  have hV64 : V39 (mo + 24) = some (.inl (X.2.1 0, 6, .inl ki)) := by rw [eV40, hv_un (by omega)]; exact hV27
  have hV65 : V39 (mo + 25) = some (.inl (X.2.1 0, 6, .inl ma)) := by rw [eV40, hv_un (by omega)]; exact hV28
  have hV66 : V39 (mo + 26) = some (.inl (X.2.1 6, 6, .inr (.inr (.inr (.inr nf))))) := by rw [eV40, hv_un (by omega)]; exact hV29
  have hV67 : V39 (mo + 33) = some (.inl (X.2.1 6, 7, .inr (.inr (.inr (.inr tf2))))) := by rw [eV40, hv_un (by omega)]; exact hV30
  have hV68 : V39 (mo + 34 + 0) = some (.inl (X.2.1 0, 8, .inl (td 0))) := by rw [eV40, hv_un (by omega)]; exact hV31
  have hV69 : V39 (mo + 34 + 1) = some (.inl (X.2.1 0, 8, .inl (td 1))) := by rw [eV40, hv_un (by omega)]; exact hV32
  have hV70 : V39 (mo + 34 + 2) = some (.inl (X.2.1 0, 8, .inl (td 2))) := by rw [eV40, hv_un (by omega)]; exact hV33
  have hV71 : V39 (mo + 34 + 3) = some (.inl (X.2.1 0, 8, .inl (td 3))) := by rw [eV40, hv_un (by omega)]; exact hV34
  have hV72 : V39 (mo + 34 + 4) = some (.inl (X.2.1 0, 8, .inl (td 4))) := by rw [eV40, hv_un (by omega)]; exact hV35
  have hV73 : V39 (mo + 34 + 5) = some (.inl (X.2.1 0, 8, .inl (td 5))) := by rw [eV40, hv_un (by omega)]; exact hV36
  have hV74 : V39 (mo + 34 + 6) = some (.inl (X.2.1 0, 8, .inl (td 6))) := by rw [eV40, hv_un (by omega)]; exact hV37
  have hV75 : V39 mo = some (.inr (7, [.ref (mo + 1), .ref (mo + 2), .ref (mo + 3), .long ab, .long be, .ref (mo + 10), .int (nI σ.2.2.1.1), .int pl, .int cl, .ref (mo + 11), .ref (mo + 12), .ref (mo + 13), .int sg, .ref (mo + 14), .ref (mo + 15), .ref (mo + 16), .ref (mo + 17), .int (nI σ.1.2.1.1), .ref (mo + 18), .ref (mo + 19), .int (nI σ.1.2.2.1.1), .ref (mo + 20), .ref (mo + 21), .ref (mo + 22), .int (nI σ.1.2.2.2.1), .int 1, .ref (mo + 23), .ref (mo + 24), .ref (mo + 25), .ref (mo + 26), .ref (mo + 33), .ref (mo + 41), .ref (mo + 42), .ref (mo + 43)])) := by rw [eV40, hv_un (by omega)]; exact hV38
  have hV76 : V39 (mo + 23) = some (.inl (X.2.1 0, 3, .inl (upd ct 0 (nI σ.1.2.1.1)))) := by rw [eV40]; exact hv_us
  clear hV4 hV5 hV6 hV7 hV8 hV9 hV10 hV11 hV12 hV13 hV14 hV15 hV16 hV17 hV18 hV19 hV20 hV21 hV22 hV23 hV24 hV25 hV26 hV27 hV28 hV29 hV30 hV31 hV32 hV33 hV34 hV35 hV36 hV37 hV38
  refine lv_aload_n C0.1 C0.2.1 dX7_image_15 rfl (lv_at hl 0 rfl) ?_
  refine gf_X7_63 C0 w hV75 rfl dX7_image_16 ?_
  refine lv_iconst (v := 1) C0.1 C0.2.1 dX7_image_19 (by decide) ?_
  refine lv_aload_n C0.1 C0.2.1 dX7_image_20 rfl (lv_at hl 0 rfl) ?_
  refine gf_X7_285 C0 w hV75 rfl dX7_image_21 ?_
  refine hv_iast C0 w hV76 (hn_in (n := 1) (by decide) (by decide)) dX7_image_24 (fun Hq lq w => ?_)
  have hc9 : (1 : Int32).toNatClampNeg = 1 := by decide
  rw [hc9] at w; clear hc9
  obtain ⟨V77, eV78⟩ : ∃ W9, W9 = hv_up V39 (mo + 23) (.inl (X.2.1 0, 3, .inl (upd (upd ct 0 (nI σ.1.2.1.1)) 1 (nI σ.1.2.2.1.1)))) := ⟨_, rfl⟩
  have w : hv_w X s V77 Hq lq := by rw [eV78]; exact w
  have hV79 : V77 (mo + 1) = some (.inl (X.2.1 0, 6, .inl σ.1.1.1)) := by rw [eV78, hv_un (by omega)]; exact hV41
  have hV80 : V77 (mo + 2) = some (.inl (X.2.1 0, 6, .inl (fun j => nI (σ.1.1.2.1 j)))) := by rw [eV78, hv_un (by omega)]; exact hV42
  have hV81 : V77 (mo + 3) = some (.inl (X.2.1 6, 6, .inr (.inr (.inr (.inr rf))))) := by rw [eV78, hv_un (by omega)]; exact hV43
  have hV82 : V77 (mo + 15) = some (.inl (X.2.1 0, 4, .inl sf)) := by rw [eV78, hv_un (by omega)]; exact hV44
  have hV83 : V77 (mo + 16) = some (.inl (X.2.1 0, 4, .inl sg9)) := by rw [eV78, hv_un (by omega)]; exact hV45
  have hV84 : V77 (mo + 17) = some (.inl (X.2.1 0, 4, .inl sh)) := by rw [eV78, hv_un (by omega)]; exact hV46
  have hV85 : V77 (mo + 18) = some (.inl (X.2.1 0, 8, .inl ef)) := by rw [eV78, hv_un (by omega)]; exact hV47
  have hV86 : V77 (mo + 19) = some (.inl (X.2.1 0, 8, .inl eg)) := by rw [eV78, hv_un (by omega)]; exact hV48
  have hV87 : V77 (mo + 21) = some (.inl (X.2.1 0, 8, .inl bf)) := by rw [eV78, hv_un (by omega)]; exact hV49
  have hV88 : V77 (mo + 22) = some (.inl (X.2.1 0, 8, .inl bg)) := by rw [eV78, hv_un (by omega)]; exact hV50
  have hV89 : V77 (mo + 4 + 0) = some (.inl (X.2.1 0, 16, .inl (σ.1.1.2.2 0))) := by rw [eV78, hv_un (by omega)]; exact hV51
  have hV90 : V77 (mo + 27 + 0) = some (.inl (X.2.1 0, 16, .inl (nu 0))) := by rw [eV78, hv_un (by omega)]; exact hV52
  have hV91 : V77 (mo + 4 + 1) = some (.inl (X.2.1 0, 16, .inl (σ.1.1.2.2 1))) := by rw [eV78, hv_un (by omega)]; exact hV53
  have hV92 : V77 (mo + 27 + 1) = some (.inl (X.2.1 0, 16, .inl (nu 1))) := by rw [eV78, hv_un (by omega)]; exact hV54
  have hV93 : V77 (mo + 4 + 2) = some (.inl (X.2.1 0, 16, .inl (σ.1.1.2.2 2))) := by rw [eV78, hv_un (by omega)]; exact hV55
  have hV94 : V77 (mo + 27 + 2) = some (.inl (X.2.1 0, 16, .inl (nu 2))) := by rw [eV78, hv_un (by omega)]; exact hV56
  have hV95 : V77 (mo + 4 + 3) = some (.inl (X.2.1 0, 16, .inl (σ.1.1.2.2 3))) := by rw [eV78, hv_un (by omega)]; exact hV57
  have hV96 : V77 (mo + 27 + 3) = some (.inl (X.2.1 0, 16, .inl (nu 3))) := by rw [eV78, hv_un (by omega)]; exact hV58
  have hV97 : V77 (mo + 4 + 4) = some (.inl (X.2.1 0, 16, .inl (σ.1.1.2.2 4))) := by rw [eV78, hv_un (by omega)]; exact hV59
  have hV98 : V77 (mo + 27 + 4) = some (.inl (X.2.1 0, 16, .inl (nu 4))) := by rw [eV78, hv_un (by omega)]; exact hV60
  have hV99 : V77 (mo + 4 + 5) = some (.inl (X.2.1 0, 16, .inl (σ.1.1.2.2 5))) := by rw [eV78, hv_un (by omega)]; exact hV61
  have hV100 : V77 (mo + 27 + 5) = some (.inl (X.2.1 0, 16, .inl (nu 5))) := by rw [eV78, hv_un (by omega)]; exact hV62
  have hV101 : V77 (mo + 24) = some (.inl (X.2.1 0, 6, .inl ki)) := by rw [eV78, hv_un (by omega)]; exact hV64
  have hV102 : V77 (mo + 25) = some (.inl (X.2.1 0, 6, .inl ma)) := by rw [eV78, hv_un (by omega)]; exact hV65
  have hV103 : V77 (mo + 26) = some (.inl (X.2.1 6, 6, .inr (.inr (.inr (.inr nf))))) := by rw [eV78, hv_un (by omega)]; exact hV66
  have hV104 : V77 (mo + 33) = some (.inl (X.2.1 6, 7, .inr (.inr (.inr (.inr tf2))))) := by rw [eV78, hv_un (by omega)]; exact hV67
  have hV105 : V77 (mo + 34 + 0) = some (.inl (X.2.1 0, 8, .inl (td 0))) := by rw [eV78, hv_un (by omega)]; exact hV68
  have hV106 : V77 (mo + 34 + 1) = some (.inl (X.2.1 0, 8, .inl (td 1))) := by rw [eV78, hv_un (by omega)]; exact hV69
  have hV107 : V77 (mo + 34 + 2) = some (.inl (X.2.1 0, 8, .inl (td 2))) := by rw [eV78, hv_un (by omega)]; exact hV70
  have hV108 : V77 (mo + 34 + 3) = some (.inl (X.2.1 0, 8, .inl (td 3))) := by rw [eV78, hv_un (by omega)]; exact hV71
  have hV109 : V77 (mo + 34 + 4) = some (.inl (X.2.1 0, 8, .inl (td 4))) := by rw [eV78, hv_un (by omega)]; exact hV72
  have hV110 : V77 (mo + 34 + 5) = some (.inl (X.2.1 0, 8, .inl (td 5))) := by rw [eV78, hv_un (by omega)]; exact hV73
  have hV111 : V77 (mo + 34 + 6) = some (.inl (X.2.1 0, 8, .inl (td 6))) := by rw [eV78, hv_un (by omega)]; exact hV74
  have hV112 : V77 mo = some (.inr (7, [.ref (mo + 1), .ref (mo + 2), .ref (mo + 3), .long ab, .long be, .ref (mo + 10), .int (nI σ.2.2.1.1), .int pl, .int cl, .ref (mo + 11), .ref (mo + 12), .ref (mo + 13), .int sg, .ref (mo + 14), .ref (mo + 15), .ref (mo + 16), .ref (mo + 17), .int (nI σ.1.2.1.1), .ref (mo + 18), .ref (mo + 19), .int (nI σ.1.2.2.1.1), .ref (mo + 20), .ref (mo + 21), .ref (mo + 22), .int (nI σ.1.2.2.2.1), .int 1, .ref (mo + 23), .ref (mo + 24), .ref (mo + 25), .ref (mo + 26), .ref (mo + 33), .ref (mo + 41), .ref (mo + 42), .ref (mo + 43)])) := by rw [eV78, hv_un (by omega)]; exact hV75
  have hV114 : V77 (mo + 23) = some (.inl (X.2.1 0, 3, .inl (upd (upd ct 0 (nI σ.1.2.1.1)) 1 (nI σ.1.2.2.1.1)))) := by rw [eV78]; exact hv_us
  clear hV41 hV42 hV43 hV44 hV45 hV46 hV47 hV48 hV49 hV50 hV51 hV52 hV53 hV54 hV55 hV56 hV57 hV58 hV59 hV60 hV61 hV62 hV64 hV65 hV66 hV67 hV68 hV69 hV70 hV71 hV72 hV73 hV74 hV75 hV76
  refine lv_aload_n C0.1 C0.2.1 dX7_image_25 rfl (lv_at hl 0 rfl) ?_
  refine gf_X7_63 C0 w hV112 rfl dX7_image_26 ?_
  refine lv_iconst (v := 2) C0.1 C0.2.1 dX7_image_29 (by decide) ?_
  refine lv_aload_n C0.1 C0.2.1 dX7_image_30 rfl (lv_at hl 0 rfl) ?_
  refine gf_X7_297 C0 w hV112 rfl dX7_image_31 ?_
  refine hv_iast C0 w hV114 (hn_in (n := 2) (by decide) (by decide)) dX7_image_34 (fun Hq lq w => ?_)
  have hc9 : (2 : Int32).toNatClampNeg = 2 := by decide
  rw [hc9] at w; clear hc9
  obtain ⟨V115, eV116⟩ : ∃ W9, W9 = hv_up V77 (mo + 23) (.inl (X.2.1 0, 3, .inl (upd (upd (upd ct 0 (nI σ.1.2.1.1)) 1 (nI σ.1.2.2.1.1)) 2 (nI σ.1.2.2.2.1)))) := ⟨_, rfl⟩
  have w : hv_w X s V115 Hq lq := by rw [eV116]; exact w
  have hV117 : V115 (mo + 1) = some (.inl (X.2.1 0, 6, .inl σ.1.1.1)) := by rw [eV116, hv_un (by omega)]; exact hV79
  have hV118 : V115 (mo + 2) = some (.inl (X.2.1 0, 6, .inl (fun j => nI (σ.1.1.2.1 j)))) := by rw [eV116, hv_un (by omega)]; exact hV80
  have hV119 : V115 (mo + 3) = some (.inl (X.2.1 6, 6, .inr (.inr (.inr (.inr rf))))) := by rw [eV116, hv_un (by omega)]; exact hV81
  have hV120 : V115 (mo + 15) = some (.inl (X.2.1 0, 4, .inl sf)) := by rw [eV116, hv_un (by omega)]; exact hV82
  have hV121 : V115 (mo + 16) = some (.inl (X.2.1 0, 4, .inl sg9)) := by rw [eV116, hv_un (by omega)]; exact hV83
  have hV122 : V115 (mo + 17) = some (.inl (X.2.1 0, 4, .inl sh)) := by rw [eV116, hv_un (by omega)]; exact hV84
  have hV123 : V115 (mo + 18) = some (.inl (X.2.1 0, 8, .inl ef)) := by rw [eV116, hv_un (by omega)]; exact hV85
  have hV124 : V115 (mo + 19) = some (.inl (X.2.1 0, 8, .inl eg)) := by rw [eV116, hv_un (by omega)]; exact hV86
  have hV125 : V115 (mo + 21) = some (.inl (X.2.1 0, 8, .inl bf)) := by rw [eV116, hv_un (by omega)]; exact hV87
  have hV126 : V115 (mo + 22) = some (.inl (X.2.1 0, 8, .inl bg)) := by rw [eV116, hv_un (by omega)]; exact hV88
  have hV127 : V115 (mo + 4 + 0) = some (.inl (X.2.1 0, 16, .inl (σ.1.1.2.2 0))) := by rw [eV116, hv_un (by omega)]; exact hV89
  have hV128 : V115 (mo + 27 + 0) = some (.inl (X.2.1 0, 16, .inl (nu 0))) := by rw [eV116, hv_un (by omega)]; exact hV90
  have hV129 : V115 (mo + 4 + 1) = some (.inl (X.2.1 0, 16, .inl (σ.1.1.2.2 1))) := by rw [eV116, hv_un (by omega)]; exact hV91
  have hV130 : V115 (mo + 27 + 1) = some (.inl (X.2.1 0, 16, .inl (nu 1))) := by rw [eV116, hv_un (by omega)]; exact hV92
  have hV131 : V115 (mo + 4 + 2) = some (.inl (X.2.1 0, 16, .inl (σ.1.1.2.2 2))) := by rw [eV116, hv_un (by omega)]; exact hV93
  have hV132 : V115 (mo + 27 + 2) = some (.inl (X.2.1 0, 16, .inl (nu 2))) := by rw [eV116, hv_un (by omega)]; exact hV94
  have hV133 : V115 (mo + 4 + 3) = some (.inl (X.2.1 0, 16, .inl (σ.1.1.2.2 3))) := by rw [eV116, hv_un (by omega)]; exact hV95
  have hV134 : V115 (mo + 27 + 3) = some (.inl (X.2.1 0, 16, .inl (nu 3))) := by rw [eV116, hv_un (by omega)]; exact hV96
  have hV135 : V115 (mo + 4 + 4) = some (.inl (X.2.1 0, 16, .inl (σ.1.1.2.2 4))) := by rw [eV116, hv_un (by omega)]; exact hV97
  have hV136 : V115 (mo + 27 + 4) = some (.inl (X.2.1 0, 16, .inl (nu 4))) := by rw [eV116, hv_un (by omega)]; exact hV98
  have hV137 : V115 (mo + 4 + 5) = some (.inl (X.2.1 0, 16, .inl (σ.1.1.2.2 5))) := by rw [eV116, hv_un (by omega)]; exact hV99
  have hV138 : V115 (mo + 27 + 5) = some (.inl (X.2.1 0, 16, .inl (nu 5))) := by rw [eV116, hv_un (by omega)]; exact hV100
  have hV139 : V115 (mo + 24) = some (.inl (X.2.1 0, 6, .inl ki)) := by rw [eV116, hv_un (by omega)]; exact hV101
  have hV140 : V115 (mo + 25) = some (.inl (X.2.1 0, 6, .inl ma)) := by rw [eV116, hv_un (by omega)]; exact hV102
  have hV141 : V115 (mo + 26) = some (.inl (X.2.1 6, 6, .inr (.inr (.inr (.inr nf))))) := by rw [eV116, hv_un (by omega)]; exact hV103
  have hV142 : V115 (mo + 33) = some (.inl (X.2.1 6, 7, .inr (.inr (.inr (.inr tf2))))) := by rw [eV116, hv_un (by omega)]; exact hV104
  have hV143 : V115 (mo + 34 + 0) = some (.inl (X.2.1 0, 8, .inl (td 0))) := by rw [eV116, hv_un (by omega)]; exact hV105
  have hV144 : V115 (mo + 34 + 1) = some (.inl (X.2.1 0, 8, .inl (td 1))) := by rw [eV116, hv_un (by omega)]; exact hV106
  have hV145 : V115 (mo + 34 + 2) = some (.inl (X.2.1 0, 8, .inl (td 2))) := by rw [eV116, hv_un (by omega)]; exact hV107
  have hV146 : V115 (mo + 34 + 3) = some (.inl (X.2.1 0, 8, .inl (td 3))) := by rw [eV116, hv_un (by omega)]; exact hV108
  have hV147 : V115 (mo + 34 + 4) = some (.inl (X.2.1 0, 8, .inl (td 4))) := by rw [eV116, hv_un (by omega)]; exact hV109
  have hV148 : V115 (mo + 34 + 5) = some (.inl (X.2.1 0, 8, .inl (td 5))) := by rw [eV116, hv_un (by omega)]; exact hV110
  have hV149 : V115 (mo + 34 + 6) = some (.inl (X.2.1 0, 8, .inl (td 6))) := by rw [eV116, hv_un (by omega)]; exact hV111
  have hV150 : V115 mo = some (.inr (7, [.ref (mo + 1), .ref (mo + 2), .ref (mo + 3), .long ab, .long be, .ref (mo + 10), .int (nI σ.2.2.1.1), .int pl, .int cl, .ref (mo + 11), .ref (mo + 12), .ref (mo + 13), .int sg, .ref (mo + 14), .ref (mo + 15), .ref (mo + 16), .ref (mo + 17), .int (nI σ.1.2.1.1), .ref (mo + 18), .ref (mo + 19), .int (nI σ.1.2.2.1.1), .ref (mo + 20), .ref (mo + 21), .ref (mo + 22), .int (nI σ.1.2.2.2.1), .int 1, .ref (mo + 23), .ref (mo + 24), .ref (mo + 25), .ref (mo + 26), .ref (mo + 33), .ref (mo + 41), .ref (mo + 42), .ref (mo + 43)])) := by rw [eV116, hv_un (by omega)]; exact hV112
  have hV152 : V115 (mo + 23) = some (.inl (X.2.1 0, 3, .inl (upd (upd (upd ct 0 (nI σ.1.2.1.1)) 1 (nI σ.1.2.2.1.1)) 2 (nI σ.1.2.2.2.1)))) := by rw [eV116]; exact hv_us
  clear hV79 hV80 hV81 hV82 hV83 hV84 hV85 hV86 hV87 hV88 hV89 hV90 hV91 hV92 hV93 hV94 hV95 hV96 hV97 hV98 hV99 hV100 hV101 hV102 hV103 hV104 hV105 hV106 hV107 hV108 hV109 hV110 hV111 hV112 hV114
  refine lv_aload_n C0.1 C0.2.1 dX7_image_35 rfl (lv_at hl 0 rfl) ?_
  refine gf_X7_11 C0 w hV150 rfl dX7_image_36 ?_
  refine lv_iconst (v := 0) C0.1 C0.2.1 dX7_image_39 (by decide) ?_
  refine lv_aload_n C0.1 C0.2.1 dX7_image_40 rfl (lv_at hl 0 rfl) ?_
  refine gf_X7_66 C0 w hV150 rfl dX7_image_41 ?_
  refine lv_iconst (v := 0) C0.1 C0.2.1 dX7_image_44 (by decide) ?_
  refine lv_bipush (v := 6) C0.1 C0.2.1 dX7_image_45 (by decide) ?_
  refine hv_copyi C0 w hl.1 kj_X7_148 hV117 hV139 (by decide) (by decide) (by decide) (by decide) (by decide) (by decide) (Nat.le_of_ble_eq_true rfl) dX7_image_47 (fun Hq lq w => ?_)
  have w := hv_w.as (a := mo + 24) (n := 6) (f := va_cpy (σ.1.1.1) ki 0 0 6) (g := σ.1.1.1) w hv_us (fun i9 hi9 => by simp [va_cpy, hi9])
  rw [hv_uu] at w
  obtain ⟨V153, eV154⟩ : ∃ W9, W9 = hv_up V115 (mo + 24) (.inl (X.2.1 0, 6, .inl (σ.1.1.1))) := ⟨_, rfl⟩
  have w : hv_w X s V153 Hq lq := by rw [eV154]; exact w
  have hV155 : V153 (mo + 1) = some (.inl (X.2.1 0, 6, .inl σ.1.1.1)) := by rw [eV154, hv_un (by omega)]; exact hV117
  have hV156 : V153 (mo + 2) = some (.inl (X.2.1 0, 6, .inl (fun j => nI (σ.1.1.2.1 j)))) := by rw [eV154, hv_un (by omega)]; exact hV118
  have hV157 : V153 (mo + 3) = some (.inl (X.2.1 6, 6, .inr (.inr (.inr (.inr rf))))) := by rw [eV154, hv_un (by omega)]; exact hV119
  have hV158 : V153 (mo + 15) = some (.inl (X.2.1 0, 4, .inl sf)) := by rw [eV154, hv_un (by omega)]; exact hV120
  have hV159 : V153 (mo + 16) = some (.inl (X.2.1 0, 4, .inl sg9)) := by rw [eV154, hv_un (by omega)]; exact hV121
  have hV160 : V153 (mo + 17) = some (.inl (X.2.1 0, 4, .inl sh)) := by rw [eV154, hv_un (by omega)]; exact hV122
  have hV161 : V153 (mo + 18) = some (.inl (X.2.1 0, 8, .inl ef)) := by rw [eV154, hv_un (by omega)]; exact hV123
  have hV162 : V153 (mo + 19) = some (.inl (X.2.1 0, 8, .inl eg)) := by rw [eV154, hv_un (by omega)]; exact hV124
  have hV163 : V153 (mo + 21) = some (.inl (X.2.1 0, 8, .inl bf)) := by rw [eV154, hv_un (by omega)]; exact hV125
  have hV164 : V153 (mo + 22) = some (.inl (X.2.1 0, 8, .inl bg)) := by rw [eV154, hv_un (by omega)]; exact hV126
  have hV165 : V153 (mo + 4 + 0) = some (.inl (X.2.1 0, 16, .inl (σ.1.1.2.2 0))) := by rw [eV154, hv_un (by omega)]; exact hV127
  have hV166 : V153 (mo + 27 + 0) = some (.inl (X.2.1 0, 16, .inl (nu 0))) := by rw [eV154, hv_un (by omega)]; exact hV128
  have hV167 : V153 (mo + 4 + 1) = some (.inl (X.2.1 0, 16, .inl (σ.1.1.2.2 1))) := by rw [eV154, hv_un (by omega)]; exact hV129
  have hV168 : V153 (mo + 27 + 1) = some (.inl (X.2.1 0, 16, .inl (nu 1))) := by rw [eV154, hv_un (by omega)]; exact hV130
  have hV169 : V153 (mo + 4 + 2) = some (.inl (X.2.1 0, 16, .inl (σ.1.1.2.2 2))) := by rw [eV154, hv_un (by omega)]; exact hV131
  have hV170 : V153 (mo + 27 + 2) = some (.inl (X.2.1 0, 16, .inl (nu 2))) := by rw [eV154, hv_un (by omega)]; exact hV132
  have hV171 : V153 (mo + 4 + 3) = some (.inl (X.2.1 0, 16, .inl (σ.1.1.2.2 3))) := by rw [eV154, hv_un (by omega)]; exact hV133
  have hV172 : V153 (mo + 27 + 3) = some (.inl (X.2.1 0, 16, .inl (nu 3))) := by rw [eV154, hv_un (by omega)]; exact hV134
  have hV173 : V153 (mo + 4 + 4) = some (.inl (X.2.1 0, 16, .inl (σ.1.1.2.2 4))) := by rw [eV154, hv_un (by omega)]; exact hV135
  have hV174 : V153 (mo + 27 + 4) = some (.inl (X.2.1 0, 16, .inl (nu 4))) := by rw [eV154, hv_un (by omega)]; exact hV136
  have hV175 : V153 (mo + 4 + 5) = some (.inl (X.2.1 0, 16, .inl (σ.1.1.2.2 5))) := by rw [eV154, hv_un (by omega)]; exact hV137
  have hV176 : V153 (mo + 27 + 5) = some (.inl (X.2.1 0, 16, .inl (nu 5))) := by rw [eV154, hv_un (by omega)]; exact hV138
  have hV178 : V153 (mo + 25) = some (.inl (X.2.1 0, 6, .inl ma)) := by rw [eV154, hv_un (by omega)]; exact hV140
  have hV179 : V153 (mo + 26) = some (.inl (X.2.1 6, 6, .inr (.inr (.inr (.inr nf))))) := by rw [eV154, hv_un (by omega)]; exact hV141
  have hV180 : V153 (mo + 33) = some (.inl (X.2.1 6, 7, .inr (.inr (.inr (.inr tf2))))) := by rw [eV154, hv_un (by omega)]; exact hV142
  have hV181 : V153 (mo + 34 + 0) = some (.inl (X.2.1 0, 8, .inl (td 0))) := by rw [eV154, hv_un (by omega)]; exact hV143
  have hV182 : V153 (mo + 34 + 1) = some (.inl (X.2.1 0, 8, .inl (td 1))) := by rw [eV154, hv_un (by omega)]; exact hV144
  have hV183 : V153 (mo + 34 + 2) = some (.inl (X.2.1 0, 8, .inl (td 2))) := by rw [eV154, hv_un (by omega)]; exact hV145
  have hV184 : V153 (mo + 34 + 3) = some (.inl (X.2.1 0, 8, .inl (td 3))) := by rw [eV154, hv_un (by omega)]; exact hV146
  have hV185 : V153 (mo + 34 + 4) = some (.inl (X.2.1 0, 8, .inl (td 4))) := by rw [eV154, hv_un (by omega)]; exact hV147
  have hV186 : V153 (mo + 34 + 5) = some (.inl (X.2.1 0, 8, .inl (td 5))) := by rw [eV154, hv_un (by omega)]; exact hV148
  have hV187 : V153 (mo + 34 + 6) = some (.inl (X.2.1 0, 8, .inl (td 6))) := by rw [eV154, hv_un (by omega)]; exact hV149
  have hV188 : V153 mo = some (.inr (7, [.ref (mo + 1), .ref (mo + 2), .ref (mo + 3), .long ab, .long be, .ref (mo + 10), .int (nI σ.2.2.1.1), .int pl, .int cl, .ref (mo + 11), .ref (mo + 12), .ref (mo + 13), .int sg, .ref (mo + 14), .ref (mo + 15), .ref (mo + 16), .ref (mo + 17), .int (nI σ.1.2.1.1), .ref (mo + 18), .ref (mo + 19), .int (nI σ.1.2.2.1.1), .ref (mo + 20), .ref (mo + 21), .ref (mo + 22), .int (nI σ.1.2.2.2.1), .int 1, .ref (mo + 23), .ref (mo + 24), .ref (mo + 25), .ref (mo + 26), .ref (mo + 33), .ref (mo + 41), .ref (mo + 42), .ref (mo + 43)])) := by rw [eV154, hv_un (by omega)]; exact hV150
  have hV189 : V153 (mo + 23) = some (.inl (X.2.1 0, 3, .inl (upd (upd (upd ct 0 (nI σ.1.2.1.1)) 1 (nI σ.1.2.2.1.1)) 2 (nI σ.1.2.2.2.1)))) := by rw [eV154, hv_un (by omega)]; exact hV152
  have hV190 : V153 (mo + 24) = some (.inl (X.2.1 0, 6, .inl (σ.1.1.1))) := by rw [eV154]; exact hv_us
  clear hV117 hV118 hV119 hV120 hV121 hV122 hV123 hV124 hV125 hV126 hV127 hV128 hV129 hV130 hV131 hV132 hV133 hV134 hV135 hV136 hV137 hV138 hV139 hV140 hV141 hV142 hV143 hV144 hV145 hV146 hV147 hV148 hV149 hV150 hV152
  refine lv_aload_n C0.1 C0.2.1 dX7_image_50 rfl (lv_at hl 0 rfl) ?_
  refine gf_X7_15 C0 w hV188 rfl dX7_image_51 ?_
  refine lv_iconst (v := 0) C0.1 C0.2.1 dX7_image_54 (by decide) ?_
  refine lv_aload_n C0.1 C0.2.1 dX7_image_55 rfl (lv_at hl 0 rfl) ?_
  refine gf_X7_69 C0 w hV188 rfl dX7_image_56 ?_
  refine lv_iconst (v := 0) C0.1 C0.2.1 dX7_image_59 (by decide) ?_
  refine lv_bipush (v := 6) C0.1 C0.2.1 dX7_image_60 (by decide) ?_
  refine hv_copyi C0 w hl.1 kj_X7_148 hV156 hV178 (by decide) (by decide) (by decide) (by decide) (by decide) (by decide) (Nat.le_of_ble_eq_true rfl) dX7_image_62 (fun Hq lq w => ?_)
  have w := hv_w.as (a := mo + 25) (n := 6) (f := va_cpy (fun j => nI (σ.1.1.2.1 j)) ma 0 0 6) (g := (fun j => nI (σ.1.1.2.1 j))) w hv_us (fun i9 hi9 => by simp [va_cpy, hi9])
  rw [hv_uu] at w
  obtain ⟨V191, eV192⟩ : ∃ W9, W9 = hv_up V153 (mo + 25) (.inl (X.2.1 0, 6, .inl (fun j => nI (σ.1.1.2.1 j)))) := ⟨_, rfl⟩
  have w : hv_w X s V191 Hq lq := by rw [eV192]; exact w
  have hV193 : V191 (mo + 1) = some (.inl (X.2.1 0, 6, .inl σ.1.1.1)) := by rw [eV192, hv_un (by omega)]; exact hV155
  have hV194 : V191 (mo + 2) = some (.inl (X.2.1 0, 6, .inl (fun j => nI (σ.1.1.2.1 j)))) := by rw [eV192, hv_un (by omega)]; exact hV156
  have hV195 : V191 (mo + 3) = some (.inl (X.2.1 6, 6, .inr (.inr (.inr (.inr rf))))) := by rw [eV192, hv_un (by omega)]; exact hV157
  have hV196 : V191 (mo + 15) = some (.inl (X.2.1 0, 4, .inl sf)) := by rw [eV192, hv_un (by omega)]; exact hV158
  have hV197 : V191 (mo + 16) = some (.inl (X.2.1 0, 4, .inl sg9)) := by rw [eV192, hv_un (by omega)]; exact hV159
  have hV198 : V191 (mo + 17) = some (.inl (X.2.1 0, 4, .inl sh)) := by rw [eV192, hv_un (by omega)]; exact hV160
  have hV199 : V191 (mo + 18) = some (.inl (X.2.1 0, 8, .inl ef)) := by rw [eV192, hv_un (by omega)]; exact hV161
  have hV200 : V191 (mo + 19) = some (.inl (X.2.1 0, 8, .inl eg)) := by rw [eV192, hv_un (by omega)]; exact hV162
  have hV201 : V191 (mo + 21) = some (.inl (X.2.1 0, 8, .inl bf)) := by rw [eV192, hv_un (by omega)]; exact hV163
  have hV202 : V191 (mo + 22) = some (.inl (X.2.1 0, 8, .inl bg)) := by rw [eV192, hv_un (by omega)]; exact hV164
  have hV203 : V191 (mo + 4 + 0) = some (.inl (X.2.1 0, 16, .inl (σ.1.1.2.2 0))) := by rw [eV192, hv_un (by omega)]; exact hV165
  have hV204 : V191 (mo + 27 + 0) = some (.inl (X.2.1 0, 16, .inl (nu 0))) := by rw [eV192, hv_un (by omega)]; exact hV166
  have hV205 : V191 (mo + 4 + 1) = some (.inl (X.2.1 0, 16, .inl (σ.1.1.2.2 1))) := by rw [eV192, hv_un (by omega)]; exact hV167
  have hV206 : V191 (mo + 27 + 1) = some (.inl (X.2.1 0, 16, .inl (nu 1))) := by rw [eV192, hv_un (by omega)]; exact hV168
  have hV207 : V191 (mo + 4 + 2) = some (.inl (X.2.1 0, 16, .inl (σ.1.1.2.2 2))) := by rw [eV192, hv_un (by omega)]; exact hV169
  have hV208 : V191 (mo + 27 + 2) = some (.inl (X.2.1 0, 16, .inl (nu 2))) := by rw [eV192, hv_un (by omega)]; exact hV170
  have hV209 : V191 (mo + 4 + 3) = some (.inl (X.2.1 0, 16, .inl (σ.1.1.2.2 3))) := by rw [eV192, hv_un (by omega)]; exact hV171
  have hV210 : V191 (mo + 27 + 3) = some (.inl (X.2.1 0, 16, .inl (nu 3))) := by rw [eV192, hv_un (by omega)]; exact hV172
  have hV211 : V191 (mo + 4 + 4) = some (.inl (X.2.1 0, 16, .inl (σ.1.1.2.2 4))) := by rw [eV192, hv_un (by omega)]; exact hV173
  have hV212 : V191 (mo + 27 + 4) = some (.inl (X.2.1 0, 16, .inl (nu 4))) := by rw [eV192, hv_un (by omega)]; exact hV174
  have hV213 : V191 (mo + 4 + 5) = some (.inl (X.2.1 0, 16, .inl (σ.1.1.2.2 5))) := by rw [eV192, hv_un (by omega)]; exact hV175
  have hV214 : V191 (mo + 27 + 5) = some (.inl (X.2.1 0, 16, .inl (nu 5))) := by rw [eV192, hv_un (by omega)]; exact hV176
  have hV216 : V191 (mo + 26) = some (.inl (X.2.1 6, 6, .inr (.inr (.inr (.inr nf))))) := by rw [eV192, hv_un (by omega)]; exact hV179
  have hV217 : V191 (mo + 33) = some (.inl (X.2.1 6, 7, .inr (.inr (.inr (.inr tf2))))) := by rw [eV192, hv_un (by omega)]; exact hV180
  have hV218 : V191 (mo + 34 + 0) = some (.inl (X.2.1 0, 8, .inl (td 0))) := by rw [eV192, hv_un (by omega)]; exact hV181
  have hV219 : V191 (mo + 34 + 1) = some (.inl (X.2.1 0, 8, .inl (td 1))) := by rw [eV192, hv_un (by omega)]; exact hV182
  have hV220 : V191 (mo + 34 + 2) = some (.inl (X.2.1 0, 8, .inl (td 2))) := by rw [eV192, hv_un (by omega)]; exact hV183
  have hV221 : V191 (mo + 34 + 3) = some (.inl (X.2.1 0, 8, .inl (td 3))) := by rw [eV192, hv_un (by omega)]; exact hV184
  have hV222 : V191 (mo + 34 + 4) = some (.inl (X.2.1 0, 8, .inl (td 4))) := by rw [eV192, hv_un (by omega)]; exact hV185
  have hV223 : V191 (mo + 34 + 5) = some (.inl (X.2.1 0, 8, .inl (td 5))) := by rw [eV192, hv_un (by omega)]; exact hV186
  have hV224 : V191 (mo + 34 + 6) = some (.inl (X.2.1 0, 8, .inl (td 6))) := by rw [eV192, hv_un (by omega)]; exact hV187
  have hV225 : V191 mo = some (.inr (7, [.ref (mo + 1), .ref (mo + 2), .ref (mo + 3), .long ab, .long be, .ref (mo + 10), .int (nI σ.2.2.1.1), .int pl, .int cl, .ref (mo + 11), .ref (mo + 12), .ref (mo + 13), .int sg, .ref (mo + 14), .ref (mo + 15), .ref (mo + 16), .ref (mo + 17), .int (nI σ.1.2.1.1), .ref (mo + 18), .ref (mo + 19), .int (nI σ.1.2.2.1.1), .ref (mo + 20), .ref (mo + 21), .ref (mo + 22), .int (nI σ.1.2.2.2.1), .int 1, .ref (mo + 23), .ref (mo + 24), .ref (mo + 25), .ref (mo + 26), .ref (mo + 33), .ref (mo + 41), .ref (mo + 42), .ref (mo + 43)])) := by rw [eV192, hv_un (by omega)]; exact hV188
  have hV226 : V191 (mo + 23) = some (.inl (X.2.1 0, 3, .inl (upd (upd (upd ct 0 (nI σ.1.2.1.1)) 1 (nI σ.1.2.2.1.1)) 2 (nI σ.1.2.2.2.1)))) := by rw [eV192, hv_un (by omega)]; exact hV189
  have hV227 : V191 (mo + 24) = some (.inl (X.2.1 0, 6, .inl (σ.1.1.1))) := by rw [eV192, hv_un (by omega)]; exact hV190
  have hV228 : V191 (mo + 25) = some (.inl (X.2.1 0, 6, .inl (fun j => nI (σ.1.1.2.1 j)))) := by rw [eV192]; exact hv_us
  clear hV155 hV156 hV157 hV158 hV159 hV160 hV161 hV162 hV163 hV164 hV165 hV166 hV167 hV168 hV169 hV170 hV171 hV172 hV173 hV174 hV175 hV176 hV178 hV179 hV180 hV181 hV182 hV183 hV184 hV185 hV186 hV187 hV188 hV189 hV190
  refine lv_iconst (v := 0) C0.1 C0.2.1 dX7_image_65 (by decide) ?_
  refine lv_istore_n (lv' := [(1, .int 0), (0, .ref mo)]) C0.1 C0.2.1 dX7_image_66 rfl hl (by decide) rfl (fun ls hl => ?_)
  refine lv_iload_n C0.1 C0.2.1 dX7_image_67 rfl (lv_at hl 0 rfl) ?_
  refine lv_bipush (v := 6) C0.1 C0.2.1 dX7_image_68 (by decide) ?_
  refine lv_icmp_ge (tgt := 98) C0.1 C0.2.1 dX7_image_70 (by decide) (fun h9 => absurd h9 (by decide)) (fun _ => ?_)
  refine lv_aload_n C0.1 C0.2.1 dX7_image_73 rfl (lv_at hl 1 rfl) ?_
  refine gf_X7_20 C0 w hV225 rfl dX7_image_74 ?_
  refine lv_iload_n C0.1 C0.2.1 dX7_image_77 rfl (lv_at hl 0 rfl) ?_
  refine hv_aalA 6 rfl C0 w rfl hV195 (hn_in (n := 0) (by decide) (by decide)) (by rw [show (0 : Int32).toNatClampNeg = 0 by decide]; exact r4 0 (by decide)) dX7_image_78 ?_
  refine lv_iconst (v := 0) C0.1 C0.2.1 dX7_image_79 (by decide) ?_
  refine lv_aload_n C0.1 C0.2.1 dX7_image_80 rfl (lv_at hl 1 rfl) ?_
  refine gf_X7_72 C0 w hV225 rfl dX7_image_81 ?_
  refine lv_iload_n C0.1 C0.2.1 dX7_image_84 rfl (lv_at hl 0 rfl) ?_
  refine hv_aalA 6 rfl C0 w rfl hV216 (hn_in (n := 0) (by decide) (by decide)) (by rw [show (0 : Int32).toNatClampNeg = 0 by decide]; exact i5 0 (by decide)) dX7_image_85 ?_
  refine lv_iconst (v := 0) C0.1 C0.2.1 dX7_image_86 (by decide) ?_
  refine lv_bipush (v := 16) C0.1 C0.2.1 dX7_image_87 (by decide) ?_
  refine hv_copyi C0 w hl.1 kj_X7_148 hV203 hV204 (by decide) (by decide) (by decide) (by decide) (by decide) (by decide) (Nat.le_of_ble_eq_true rfl) dX7_image_89 (fun Hq lq w => ?_)
  have w := hv_w.as (a := mo + 27 + 0) (n := 16) (f := va_cpy (σ.1.1.2.2 0) (nu 0) 0 0 16) (g := (σ.1.1.2.2 0)) w hv_us (fun i9 hi9 => by simp [va_cpy, hi9])
  rw [hv_uu] at w
  obtain ⟨V229, eV230⟩ : ∃ W9, W9 = hv_up V191 (mo + 27 + 0) (.inl (X.2.1 0, 16, .inl (σ.1.1.2.2 0))) := ⟨_, rfl⟩
  have w : hv_w X s V229 Hq lq := by rw [eV230]; exact w
  have hV231 : V229 (mo + 1) = some (.inl (X.2.1 0, 6, .inl σ.1.1.1)) := by rw [eV230, hv_un (by omega)]; exact hV193
  have hV232 : V229 (mo + 2) = some (.inl (X.2.1 0, 6, .inl (fun j => nI (σ.1.1.2.1 j)))) := by rw [eV230, hv_un (by omega)]; exact hV194
  have hV233 : V229 (mo + 3) = some (.inl (X.2.1 6, 6, .inr (.inr (.inr (.inr rf))))) := by rw [eV230, hv_un (by omega)]; exact hV195
  have hV234 : V229 (mo + 15) = some (.inl (X.2.1 0, 4, .inl sf)) := by rw [eV230, hv_un (by omega)]; exact hV196
  have hV235 : V229 (mo + 16) = some (.inl (X.2.1 0, 4, .inl sg9)) := by rw [eV230, hv_un (by omega)]; exact hV197
  have hV236 : V229 (mo + 17) = some (.inl (X.2.1 0, 4, .inl sh)) := by rw [eV230, hv_un (by omega)]; exact hV198
  have hV237 : V229 (mo + 18) = some (.inl (X.2.1 0, 8, .inl ef)) := by rw [eV230, hv_un (by omega)]; exact hV199
  have hV238 : V229 (mo + 19) = some (.inl (X.2.1 0, 8, .inl eg)) := by rw [eV230, hv_un (by omega)]; exact hV200
  have hV239 : V229 (mo + 21) = some (.inl (X.2.1 0, 8, .inl bf)) := by rw [eV230, hv_un (by omega)]; exact hV201
  have hV240 : V229 (mo + 22) = some (.inl (X.2.1 0, 8, .inl bg)) := by rw [eV230, hv_un (by omega)]; exact hV202
  have hV241 : V229 (mo + 4 + 0) = some (.inl (X.2.1 0, 16, .inl (σ.1.1.2.2 0))) := by rw [eV230, hv_un (by omega)]; exact hV203
  have hV243 : V229 (mo + 4 + 1) = some (.inl (X.2.1 0, 16, .inl (σ.1.1.2.2 1))) := by rw [eV230, hv_un (by omega)]; exact hV205
  have hV244 : V229 (mo + 27 + 1) = some (.inl (X.2.1 0, 16, .inl (nu 1))) := by rw [eV230, hv_un (by omega)]; exact hV206
  have hV245 : V229 (mo + 4 + 2) = some (.inl (X.2.1 0, 16, .inl (σ.1.1.2.2 2))) := by rw [eV230, hv_un (by omega)]; exact hV207
  have hV246 : V229 (mo + 27 + 2) = some (.inl (X.2.1 0, 16, .inl (nu 2))) := by rw [eV230, hv_un (by omega)]; exact hV208
  have hV247 : V229 (mo + 4 + 3) = some (.inl (X.2.1 0, 16, .inl (σ.1.1.2.2 3))) := by rw [eV230, hv_un (by omega)]; exact hV209
  have hV248 : V229 (mo + 27 + 3) = some (.inl (X.2.1 0, 16, .inl (nu 3))) := by rw [eV230, hv_un (by omega)]; exact hV210
  have hV249 : V229 (mo + 4 + 4) = some (.inl (X.2.1 0, 16, .inl (σ.1.1.2.2 4))) := by rw [eV230, hv_un (by omega)]; exact hV211
  have hV250 : V229 (mo + 27 + 4) = some (.inl (X.2.1 0, 16, .inl (nu 4))) := by rw [eV230, hv_un (by omega)]; exact hV212
  have hV251 : V229 (mo + 4 + 5) = some (.inl (X.2.1 0, 16, .inl (σ.1.1.2.2 5))) := by rw [eV230, hv_un (by omega)]; exact hV213
  have hV252 : V229 (mo + 27 + 5) = some (.inl (X.2.1 0, 16, .inl (nu 5))) := by rw [eV230, hv_un (by omega)]; exact hV214
  have hV253 : V229 (mo + 26) = some (.inl (X.2.1 6, 6, .inr (.inr (.inr (.inr nf))))) := by rw [eV230, hv_un (by omega)]; exact hV216
  have hV254 : V229 (mo + 33) = some (.inl (X.2.1 6, 7, .inr (.inr (.inr (.inr tf2))))) := by rw [eV230, hv_un (by omega)]; exact hV217
  have hV255 : V229 (mo + 34 + 0) = some (.inl (X.2.1 0, 8, .inl (td 0))) := by rw [eV230, hv_un (by omega)]; exact hV218
  have hV256 : V229 (mo + 34 + 1) = some (.inl (X.2.1 0, 8, .inl (td 1))) := by rw [eV230, hv_un (by omega)]; exact hV219
  have hV257 : V229 (mo + 34 + 2) = some (.inl (X.2.1 0, 8, .inl (td 2))) := by rw [eV230, hv_un (by omega)]; exact hV220
  have hV258 : V229 (mo + 34 + 3) = some (.inl (X.2.1 0, 8, .inl (td 3))) := by rw [eV230, hv_un (by omega)]; exact hV221
  have hV259 : V229 (mo + 34 + 4) = some (.inl (X.2.1 0, 8, .inl (td 4))) := by rw [eV230, hv_un (by omega)]; exact hV222
  have hV260 : V229 (mo + 34 + 5) = some (.inl (X.2.1 0, 8, .inl (td 5))) := by rw [eV230, hv_un (by omega)]; exact hV223
  have hV261 : V229 (mo + 34 + 6) = some (.inl (X.2.1 0, 8, .inl (td 6))) := by rw [eV230, hv_un (by omega)]; exact hV224
  have hV262 : V229 mo = some (.inr (7, [.ref (mo + 1), .ref (mo + 2), .ref (mo + 3), .long ab, .long be, .ref (mo + 10), .int (nI σ.2.2.1.1), .int pl, .int cl, .ref (mo + 11), .ref (mo + 12), .ref (mo + 13), .int sg, .ref (mo + 14), .ref (mo + 15), .ref (mo + 16), .ref (mo + 17), .int (nI σ.1.2.1.1), .ref (mo + 18), .ref (mo + 19), .int (nI σ.1.2.2.1.1), .ref (mo + 20), .ref (mo + 21), .ref (mo + 22), .int (nI σ.1.2.2.2.1), .int 1, .ref (mo + 23), .ref (mo + 24), .ref (mo + 25), .ref (mo + 26), .ref (mo + 33), .ref (mo + 41), .ref (mo + 42), .ref (mo + 43)])) := by rw [eV230, hv_un (by omega)]; exact hV225
  have hV263 : V229 (mo + 23) = some (.inl (X.2.1 0, 3, .inl (upd (upd (upd ct 0 (nI σ.1.2.1.1)) 1 (nI σ.1.2.2.1.1)) 2 (nI σ.1.2.2.2.1)))) := by rw [eV230, hv_un (by omega)]; exact hV226
  have hV264 : V229 (mo + 24) = some (.inl (X.2.1 0, 6, .inl (σ.1.1.1))) := by rw [eV230, hv_un (by omega)]; exact hV227
  have hV265 : V229 (mo + 25) = some (.inl (X.2.1 0, 6, .inl (fun j => nI (σ.1.1.2.1 j)))) := by rw [eV230, hv_un (by omega)]; exact hV228
  have hV266 : V229 (mo + 27 + 0) = some (.inl (X.2.1 0, 16, .inl (σ.1.1.2.2 0))) := by rw [eV230]; exact hv_us
  clear hV193 hV194 hV195 hV196 hV197 hV198 hV199 hV200 hV201 hV202 hV203 hV204 hV205 hV206 hV207 hV208 hV209 hV210 hV211 hV212 hV213 hV214 hV216 hV217 hV218 hV219 hV220 hV221 hV222 hV223 hV224 hV225 hV226 hV227 hV228
  refine lv_iinc (v := 0 + 1) (lv' := [(1, .int (0 + 1)), (0, .ref mo)]) C0.1 C0.2.1 dX7_image_92 hl (k := 0) rfl rfl (by decide) rfl (fun ls hl => ?_)
  have hl : lv_has ls 2 [(1, .int 1), (0, .ref mo)] := by rw [show (1 : Int32) = 0 + 1 from by decide]; exact hl
  refine lv_goto (tgt := 67) C0.1 C0.2.1 dX7_image_95 (by decide) ?_
  refine lv_iload_n C0.1 C0.2.1 dX7_image_67 rfl (lv_at hl 0 rfl) ?_
  refine lv_bipush (v := 6) C0.1 C0.2.1 dX7_image_68 (by decide) ?_
  refine lv_icmp_ge (tgt := 98) C0.1 C0.2.1 dX7_image_70 (by decide) (fun h9 => absurd h9 (by decide)) (fun _ => ?_)
  refine lv_aload_n C0.1 C0.2.1 dX7_image_73 rfl (lv_at hl 1 rfl) ?_
  refine gf_X7_20 C0 w hV262 rfl dX7_image_74 ?_
  refine lv_iload_n C0.1 C0.2.1 dX7_image_77 rfl (lv_at hl 0 rfl) ?_
  refine hv_aalA 6 rfl C0 w rfl hV233 (hn_in (n := 1) (by decide) (by decide)) (by rw [show (1 : Int32).toNatClampNeg = 1 by decide]; exact r4 1 (by decide)) dX7_image_78 ?_
  refine lv_iconst (v := 0) C0.1 C0.2.1 dX7_image_79 (by decide) ?_
  refine lv_aload_n C0.1 C0.2.1 dX7_image_80 rfl (lv_at hl 1 rfl) ?_
  refine gf_X7_72 C0 w hV262 rfl dX7_image_81 ?_
  refine lv_iload_n C0.1 C0.2.1 dX7_image_84 rfl (lv_at hl 0 rfl) ?_
  refine hv_aalA 6 rfl C0 w rfl hV253 (hn_in (n := 1) (by decide) (by decide)) (by rw [show (1 : Int32).toNatClampNeg = 1 by decide]; exact i5 1 (by decide)) dX7_image_85 ?_
  refine lv_iconst (v := 0) C0.1 C0.2.1 dX7_image_86 (by decide) ?_
  refine lv_bipush (v := 16) C0.1 C0.2.1 dX7_image_87 (by decide) ?_
  refine hv_copyi C0 w hl.1 kj_X7_148 hV243 hV244 (by decide) (by decide) (by decide) (by decide) (by decide) (by decide) (Nat.le_of_ble_eq_true rfl) dX7_image_89 (fun Hq lq w => ?_)
  have w := hv_w.as (a := mo + 27 + 1) (n := 16) (f := va_cpy (σ.1.1.2.2 1) (nu 1) 0 0 16) (g := (σ.1.1.2.2 1)) w hv_us (fun i9 hi9 => by simp [va_cpy, hi9])
  rw [hv_uu] at w
  obtain ⟨V267, eV268⟩ : ∃ W9, W9 = hv_up V229 (mo + 27 + 1) (.inl (X.2.1 0, 16, .inl (σ.1.1.2.2 1))) := ⟨_, rfl⟩
  have w : hv_w X s V267 Hq lq := by rw [eV268]; exact w
  have hV269 : V267 (mo + 1) = some (.inl (X.2.1 0, 6, .inl σ.1.1.1)) := by rw [eV268, hv_un (by omega)]; exact hV231
  have hV270 : V267 (mo + 2) = some (.inl (X.2.1 0, 6, .inl (fun j => nI (σ.1.1.2.1 j)))) := by rw [eV268, hv_un (by omega)]; exact hV232
  have hV271 : V267 (mo + 3) = some (.inl (X.2.1 6, 6, .inr (.inr (.inr (.inr rf))))) := by rw [eV268, hv_un (by omega)]; exact hV233
  have hV272 : V267 (mo + 15) = some (.inl (X.2.1 0, 4, .inl sf)) := by rw [eV268, hv_un (by omega)]; exact hV234
  have hV273 : V267 (mo + 16) = some (.inl (X.2.1 0, 4, .inl sg9)) := by rw [eV268, hv_un (by omega)]; exact hV235
  have hV274 : V267 (mo + 17) = some (.inl (X.2.1 0, 4, .inl sh)) := by rw [eV268, hv_un (by omega)]; exact hV236
  have hV275 : V267 (mo + 18) = some (.inl (X.2.1 0, 8, .inl ef)) := by rw [eV268, hv_un (by omega)]; exact hV237
  have hV276 : V267 (mo + 19) = some (.inl (X.2.1 0, 8, .inl eg)) := by rw [eV268, hv_un (by omega)]; exact hV238
  have hV277 : V267 (mo + 21) = some (.inl (X.2.1 0, 8, .inl bf)) := by rw [eV268, hv_un (by omega)]; exact hV239
  have hV278 : V267 (mo + 22) = some (.inl (X.2.1 0, 8, .inl bg)) := by rw [eV268, hv_un (by omega)]; exact hV240
  have hV279 : V267 (mo + 4 + 0) = some (.inl (X.2.1 0, 16, .inl (σ.1.1.2.2 0))) := by rw [eV268, hv_un (by omega)]; exact hV241
  have hV280 : V267 (mo + 4 + 1) = some (.inl (X.2.1 0, 16, .inl (σ.1.1.2.2 1))) := by rw [eV268, hv_un (by omega)]; exact hV243
  have hV282 : V267 (mo + 4 + 2) = some (.inl (X.2.1 0, 16, .inl (σ.1.1.2.2 2))) := by rw [eV268, hv_un (by omega)]; exact hV245
  have hV283 : V267 (mo + 27 + 2) = some (.inl (X.2.1 0, 16, .inl (nu 2))) := by rw [eV268, hv_un (by omega)]; exact hV246
  have hV284 : V267 (mo + 4 + 3) = some (.inl (X.2.1 0, 16, .inl (σ.1.1.2.2 3))) := by rw [eV268, hv_un (by omega)]; exact hV247
  have hV285 : V267 (mo + 27 + 3) = some (.inl (X.2.1 0, 16, .inl (nu 3))) := by rw [eV268, hv_un (by omega)]; exact hV248
  have hV286 : V267 (mo + 4 + 4) = some (.inl (X.2.1 0, 16, .inl (σ.1.1.2.2 4))) := by rw [eV268, hv_un (by omega)]; exact hV249
  have hV287 : V267 (mo + 27 + 4) = some (.inl (X.2.1 0, 16, .inl (nu 4))) := by rw [eV268, hv_un (by omega)]; exact hV250
  have hV288 : V267 (mo + 4 + 5) = some (.inl (X.2.1 0, 16, .inl (σ.1.1.2.2 5))) := by rw [eV268, hv_un (by omega)]; exact hV251
  have hV289 : V267 (mo + 27 + 5) = some (.inl (X.2.1 0, 16, .inl (nu 5))) := by rw [eV268, hv_un (by omega)]; exact hV252
  have hV290 : V267 (mo + 26) = some (.inl (X.2.1 6, 6, .inr (.inr (.inr (.inr nf))))) := by rw [eV268, hv_un (by omega)]; exact hV253
  have hV291 : V267 (mo + 33) = some (.inl (X.2.1 6, 7, .inr (.inr (.inr (.inr tf2))))) := by rw [eV268, hv_un (by omega)]; exact hV254
  have hV292 : V267 (mo + 34 + 0) = some (.inl (X.2.1 0, 8, .inl (td 0))) := by rw [eV268, hv_un (by omega)]; exact hV255
  have hV293 : V267 (mo + 34 + 1) = some (.inl (X.2.1 0, 8, .inl (td 1))) := by rw [eV268, hv_un (by omega)]; exact hV256
  have hV294 : V267 (mo + 34 + 2) = some (.inl (X.2.1 0, 8, .inl (td 2))) := by rw [eV268, hv_un (by omega)]; exact hV257
  have hV295 : V267 (mo + 34 + 3) = some (.inl (X.2.1 0, 8, .inl (td 3))) := by rw [eV268, hv_un (by omega)]; exact hV258
  have hV296 : V267 (mo + 34 + 4) = some (.inl (X.2.1 0, 8, .inl (td 4))) := by rw [eV268, hv_un (by omega)]; exact hV259
  have hV297 : V267 (mo + 34 + 5) = some (.inl (X.2.1 0, 8, .inl (td 5))) := by rw [eV268, hv_un (by omega)]; exact hV260
  have hV298 : V267 (mo + 34 + 6) = some (.inl (X.2.1 0, 8, .inl (td 6))) := by rw [eV268, hv_un (by omega)]; exact hV261
  have hV299 : V267 mo = some (.inr (7, [.ref (mo + 1), .ref (mo + 2), .ref (mo + 3), .long ab, .long be, .ref (mo + 10), .int (nI σ.2.2.1.1), .int pl, .int cl, .ref (mo + 11), .ref (mo + 12), .ref (mo + 13), .int sg, .ref (mo + 14), .ref (mo + 15), .ref (mo + 16), .ref (mo + 17), .int (nI σ.1.2.1.1), .ref (mo + 18), .ref (mo + 19), .int (nI σ.1.2.2.1.1), .ref (mo + 20), .ref (mo + 21), .ref (mo + 22), .int (nI σ.1.2.2.2.1), .int 1, .ref (mo + 23), .ref (mo + 24), .ref (mo + 25), .ref (mo + 26), .ref (mo + 33), .ref (mo + 41), .ref (mo + 42), .ref (mo + 43)])) := by rw [eV268, hv_un (by omega)]; exact hV262
  have hV300 : V267 (mo + 23) = some (.inl (X.2.1 0, 3, .inl (upd (upd (upd ct 0 (nI σ.1.2.1.1)) 1 (nI σ.1.2.2.1.1)) 2 (nI σ.1.2.2.2.1)))) := by rw [eV268, hv_un (by omega)]; exact hV263
  have hV301 : V267 (mo + 24) = some (.inl (X.2.1 0, 6, .inl (σ.1.1.1))) := by rw [eV268, hv_un (by omega)]; exact hV264
  have hV302 : V267 (mo + 25) = some (.inl (X.2.1 0, 6, .inl (fun j => nI (σ.1.1.2.1 j)))) := by rw [eV268, hv_un (by omega)]; exact hV265
  have hV303 : V267 (mo + 27 + 0) = some (.inl (X.2.1 0, 16, .inl (σ.1.1.2.2 0))) := by rw [eV268, hv_un (by omega)]; exact hV266
  have hV304 : V267 (mo + 27 + 1) = some (.inl (X.2.1 0, 16, .inl (σ.1.1.2.2 1))) := by rw [eV268]; exact hv_us
  clear hV231 hV232 hV233 hV234 hV235 hV236 hV237 hV238 hV239 hV240 hV241 hV243 hV244 hV245 hV246 hV247 hV248 hV249 hV250 hV251 hV252 hV253 hV254 hV255 hV256 hV257 hV258 hV259 hV260 hV261 hV262 hV263 hV264 hV265 hV266
  refine lv_iinc (v := 1 + 1) (lv' := [(1, .int (1 + 1)), (0, .ref mo)]) C0.1 C0.2.1 dX7_image_92 hl (k := 0) rfl rfl (by decide) rfl (fun ls hl => ?_)
  have hl : lv_has ls 2 [(1, .int 2), (0, .ref mo)] := by rw [show (2 : Int32) = 1 + 1 from by decide]; exact hl
  refine lv_goto (tgt := 67) C0.1 C0.2.1 dX7_image_95 (by decide) ?_
  refine lv_iload_n C0.1 C0.2.1 dX7_image_67 rfl (lv_at hl 0 rfl) ?_
  refine lv_bipush (v := 6) C0.1 C0.2.1 dX7_image_68 (by decide) ?_
  refine lv_icmp_ge (tgt := 98) C0.1 C0.2.1 dX7_image_70 (by decide) (fun h9 => absurd h9 (by decide)) (fun _ => ?_)
  refine lv_aload_n C0.1 C0.2.1 dX7_image_73 rfl (lv_at hl 1 rfl) ?_
  refine gf_X7_20 C0 w hV299 rfl dX7_image_74 ?_
  refine lv_iload_n C0.1 C0.2.1 dX7_image_77 rfl (lv_at hl 0 rfl) ?_
  refine hv_aalA 6 rfl C0 w rfl hV271 (hn_in (n := 2) (by decide) (by decide)) (by rw [show (2 : Int32).toNatClampNeg = 2 by decide]; exact r4 2 (by decide)) dX7_image_78 ?_
  refine lv_iconst (v := 0) C0.1 C0.2.1 dX7_image_79 (by decide) ?_
  refine lv_aload_n C0.1 C0.2.1 dX7_image_80 rfl (lv_at hl 1 rfl) ?_
  refine gf_X7_72 C0 w hV299 rfl dX7_image_81 ?_
  refine lv_iload_n C0.1 C0.2.1 dX7_image_84 rfl (lv_at hl 0 rfl) ?_
  refine hv_aalA 6 rfl C0 w rfl hV290 (hn_in (n := 2) (by decide) (by decide)) (by rw [show (2 : Int32).toNatClampNeg = 2 by decide]; exact i5 2 (by decide)) dX7_image_85 ?_
  refine lv_iconst (v := 0) C0.1 C0.2.1 dX7_image_86 (by decide) ?_
  refine lv_bipush (v := 16) C0.1 C0.2.1 dX7_image_87 (by decide) ?_
  refine hv_copyi C0 w hl.1 kj_X7_148 hV282 hV283 (by decide) (by decide) (by decide) (by decide) (by decide) (by decide) (Nat.le_of_ble_eq_true rfl) dX7_image_89 (fun Hq lq w => ?_)
  have w := hv_w.as (a := mo + 27 + 2) (n := 16) (f := va_cpy (σ.1.1.2.2 2) (nu 2) 0 0 16) (g := (σ.1.1.2.2 2)) w hv_us (fun i9 hi9 => by simp [va_cpy, hi9])
  rw [hv_uu] at w
  obtain ⟨V305, eV306⟩ : ∃ W9, W9 = hv_up V267 (mo + 27 + 2) (.inl (X.2.1 0, 16, .inl (σ.1.1.2.2 2))) := ⟨_, rfl⟩
  have w : hv_w X s V305 Hq lq := by rw [eV306]; exact w
  have hV307 : V305 (mo + 1) = some (.inl (X.2.1 0, 6, .inl σ.1.1.1)) := by rw [eV306, hv_un (by omega)]; exact hV269
  have hV308 : V305 (mo + 2) = some (.inl (X.2.1 0, 6, .inl (fun j => nI (σ.1.1.2.1 j)))) := by rw [eV306, hv_un (by omega)]; exact hV270
  have hV309 : V305 (mo + 3) = some (.inl (X.2.1 6, 6, .inr (.inr (.inr (.inr rf))))) := by rw [eV306, hv_un (by omega)]; exact hV271
  have hV310 : V305 (mo + 15) = some (.inl (X.2.1 0, 4, .inl sf)) := by rw [eV306, hv_un (by omega)]; exact hV272
  have hV311 : V305 (mo + 16) = some (.inl (X.2.1 0, 4, .inl sg9)) := by rw [eV306, hv_un (by omega)]; exact hV273
  have hV312 : V305 (mo + 17) = some (.inl (X.2.1 0, 4, .inl sh)) := by rw [eV306, hv_un (by omega)]; exact hV274
  have hV313 : V305 (mo + 18) = some (.inl (X.2.1 0, 8, .inl ef)) := by rw [eV306, hv_un (by omega)]; exact hV275
  have hV314 : V305 (mo + 19) = some (.inl (X.2.1 0, 8, .inl eg)) := by rw [eV306, hv_un (by omega)]; exact hV276
  have hV315 : V305 (mo + 21) = some (.inl (X.2.1 0, 8, .inl bf)) := by rw [eV306, hv_un (by omega)]; exact hV277
  have hV316 : V305 (mo + 22) = some (.inl (X.2.1 0, 8, .inl bg)) := by rw [eV306, hv_un (by omega)]; exact hV278
  have hV317 : V305 (mo + 4 + 0) = some (.inl (X.2.1 0, 16, .inl (σ.1.1.2.2 0))) := by rw [eV306, hv_un (by omega)]; exact hV279
  have hV318 : V305 (mo + 4 + 1) = some (.inl (X.2.1 0, 16, .inl (σ.1.1.2.2 1))) := by rw [eV306, hv_un (by omega)]; exact hV280
  have hV319 : V305 (mo + 4 + 2) = some (.inl (X.2.1 0, 16, .inl (σ.1.1.2.2 2))) := by rw [eV306, hv_un (by omega)]; exact hV282
  have hV321 : V305 (mo + 4 + 3) = some (.inl (X.2.1 0, 16, .inl (σ.1.1.2.2 3))) := by rw [eV306, hv_un (by omega)]; exact hV284
  have hV322 : V305 (mo + 27 + 3) = some (.inl (X.2.1 0, 16, .inl (nu 3))) := by rw [eV306, hv_un (by omega)]; exact hV285
  have hV323 : V305 (mo + 4 + 4) = some (.inl (X.2.1 0, 16, .inl (σ.1.1.2.2 4))) := by rw [eV306, hv_un (by omega)]; exact hV286
  have hV324 : V305 (mo + 27 + 4) = some (.inl (X.2.1 0, 16, .inl (nu 4))) := by rw [eV306, hv_un (by omega)]; exact hV287
  have hV325 : V305 (mo + 4 + 5) = some (.inl (X.2.1 0, 16, .inl (σ.1.1.2.2 5))) := by rw [eV306, hv_un (by omega)]; exact hV288
  have hV326 : V305 (mo + 27 + 5) = some (.inl (X.2.1 0, 16, .inl (nu 5))) := by rw [eV306, hv_un (by omega)]; exact hV289
  have hV327 : V305 (mo + 26) = some (.inl (X.2.1 6, 6, .inr (.inr (.inr (.inr nf))))) := by rw [eV306, hv_un (by omega)]; exact hV290
  have hV328 : V305 (mo + 33) = some (.inl (X.2.1 6, 7, .inr (.inr (.inr (.inr tf2))))) := by rw [eV306, hv_un (by omega)]; exact hV291
  have hV329 : V305 (mo + 34 + 0) = some (.inl (X.2.1 0, 8, .inl (td 0))) := by rw [eV306, hv_un (by omega)]; exact hV292
  have hV330 : V305 (mo + 34 + 1) = some (.inl (X.2.1 0, 8, .inl (td 1))) := by rw [eV306, hv_un (by omega)]; exact hV293
  have hV331 : V305 (mo + 34 + 2) = some (.inl (X.2.1 0, 8, .inl (td 2))) := by rw [eV306, hv_un (by omega)]; exact hV294
  have hV332 : V305 (mo + 34 + 3) = some (.inl (X.2.1 0, 8, .inl (td 3))) := by rw [eV306, hv_un (by omega)]; exact hV295
  have hV333 : V305 (mo + 34 + 4) = some (.inl (X.2.1 0, 8, .inl (td 4))) := by rw [eV306, hv_un (by omega)]; exact hV296
  have hV334 : V305 (mo + 34 + 5) = some (.inl (X.2.1 0, 8, .inl (td 5))) := by rw [eV306, hv_un (by omega)]; exact hV297
  have hV335 : V305 (mo + 34 + 6) = some (.inl (X.2.1 0, 8, .inl (td 6))) := by rw [eV306, hv_un (by omega)]; exact hV298
  have hV336 : V305 mo = some (.inr (7, [.ref (mo + 1), .ref (mo + 2), .ref (mo + 3), .long ab, .long be, .ref (mo + 10), .int (nI σ.2.2.1.1), .int pl, .int cl, .ref (mo + 11), .ref (mo + 12), .ref (mo + 13), .int sg, .ref (mo + 14), .ref (mo + 15), .ref (mo + 16), .ref (mo + 17), .int (nI σ.1.2.1.1), .ref (mo + 18), .ref (mo + 19), .int (nI σ.1.2.2.1.1), .ref (mo + 20), .ref (mo + 21), .ref (mo + 22), .int (nI σ.1.2.2.2.1), .int 1, .ref (mo + 23), .ref (mo + 24), .ref (mo + 25), .ref (mo + 26), .ref (mo + 33), .ref (mo + 41), .ref (mo + 42), .ref (mo + 43)])) := by rw [eV306, hv_un (by omega)]; exact hV299
  have hV337 : V305 (mo + 23) = some (.inl (X.2.1 0, 3, .inl (upd (upd (upd ct 0 (nI σ.1.2.1.1)) 1 (nI σ.1.2.2.1.1)) 2 (nI σ.1.2.2.2.1)))) := by rw [eV306, hv_un (by omega)]; exact hV300
  have hV338 : V305 (mo + 24) = some (.inl (X.2.1 0, 6, .inl (σ.1.1.1))) := by rw [eV306, hv_un (by omega)]; exact hV301
  have hV339 : V305 (mo + 25) = some (.inl (X.2.1 0, 6, .inl (fun j => nI (σ.1.1.2.1 j)))) := by rw [eV306, hv_un (by omega)]; exact hV302
  have hV340 : V305 (mo + 27 + 0) = some (.inl (X.2.1 0, 16, .inl (σ.1.1.2.2 0))) := by rw [eV306, hv_un (by omega)]; exact hV303
  have hV341 : V305 (mo + 27 + 1) = some (.inl (X.2.1 0, 16, .inl (σ.1.1.2.2 1))) := by rw [eV306, hv_un (by omega)]; exact hV304
  have hV342 : V305 (mo + 27 + 2) = some (.inl (X.2.1 0, 16, .inl (σ.1.1.2.2 2))) := by rw [eV306]; exact hv_us
  clear hV269 hV270 hV271 hV272 hV273 hV274 hV275 hV276 hV277 hV278 hV279 hV280 hV282 hV283 hV284 hV285 hV286 hV287 hV288 hV289 hV290 hV291 hV292 hV293 hV294 hV295 hV296 hV297 hV298 hV299 hV300 hV301 hV302 hV303 hV304
  refine lv_iinc (v := 2 + 1) (lv' := [(1, .int (2 + 1)), (0, .ref mo)]) C0.1 C0.2.1 dX7_image_92 hl (k := 0) rfl rfl (by decide) rfl (fun ls hl => ?_)
  have hl : lv_has ls 2 [(1, .int 3), (0, .ref mo)] := by rw [show (3 : Int32) = 2 + 1 from by decide]; exact hl
  refine lv_goto (tgt := 67) C0.1 C0.2.1 dX7_image_95 (by decide) ?_
  refine lv_iload_n C0.1 C0.2.1 dX7_image_67 rfl (lv_at hl 0 rfl) ?_
  refine lv_bipush (v := 6) C0.1 C0.2.1 dX7_image_68 (by decide) ?_
  refine lv_icmp_ge (tgt := 98) C0.1 C0.2.1 dX7_image_70 (by decide) (fun h9 => absurd h9 (by decide)) (fun _ => ?_)
  refine lv_aload_n C0.1 C0.2.1 dX7_image_73 rfl (lv_at hl 1 rfl) ?_
  refine gf_X7_20 C0 w hV336 rfl dX7_image_74 ?_
  refine lv_iload_n C0.1 C0.2.1 dX7_image_77 rfl (lv_at hl 0 rfl) ?_
  refine hv_aalA 6 rfl C0 w rfl hV309 (hn_in (n := 3) (by decide) (by decide)) (by rw [show (3 : Int32).toNatClampNeg = 3 by decide]; exact r4 3 (by decide)) dX7_image_78 ?_
  refine lv_iconst (v := 0) C0.1 C0.2.1 dX7_image_79 (by decide) ?_
  refine lv_aload_n C0.1 C0.2.1 dX7_image_80 rfl (lv_at hl 1 rfl) ?_
  refine gf_X7_72 C0 w hV336 rfl dX7_image_81 ?_
  refine lv_iload_n C0.1 C0.2.1 dX7_image_84 rfl (lv_at hl 0 rfl) ?_
  refine hv_aalA 6 rfl C0 w rfl hV327 (hn_in (n := 3) (by decide) (by decide)) (by rw [show (3 : Int32).toNatClampNeg = 3 by decide]; exact i5 3 (by decide)) dX7_image_85 ?_
  refine lv_iconst (v := 0) C0.1 C0.2.1 dX7_image_86 (by decide) ?_
  refine lv_bipush (v := 16) C0.1 C0.2.1 dX7_image_87 (by decide) ?_
  refine hv_copyi C0 w hl.1 kj_X7_148 hV321 hV322 (by decide) (by decide) (by decide) (by decide) (by decide) (by decide) (Nat.le_of_ble_eq_true rfl) dX7_image_89 (fun Hq lq w => ?_)
  have w := hv_w.as (a := mo + 27 + 3) (n := 16) (f := va_cpy (σ.1.1.2.2 3) (nu 3) 0 0 16) (g := (σ.1.1.2.2 3)) w hv_us (fun i9 hi9 => by simp [va_cpy, hi9])
  rw [hv_uu] at w
  obtain ⟨V343, eV344⟩ : ∃ W9, W9 = hv_up V305 (mo + 27 + 3) (.inl (X.2.1 0, 16, .inl (σ.1.1.2.2 3))) := ⟨_, rfl⟩
  have w : hv_w X s V343 Hq lq := by rw [eV344]; exact w
  have hV345 : V343 (mo + 1) = some (.inl (X.2.1 0, 6, .inl σ.1.1.1)) := by rw [eV344, hv_un (by omega)]; exact hV307
  have hV346 : V343 (mo + 2) = some (.inl (X.2.1 0, 6, .inl (fun j => nI (σ.1.1.2.1 j)))) := by rw [eV344, hv_un (by omega)]; exact hV308
  have hV347 : V343 (mo + 3) = some (.inl (X.2.1 6, 6, .inr (.inr (.inr (.inr rf))))) := by rw [eV344, hv_un (by omega)]; exact hV309
  have hV348 : V343 (mo + 15) = some (.inl (X.2.1 0, 4, .inl sf)) := by rw [eV344, hv_un (by omega)]; exact hV310
  have hV349 : V343 (mo + 16) = some (.inl (X.2.1 0, 4, .inl sg9)) := by rw [eV344, hv_un (by omega)]; exact hV311
  have hV350 : V343 (mo + 17) = some (.inl (X.2.1 0, 4, .inl sh)) := by rw [eV344, hv_un (by omega)]; exact hV312
  have hV351 : V343 (mo + 18) = some (.inl (X.2.1 0, 8, .inl ef)) := by rw [eV344, hv_un (by omega)]; exact hV313
  have hV352 : V343 (mo + 19) = some (.inl (X.2.1 0, 8, .inl eg)) := by rw [eV344, hv_un (by omega)]; exact hV314
  have hV353 : V343 (mo + 21) = some (.inl (X.2.1 0, 8, .inl bf)) := by rw [eV344, hv_un (by omega)]; exact hV315
  have hV354 : V343 (mo + 22) = some (.inl (X.2.1 0, 8, .inl bg)) := by rw [eV344, hv_un (by omega)]; exact hV316
  have hV355 : V343 (mo + 4 + 0) = some (.inl (X.2.1 0, 16, .inl (σ.1.1.2.2 0))) := by rw [eV344, hv_un (by omega)]; exact hV317
  have hV356 : V343 (mo + 4 + 1) = some (.inl (X.2.1 0, 16, .inl (σ.1.1.2.2 1))) := by rw [eV344, hv_un (by omega)]; exact hV318
  have hV357 : V343 (mo + 4 + 2) = some (.inl (X.2.1 0, 16, .inl (σ.1.1.2.2 2))) := by rw [eV344, hv_un (by omega)]; exact hV319
  have hV358 : V343 (mo + 4 + 3) = some (.inl (X.2.1 0, 16, .inl (σ.1.1.2.2 3))) := by rw [eV344, hv_un (by omega)]; exact hV321
  have hV360 : V343 (mo + 4 + 4) = some (.inl (X.2.1 0, 16, .inl (σ.1.1.2.2 4))) := by rw [eV344, hv_un (by omega)]; exact hV323
  have hV361 : V343 (mo + 27 + 4) = some (.inl (X.2.1 0, 16, .inl (nu 4))) := by rw [eV344, hv_un (by omega)]; exact hV324
  have hV362 : V343 (mo + 4 + 5) = some (.inl (X.2.1 0, 16, .inl (σ.1.1.2.2 5))) := by rw [eV344, hv_un (by omega)]; exact hV325
  have hV363 : V343 (mo + 27 + 5) = some (.inl (X.2.1 0, 16, .inl (nu 5))) := by rw [eV344, hv_un (by omega)]; exact hV326
  have hV364 : V343 (mo + 26) = some (.inl (X.2.1 6, 6, .inr (.inr (.inr (.inr nf))))) := by rw [eV344, hv_un (by omega)]; exact hV327
  have hV365 : V343 (mo + 33) = some (.inl (X.2.1 6, 7, .inr (.inr (.inr (.inr tf2))))) := by rw [eV344, hv_un (by omega)]; exact hV328
  have hV366 : V343 (mo + 34 + 0) = some (.inl (X.2.1 0, 8, .inl (td 0))) := by rw [eV344, hv_un (by omega)]; exact hV329
  have hV367 : V343 (mo + 34 + 1) = some (.inl (X.2.1 0, 8, .inl (td 1))) := by rw [eV344, hv_un (by omega)]; exact hV330
  have hV368 : V343 (mo + 34 + 2) = some (.inl (X.2.1 0, 8, .inl (td 2))) := by rw [eV344, hv_un (by omega)]; exact hV331
  have hV369 : V343 (mo + 34 + 3) = some (.inl (X.2.1 0, 8, .inl (td 3))) := by rw [eV344, hv_un (by omega)]; exact hV332
  have hV370 : V343 (mo + 34 + 4) = some (.inl (X.2.1 0, 8, .inl (td 4))) := by rw [eV344, hv_un (by omega)]; exact hV333
  have hV371 : V343 (mo + 34 + 5) = some (.inl (X.2.1 0, 8, .inl (td 5))) := by rw [eV344, hv_un (by omega)]; exact hV334
  have hV372 : V343 (mo + 34 + 6) = some (.inl (X.2.1 0, 8, .inl (td 6))) := by rw [eV344, hv_un (by omega)]; exact hV335
  have hV373 : V343 mo = some (.inr (7, [.ref (mo + 1), .ref (mo + 2), .ref (mo + 3), .long ab, .long be, .ref (mo + 10), .int (nI σ.2.2.1.1), .int pl, .int cl, .ref (mo + 11), .ref (mo + 12), .ref (mo + 13), .int sg, .ref (mo + 14), .ref (mo + 15), .ref (mo + 16), .ref (mo + 17), .int (nI σ.1.2.1.1), .ref (mo + 18), .ref (mo + 19), .int (nI σ.1.2.2.1.1), .ref (mo + 20), .ref (mo + 21), .ref (mo + 22), .int (nI σ.1.2.2.2.1), .int 1, .ref (mo + 23), .ref (mo + 24), .ref (mo + 25), .ref (mo + 26), .ref (mo + 33), .ref (mo + 41), .ref (mo + 42), .ref (mo + 43)])) := by rw [eV344, hv_un (by omega)]; exact hV336
  have hV374 : V343 (mo + 23) = some (.inl (X.2.1 0, 3, .inl (upd (upd (upd ct 0 (nI σ.1.2.1.1)) 1 (nI σ.1.2.2.1.1)) 2 (nI σ.1.2.2.2.1)))) := by rw [eV344, hv_un (by omega)]; exact hV337
  have hV375 : V343 (mo + 24) = some (.inl (X.2.1 0, 6, .inl (σ.1.1.1))) := by rw [eV344, hv_un (by omega)]; exact hV338
  have hV376 : V343 (mo + 25) = some (.inl (X.2.1 0, 6, .inl (fun j => nI (σ.1.1.2.1 j)))) := by rw [eV344, hv_un (by omega)]; exact hV339
  have hV377 : V343 (mo + 27 + 0) = some (.inl (X.2.1 0, 16, .inl (σ.1.1.2.2 0))) := by rw [eV344, hv_un (by omega)]; exact hV340
  have hV378 : V343 (mo + 27 + 1) = some (.inl (X.2.1 0, 16, .inl (σ.1.1.2.2 1))) := by rw [eV344, hv_un (by omega)]; exact hV341
  have hV379 : V343 (mo + 27 + 2) = some (.inl (X.2.1 0, 16, .inl (σ.1.1.2.2 2))) := by rw [eV344, hv_un (by omega)]; exact hV342
  have hV380 : V343 (mo + 27 + 3) = some (.inl (X.2.1 0, 16, .inl (σ.1.1.2.2 3))) := by rw [eV344]; exact hv_us
  clear hV307 hV308 hV309 hV310 hV311 hV312 hV313 hV314 hV315 hV316 hV317 hV318 hV319 hV321 hV322 hV323 hV324 hV325 hV326 hV327 hV328 hV329 hV330 hV331 hV332 hV333 hV334 hV335 hV336 hV337 hV338 hV339 hV340 hV341 hV342
  refine lv_iinc (v := 3 + 1) (lv' := [(1, .int (3 + 1)), (0, .ref mo)]) C0.1 C0.2.1 dX7_image_92 hl (k := 0) rfl rfl (by decide) rfl (fun ls hl => ?_)
  have hl : lv_has ls 2 [(1, .int 4), (0, .ref mo)] := by rw [show (4 : Int32) = 3 + 1 from by decide]; exact hl
  refine lv_goto (tgt := 67) C0.1 C0.2.1 dX7_image_95 (by decide) ?_
  refine lv_iload_n C0.1 C0.2.1 dX7_image_67 rfl (lv_at hl 0 rfl) ?_
  refine lv_bipush (v := 6) C0.1 C0.2.1 dX7_image_68 (by decide) ?_
  refine lv_icmp_ge (tgt := 98) C0.1 C0.2.1 dX7_image_70 (by decide) (fun h9 => absurd h9 (by decide)) (fun _ => ?_)
  refine lv_aload_n C0.1 C0.2.1 dX7_image_73 rfl (lv_at hl 1 rfl) ?_
  refine gf_X7_20 C0 w hV373 rfl dX7_image_74 ?_
  refine lv_iload_n C0.1 C0.2.1 dX7_image_77 rfl (lv_at hl 0 rfl) ?_
  refine hv_aalA 6 rfl C0 w rfl hV347 (hn_in (n := 4) (by decide) (by decide)) (by rw [show (4 : Int32).toNatClampNeg = 4 by decide]; exact r4 4 (by decide)) dX7_image_78 ?_
  refine lv_iconst (v := 0) C0.1 C0.2.1 dX7_image_79 (by decide) ?_
  refine lv_aload_n C0.1 C0.2.1 dX7_image_80 rfl (lv_at hl 1 rfl) ?_
  refine gf_X7_72 C0 w hV373 rfl dX7_image_81 ?_
  refine lv_iload_n C0.1 C0.2.1 dX7_image_84 rfl (lv_at hl 0 rfl) ?_
  refine hv_aalA 6 rfl C0 w rfl hV364 (hn_in (n := 4) (by decide) (by decide)) (by rw [show (4 : Int32).toNatClampNeg = 4 by decide]; exact i5 4 (by decide)) dX7_image_85 ?_
  refine lv_iconst (v := 0) C0.1 C0.2.1 dX7_image_86 (by decide) ?_
  refine lv_bipush (v := 16) C0.1 C0.2.1 dX7_image_87 (by decide) ?_
  refine hv_copyi C0 w hl.1 kj_X7_148 hV360 hV361 (by decide) (by decide) (by decide) (by decide) (by decide) (by decide) (Nat.le_of_ble_eq_true rfl) dX7_image_89 (fun Hq lq w => ?_)
  have w := hv_w.as (a := mo + 27 + 4) (n := 16) (f := va_cpy (σ.1.1.2.2 4) (nu 4) 0 0 16) (g := (σ.1.1.2.2 4)) w hv_us (fun i9 hi9 => by simp [va_cpy, hi9])
  rw [hv_uu] at w
  obtain ⟨V381, eV382⟩ : ∃ W9, W9 = hv_up V343 (mo + 27 + 4) (.inl (X.2.1 0, 16, .inl (σ.1.1.2.2 4))) := ⟨_, rfl⟩
  have w : hv_w X s V381 Hq lq := by rw [eV382]; exact w
  have hV383 : V381 (mo + 1) = some (.inl (X.2.1 0, 6, .inl σ.1.1.1)) := by rw [eV382, hv_un (by omega)]; exact hV345
  have hV384 : V381 (mo + 2) = some (.inl (X.2.1 0, 6, .inl (fun j => nI (σ.1.1.2.1 j)))) := by rw [eV382, hv_un (by omega)]; exact hV346
  have hV385 : V381 (mo + 3) = some (.inl (X.2.1 6, 6, .inr (.inr (.inr (.inr rf))))) := by rw [eV382, hv_un (by omega)]; exact hV347
  have hV386 : V381 (mo + 15) = some (.inl (X.2.1 0, 4, .inl sf)) := by rw [eV382, hv_un (by omega)]; exact hV348
  have hV387 : V381 (mo + 16) = some (.inl (X.2.1 0, 4, .inl sg9)) := by rw [eV382, hv_un (by omega)]; exact hV349
  have hV388 : V381 (mo + 17) = some (.inl (X.2.1 0, 4, .inl sh)) := by rw [eV382, hv_un (by omega)]; exact hV350
  have hV389 : V381 (mo + 18) = some (.inl (X.2.1 0, 8, .inl ef)) := by rw [eV382, hv_un (by omega)]; exact hV351
  have hV390 : V381 (mo + 19) = some (.inl (X.2.1 0, 8, .inl eg)) := by rw [eV382, hv_un (by omega)]; exact hV352
  have hV391 : V381 (mo + 21) = some (.inl (X.2.1 0, 8, .inl bf)) := by rw [eV382, hv_un (by omega)]; exact hV353
  have hV392 : V381 (mo + 22) = some (.inl (X.2.1 0, 8, .inl bg)) := by rw [eV382, hv_un (by omega)]; exact hV354
  have hV393 : V381 (mo + 4 + 0) = some (.inl (X.2.1 0, 16, .inl (σ.1.1.2.2 0))) := by rw [eV382, hv_un (by omega)]; exact hV355
  have hV394 : V381 (mo + 4 + 1) = some (.inl (X.2.1 0, 16, .inl (σ.1.1.2.2 1))) := by rw [eV382, hv_un (by omega)]; exact hV356
  have hV395 : V381 (mo + 4 + 2) = some (.inl (X.2.1 0, 16, .inl (σ.1.1.2.2 2))) := by rw [eV382, hv_un (by omega)]; exact hV357
  have hV396 : V381 (mo + 4 + 3) = some (.inl (X.2.1 0, 16, .inl (σ.1.1.2.2 3))) := by rw [eV382, hv_un (by omega)]; exact hV358
  have hV397 : V381 (mo + 4 + 4) = some (.inl (X.2.1 0, 16, .inl (σ.1.1.2.2 4))) := by rw [eV382, hv_un (by omega)]; exact hV360
  have hV399 : V381 (mo + 4 + 5) = some (.inl (X.2.1 0, 16, .inl (σ.1.1.2.2 5))) := by rw [eV382, hv_un (by omega)]; exact hV362
  have hV400 : V381 (mo + 27 + 5) = some (.inl (X.2.1 0, 16, .inl (nu 5))) := by rw [eV382, hv_un (by omega)]; exact hV363
  have hV401 : V381 (mo + 26) = some (.inl (X.2.1 6, 6, .inr (.inr (.inr (.inr nf))))) := by rw [eV382, hv_un (by omega)]; exact hV364
  have hV402 : V381 (mo + 33) = some (.inl (X.2.1 6, 7, .inr (.inr (.inr (.inr tf2))))) := by rw [eV382, hv_un (by omega)]; exact hV365
  have hV403 : V381 (mo + 34 + 0) = some (.inl (X.2.1 0, 8, .inl (td 0))) := by rw [eV382, hv_un (by omega)]; exact hV366
  have hV404 : V381 (mo + 34 + 1) = some (.inl (X.2.1 0, 8, .inl (td 1))) := by rw [eV382, hv_un (by omega)]; exact hV367
  have hV405 : V381 (mo + 34 + 2) = some (.inl (X.2.1 0, 8, .inl (td 2))) := by rw [eV382, hv_un (by omega)]; exact hV368
  have hV406 : V381 (mo + 34 + 3) = some (.inl (X.2.1 0, 8, .inl (td 3))) := by rw [eV382, hv_un (by omega)]; exact hV369
  have hV407 : V381 (mo + 34 + 4) = some (.inl (X.2.1 0, 8, .inl (td 4))) := by rw [eV382, hv_un (by omega)]; exact hV370
  have hV408 : V381 (mo + 34 + 5) = some (.inl (X.2.1 0, 8, .inl (td 5))) := by rw [eV382, hv_un (by omega)]; exact hV371
  have hV409 : V381 (mo + 34 + 6) = some (.inl (X.2.1 0, 8, .inl (td 6))) := by rw [eV382, hv_un (by omega)]; exact hV372
  have hV410 : V381 mo = some (.inr (7, [.ref (mo + 1), .ref (mo + 2), .ref (mo + 3), .long ab, .long be, .ref (mo + 10), .int (nI σ.2.2.1.1), .int pl, .int cl, .ref (mo + 11), .ref (mo + 12), .ref (mo + 13), .int sg, .ref (mo + 14), .ref (mo + 15), .ref (mo + 16), .ref (mo + 17), .int (nI σ.1.2.1.1), .ref (mo + 18), .ref (mo + 19), .int (nI σ.1.2.2.1.1), .ref (mo + 20), .ref (mo + 21), .ref (mo + 22), .int (nI σ.1.2.2.2.1), .int 1, .ref (mo + 23), .ref (mo + 24), .ref (mo + 25), .ref (mo + 26), .ref (mo + 33), .ref (mo + 41), .ref (mo + 42), .ref (mo + 43)])) := by rw [eV382, hv_un (by omega)]; exact hV373
  have hV411 : V381 (mo + 23) = some (.inl (X.2.1 0, 3, .inl (upd (upd (upd ct 0 (nI σ.1.2.1.1)) 1 (nI σ.1.2.2.1.1)) 2 (nI σ.1.2.2.2.1)))) := by rw [eV382, hv_un (by omega)]; exact hV374
  have hV412 : V381 (mo + 24) = some (.inl (X.2.1 0, 6, .inl (σ.1.1.1))) := by rw [eV382, hv_un (by omega)]; exact hV375
  have hV413 : V381 (mo + 25) = some (.inl (X.2.1 0, 6, .inl (fun j => nI (σ.1.1.2.1 j)))) := by rw [eV382, hv_un (by omega)]; exact hV376
  have hV414 : V381 (mo + 27 + 0) = some (.inl (X.2.1 0, 16, .inl (σ.1.1.2.2 0))) := by rw [eV382, hv_un (by omega)]; exact hV377
  have hV415 : V381 (mo + 27 + 1) = some (.inl (X.2.1 0, 16, .inl (σ.1.1.2.2 1))) := by rw [eV382, hv_un (by omega)]; exact hV378
  have hV416 : V381 (mo + 27 + 2) = some (.inl (X.2.1 0, 16, .inl (σ.1.1.2.2 2))) := by rw [eV382, hv_un (by omega)]; exact hV379
  have hV417 : V381 (mo + 27 + 3) = some (.inl (X.2.1 0, 16, .inl (σ.1.1.2.2 3))) := by rw [eV382, hv_un (by omega)]; exact hV380
  have hV418 : V381 (mo + 27 + 4) = some (.inl (X.2.1 0, 16, .inl (σ.1.1.2.2 4))) := by rw [eV382]; exact hv_us
  clear hV345 hV346 hV347 hV348 hV349 hV350 hV351 hV352 hV353 hV354 hV355 hV356 hV357 hV358 hV360 hV361 hV362 hV363 hV364 hV365 hV366 hV367 hV368 hV369 hV370 hV371 hV372 hV373 hV374 hV375 hV376 hV377 hV378 hV379 hV380
  refine lv_iinc (v := 4 + 1) (lv' := [(1, .int (4 + 1)), (0, .ref mo)]) C0.1 C0.2.1 dX7_image_92 hl (k := 0) rfl rfl (by decide) rfl (fun ls hl => ?_)
  have hl : lv_has ls 2 [(1, .int 5), (0, .ref mo)] := by rw [show (5 : Int32) = 4 + 1 from by decide]; exact hl
  refine lv_goto (tgt := 67) C0.1 C0.2.1 dX7_image_95 (by decide) ?_
  refine lv_iload_n C0.1 C0.2.1 dX7_image_67 rfl (lv_at hl 0 rfl) ?_
  refine lv_bipush (v := 6) C0.1 C0.2.1 dX7_image_68 (by decide) ?_
  refine lv_icmp_ge (tgt := 98) C0.1 C0.2.1 dX7_image_70 (by decide) (fun h9 => absurd h9 (by decide)) (fun _ => ?_)
  refine lv_aload_n C0.1 C0.2.1 dX7_image_73 rfl (lv_at hl 1 rfl) ?_
  refine gf_X7_20 C0 w hV410 rfl dX7_image_74 ?_
  refine lv_iload_n C0.1 C0.2.1 dX7_image_77 rfl (lv_at hl 0 rfl) ?_
  refine hv_aalA 6 rfl C0 w rfl hV385 (hn_in (n := 5) (by decide) (by decide)) (by rw [show (5 : Int32).toNatClampNeg = 5 by decide]; exact r4 5 (by decide)) dX7_image_78 ?_
  refine lv_iconst (v := 0) C0.1 C0.2.1 dX7_image_79 (by decide) ?_
  refine lv_aload_n C0.1 C0.2.1 dX7_image_80 rfl (lv_at hl 1 rfl) ?_
  refine gf_X7_72 C0 w hV410 rfl dX7_image_81 ?_
  refine lv_iload_n C0.1 C0.2.1 dX7_image_84 rfl (lv_at hl 0 rfl) ?_
  refine hv_aalA 6 rfl C0 w rfl hV401 (hn_in (n := 5) (by decide) (by decide)) (by rw [show (5 : Int32).toNatClampNeg = 5 by decide]; exact i5 5 (by decide)) dX7_image_85 ?_
  refine lv_iconst (v := 0) C0.1 C0.2.1 dX7_image_86 (by decide) ?_
  refine lv_bipush (v := 16) C0.1 C0.2.1 dX7_image_87 (by decide) ?_
  refine hv_copyi C0 w hl.1 kj_X7_148 hV399 hV400 (by decide) (by decide) (by decide) (by decide) (by decide) (by decide) (Nat.le_of_ble_eq_true rfl) dX7_image_89 (fun Hq lq w => ?_)
  have w := hv_w.as (a := mo + 27 + 5) (n := 16) (f := va_cpy (σ.1.1.2.2 5) (nu 5) 0 0 16) (g := (σ.1.1.2.2 5)) w hv_us (fun i9 hi9 => by simp [va_cpy, hi9])
  rw [hv_uu] at w
  obtain ⟨V419, eV420⟩ : ∃ W9, W9 = hv_up V381 (mo + 27 + 5) (.inl (X.2.1 0, 16, .inl (σ.1.1.2.2 5))) := ⟨_, rfl⟩
  have w : hv_w X s V419 Hq lq := by rw [eV420]; exact w
  have hV421 : V419 (mo + 1) = some (.inl (X.2.1 0, 6, .inl σ.1.1.1)) := by rw [eV420, hv_un (by omega)]; exact hV383
  have hV422 : V419 (mo + 2) = some (.inl (X.2.1 0, 6, .inl (fun j => nI (σ.1.1.2.1 j)))) := by rw [eV420, hv_un (by omega)]; exact hV384
  have hV423 : V419 (mo + 3) = some (.inl (X.2.1 6, 6, .inr (.inr (.inr (.inr rf))))) := by rw [eV420, hv_un (by omega)]; exact hV385
  have hV424 : V419 (mo + 15) = some (.inl (X.2.1 0, 4, .inl sf)) := by rw [eV420, hv_un (by omega)]; exact hV386
  have hV425 : V419 (mo + 16) = some (.inl (X.2.1 0, 4, .inl sg9)) := by rw [eV420, hv_un (by omega)]; exact hV387
  have hV426 : V419 (mo + 17) = some (.inl (X.2.1 0, 4, .inl sh)) := by rw [eV420, hv_un (by omega)]; exact hV388
  have hV427 : V419 (mo + 18) = some (.inl (X.2.1 0, 8, .inl ef)) := by rw [eV420, hv_un (by omega)]; exact hV389
  have hV428 : V419 (mo + 19) = some (.inl (X.2.1 0, 8, .inl eg)) := by rw [eV420, hv_un (by omega)]; exact hV390
  have hV429 : V419 (mo + 21) = some (.inl (X.2.1 0, 8, .inl bf)) := by rw [eV420, hv_un (by omega)]; exact hV391
  have hV430 : V419 (mo + 22) = some (.inl (X.2.1 0, 8, .inl bg)) := by rw [eV420, hv_un (by omega)]; exact hV392
  have hV431 : V419 (mo + 4 + 0) = some (.inl (X.2.1 0, 16, .inl (σ.1.1.2.2 0))) := by rw [eV420, hv_un (by omega)]; exact hV393
  have hV432 : V419 (mo + 4 + 1) = some (.inl (X.2.1 0, 16, .inl (σ.1.1.2.2 1))) := by rw [eV420, hv_un (by omega)]; exact hV394
  have hV433 : V419 (mo + 4 + 2) = some (.inl (X.2.1 0, 16, .inl (σ.1.1.2.2 2))) := by rw [eV420, hv_un (by omega)]; exact hV395
  have hV434 : V419 (mo + 4 + 3) = some (.inl (X.2.1 0, 16, .inl (σ.1.1.2.2 3))) := by rw [eV420, hv_un (by omega)]; exact hV396
  have hV435 : V419 (mo + 4 + 4) = some (.inl (X.2.1 0, 16, .inl (σ.1.1.2.2 4))) := by rw [eV420, hv_un (by omega)]; exact hV397
  have hV436 : V419 (mo + 4 + 5) = some (.inl (X.2.1 0, 16, .inl (σ.1.1.2.2 5))) := by rw [eV420, hv_un (by omega)]; exact hV399
  have hV438 : V419 (mo + 26) = some (.inl (X.2.1 6, 6, .inr (.inr (.inr (.inr nf))))) := by rw [eV420, hv_un (by omega)]; exact hV401
  have hV439 : V419 (mo + 33) = some (.inl (X.2.1 6, 7, .inr (.inr (.inr (.inr tf2))))) := by rw [eV420, hv_un (by omega)]; exact hV402
  have hV440 : V419 (mo + 34 + 0) = some (.inl (X.2.1 0, 8, .inl (td 0))) := by rw [eV420, hv_un (by omega)]; exact hV403
  have hV441 : V419 (mo + 34 + 1) = some (.inl (X.2.1 0, 8, .inl (td 1))) := by rw [eV420, hv_un (by omega)]; exact hV404
  have hV442 : V419 (mo + 34 + 2) = some (.inl (X.2.1 0, 8, .inl (td 2))) := by rw [eV420, hv_un (by omega)]; exact hV405
  have hV443 : V419 (mo + 34 + 3) = some (.inl (X.2.1 0, 8, .inl (td 3))) := by rw [eV420, hv_un (by omega)]; exact hV406
  have hV444 : V419 (mo + 34 + 4) = some (.inl (X.2.1 0, 8, .inl (td 4))) := by rw [eV420, hv_un (by omega)]; exact hV407
  have hV445 : V419 (mo + 34 + 5) = some (.inl (X.2.1 0, 8, .inl (td 5))) := by rw [eV420, hv_un (by omega)]; exact hV408
  have hV446 : V419 (mo + 34 + 6) = some (.inl (X.2.1 0, 8, .inl (td 6))) := by rw [eV420, hv_un (by omega)]; exact hV409
  have hV447 : V419 mo = some (.inr (7, [.ref (mo + 1), .ref (mo + 2), .ref (mo + 3), .long ab, .long be, .ref (mo + 10), .int (nI σ.2.2.1.1), .int pl, .int cl, .ref (mo + 11), .ref (mo + 12), .ref (mo + 13), .int sg, .ref (mo + 14), .ref (mo + 15), .ref (mo + 16), .ref (mo + 17), .int (nI σ.1.2.1.1), .ref (mo + 18), .ref (mo + 19), .int (nI σ.1.2.2.1.1), .ref (mo + 20), .ref (mo + 21), .ref (mo + 22), .int (nI σ.1.2.2.2.1), .int 1, .ref (mo + 23), .ref (mo + 24), .ref (mo + 25), .ref (mo + 26), .ref (mo + 33), .ref (mo + 41), .ref (mo + 42), .ref (mo + 43)])) := by rw [eV420, hv_un (by omega)]; exact hV410
  have hV448 : V419 (mo + 23) = some (.inl (X.2.1 0, 3, .inl (upd (upd (upd ct 0 (nI σ.1.2.1.1)) 1 (nI σ.1.2.2.1.1)) 2 (nI σ.1.2.2.2.1)))) := by rw [eV420, hv_un (by omega)]; exact hV411
  have hV449 : V419 (mo + 24) = some (.inl (X.2.1 0, 6, .inl (σ.1.1.1))) := by rw [eV420, hv_un (by omega)]; exact hV412
  have hV450 : V419 (mo + 25) = some (.inl (X.2.1 0, 6, .inl (fun j => nI (σ.1.1.2.1 j)))) := by rw [eV420, hv_un (by omega)]; exact hV413
  have hV451 : V419 (mo + 27 + 0) = some (.inl (X.2.1 0, 16, .inl (σ.1.1.2.2 0))) := by rw [eV420, hv_un (by omega)]; exact hV414
  have hV452 : V419 (mo + 27 + 1) = some (.inl (X.2.1 0, 16, .inl (σ.1.1.2.2 1))) := by rw [eV420, hv_un (by omega)]; exact hV415
  have hV453 : V419 (mo + 27 + 2) = some (.inl (X.2.1 0, 16, .inl (σ.1.1.2.2 2))) := by rw [eV420, hv_un (by omega)]; exact hV416
  have hV454 : V419 (mo + 27 + 3) = some (.inl (X.2.1 0, 16, .inl (σ.1.1.2.2 3))) := by rw [eV420, hv_un (by omega)]; exact hV417
  have hV455 : V419 (mo + 27 + 4) = some (.inl (X.2.1 0, 16, .inl (σ.1.1.2.2 4))) := by rw [eV420, hv_un (by omega)]; exact hV418
  have hV456 : V419 (mo + 27 + 5) = some (.inl (X.2.1 0, 16, .inl (σ.1.1.2.2 5))) := by rw [eV420]; exact hv_us
  clear hV383 hV384 hV385 hV386 hV387 hV388 hV389 hV390 hV391 hV392 hV393 hV394 hV395 hV396 hV397 hV399 hV400 hV401 hV402 hV403 hV404 hV405 hV406 hV407 hV408 hV409 hV410 hV411 hV412 hV413 hV414 hV415 hV416 hV417 hV418
  refine lv_iinc (v := 5 + 1) (lv' := [(1, .int (5 + 1)), (0, .ref mo)]) C0.1 C0.2.1 dX7_image_92 hl (k := 0) rfl rfl (by decide) rfl (fun ls hl => ?_)
  have hl : lv_has ls 2 [(1, .int 6), (0, .ref mo)] := by rw [show (6 : Int32) = 5 + 1 from by decide]; exact hl
  refine lv_goto (tgt := 67) C0.1 C0.2.1 dX7_image_95 (by decide) ?_
  refine lv_iload_n C0.1 C0.2.1 dX7_image_67 rfl (lv_at hl 0 rfl) ?_
  refine lv_bipush (v := 6) C0.1 C0.2.1 dX7_image_68 (by decide) ?_
  refine lv_icmp_ge (tgt := 98) C0.1 C0.2.1 dX7_image_70 (by decide) (fun _ => ?_) (fun h9 => absurd h9 (by decide))
  refine lv_iconst (v := 0) C0.1 C0.2.1 dX7_image_98 (by decide) ?_
  refine lv_istore_n (lv' := [(1, .int 0), (0, .ref mo)]) C0.1 C0.2.1 dX7_image_99 rfl hl (by decide) rfl (fun ls hl => ?_)
  refine lv_iload_n C0.1 C0.2.1 dX7_image_100 rfl (lv_at hl 0 rfl) ?_
  refine lv_bipush (v := 7) C0.1 C0.2.1 dX7_image_101 (by decide) ?_
  refine lv_icmp_ge (tgt := 134) C0.1 C0.2.1 dX7_image_103 (by decide) (fun h9 => absurd h9 (by decide)) (fun _ => ?_)
  refine lv_aload_n C0.1 C0.2.1 dX7_image_106 rfl (lv_at hl 1 rfl) ?_
  refine lv_iload_n C0.1 C0.2.1 dX7_image_107 rfl (lv_at hl 0 rfl) ?_
  refine hv_cVr C0 w kl_X7_310 kv_X7_toldOf rfl hV447 (c_X7_toldOf0 hV447) (by decide) (by decide) rfl hl.1 rfl (Nat.le_of_ble_eq_true rfl) dX7_image_108 ⟨Nat.le_refl _, Nat.le_refl _⟩ (fun x457 V458 Hq lq hp459 w => ?_)
  obtain ⟨e9, rfl⟩ := hp459
  rw [e9] at w; clear e9
  refine lv_iconst (v := 0) C0.1 C0.2.1 dX7_image_111 (by decide) ?_
  refine lv_aload_n C0.1 C0.2.1 dX7_image_112 rfl (lv_at hl 1 rfl) ?_
  refine gf_X7_75 C0 w hV447 rfl dX7_image_113 ?_
  refine lv_iload_n C0.1 C0.2.1 dX7_image_116 rfl (lv_at hl 0 rfl) ?_
  refine hv_aalA 6 rfl C0 w rfl hV439 (hn_in (n := 0) (by decide) (by decide)) (by rw [show (0 : Int32).toNatClampNeg = 0 by decide]; exact i8 0 (by decide)) dX7_image_117 ?_
  refine lv_iconst (v := 0) C0.1 C0.2.1 dX7_image_118 (by decide) ?_
  refine lv_aload_n C0.1 C0.2.1 dX7_image_119 rfl (lv_at hl 1 rfl) ?_
  refine lv_iload_n C0.1 C0.2.1 dX7_image_120 rfl (lv_at hl 0 rfl) ?_
  refine hv_cVr C0 w kl_X7_310 kv_X7_toldOf rfl hV447 (c_X7_toldOf0 hV447) (by decide) (by decide) rfl hl.1 rfl (Nat.le_of_ble_eq_true rfl) dX7_image_121 ⟨Nat.le_refl _, Nat.le_refl _⟩ (fun x460 V461 Hq lq hp462 w => ?_)
  obtain ⟨e9, rfl⟩ := hp462
  rw [e9] at w; clear e9
  refine hv_alen 0 (v := Int32.ofNat 4) C0 w rfl hV424 rfl dX7_image_124 ?_
  refine hv_copyi C0 w hl.1 kj_X7_148 hV424 hV440 (by decide) (by decide) (by decide) (by decide) (by decide) (by decide) (Nat.le_of_ble_eq_true rfl) dX7_image_125 (fun Hq lq w => ?_)
  rw [show (0 : Int32).toNatClampNeg = 0 by decide, show ((Int32.ofNat 4) : Int32).toNatClampNeg = 4 by decide] at w
  obtain ⟨V463, eV464⟩ : ∃ W9, W9 = hv_up V419 (mo + 34 + 0) (.inl (X.2.1 0, 8, .inl (va_cpy sf (td 0) 0 0 4))) := ⟨_, rfl⟩
  have w : hv_w X s V463 Hq lq := by rw [eV464]; exact w
  have hV465 : V463 (mo + 1) = some (.inl (X.2.1 0, 6, .inl σ.1.1.1)) := by rw [eV464, hv_un (by omega)]; exact hV421
  have hV466 : V463 (mo + 2) = some (.inl (X.2.1 0, 6, .inl (fun j => nI (σ.1.1.2.1 j)))) := by rw [eV464, hv_un (by omega)]; exact hV422
  have hV467 : V463 (mo + 3) = some (.inl (X.2.1 6, 6, .inr (.inr (.inr (.inr rf))))) := by rw [eV464, hv_un (by omega)]; exact hV423
  have hV468 : V463 (mo + 15) = some (.inl (X.2.1 0, 4, .inl sf)) := by rw [eV464, hv_un (by omega)]; exact hV424
  have hV469 : V463 (mo + 16) = some (.inl (X.2.1 0, 4, .inl sg9)) := by rw [eV464, hv_un (by omega)]; exact hV425
  have hV470 : V463 (mo + 17) = some (.inl (X.2.1 0, 4, .inl sh)) := by rw [eV464, hv_un (by omega)]; exact hV426
  have hV471 : V463 (mo + 18) = some (.inl (X.2.1 0, 8, .inl ef)) := by rw [eV464, hv_un (by omega)]; exact hV427
  have hV472 : V463 (mo + 19) = some (.inl (X.2.1 0, 8, .inl eg)) := by rw [eV464, hv_un (by omega)]; exact hV428
  have hV473 : V463 (mo + 21) = some (.inl (X.2.1 0, 8, .inl bf)) := by rw [eV464, hv_un (by omega)]; exact hV429
  have hV474 : V463 (mo + 22) = some (.inl (X.2.1 0, 8, .inl bg)) := by rw [eV464, hv_un (by omega)]; exact hV430
  have hV475 : V463 (mo + 4 + 0) = some (.inl (X.2.1 0, 16, .inl (σ.1.1.2.2 0))) := by rw [eV464, hv_un (by omega)]; exact hV431
  have hV476 : V463 (mo + 4 + 1) = some (.inl (X.2.1 0, 16, .inl (σ.1.1.2.2 1))) := by rw [eV464, hv_un (by omega)]; exact hV432
  have hV477 : V463 (mo + 4 + 2) = some (.inl (X.2.1 0, 16, .inl (σ.1.1.2.2 2))) := by rw [eV464, hv_un (by omega)]; exact hV433
  have hV478 : V463 (mo + 4 + 3) = some (.inl (X.2.1 0, 16, .inl (σ.1.1.2.2 3))) := by rw [eV464, hv_un (by omega)]; exact hV434
  have hV479 : V463 (mo + 4 + 4) = some (.inl (X.2.1 0, 16, .inl (σ.1.1.2.2 4))) := by rw [eV464, hv_un (by omega)]; exact hV435
  have hV480 : V463 (mo + 4 + 5) = some (.inl (X.2.1 0, 16, .inl (σ.1.1.2.2 5))) := by rw [eV464, hv_un (by omega)]; exact hV436
  have hV481 : V463 (mo + 26) = some (.inl (X.2.1 6, 6, .inr (.inr (.inr (.inr nf))))) := by rw [eV464, hv_un (by omega)]; exact hV438
  have hV482 : V463 (mo + 33) = some (.inl (X.2.1 6, 7, .inr (.inr (.inr (.inr tf2))))) := by rw [eV464, hv_un (by omega)]; exact hV439
  have hV484 : V463 (mo + 34 + 1) = some (.inl (X.2.1 0, 8, .inl (td 1))) := by rw [eV464, hv_un (by omega)]; exact hV441
  have hV485 : V463 (mo + 34 + 2) = some (.inl (X.2.1 0, 8, .inl (td 2))) := by rw [eV464, hv_un (by omega)]; exact hV442
  have hV486 : V463 (mo + 34 + 3) = some (.inl (X.2.1 0, 8, .inl (td 3))) := by rw [eV464, hv_un (by omega)]; exact hV443
  have hV487 : V463 (mo + 34 + 4) = some (.inl (X.2.1 0, 8, .inl (td 4))) := by rw [eV464, hv_un (by omega)]; exact hV444
  have hV488 : V463 (mo + 34 + 5) = some (.inl (X.2.1 0, 8, .inl (td 5))) := by rw [eV464, hv_un (by omega)]; exact hV445
  have hV489 : V463 (mo + 34 + 6) = some (.inl (X.2.1 0, 8, .inl (td 6))) := by rw [eV464, hv_un (by omega)]; exact hV446
  have hV490 : V463 mo = some (.inr (7, [.ref (mo + 1), .ref (mo + 2), .ref (mo + 3), .long ab, .long be, .ref (mo + 10), .int (nI σ.2.2.1.1), .int pl, .int cl, .ref (mo + 11), .ref (mo + 12), .ref (mo + 13), .int sg, .ref (mo + 14), .ref (mo + 15), .ref (mo + 16), .ref (mo + 17), .int (nI σ.1.2.1.1), .ref (mo + 18), .ref (mo + 19), .int (nI σ.1.2.2.1.1), .ref (mo + 20), .ref (mo + 21), .ref (mo + 22), .int (nI σ.1.2.2.2.1), .int 1, .ref (mo + 23), .ref (mo + 24), .ref (mo + 25), .ref (mo + 26), .ref (mo + 33), .ref (mo + 41), .ref (mo + 42), .ref (mo + 43)])) := by rw [eV464, hv_un (by omega)]; exact hV447
  have hV491 : V463 (mo + 23) = some (.inl (X.2.1 0, 3, .inl (upd (upd (upd ct 0 (nI σ.1.2.1.1)) 1 (nI σ.1.2.2.1.1)) 2 (nI σ.1.2.2.2.1)))) := by rw [eV464, hv_un (by omega)]; exact hV448
  have hV492 : V463 (mo + 24) = some (.inl (X.2.1 0, 6, .inl (σ.1.1.1))) := by rw [eV464, hv_un (by omega)]; exact hV449
  have hV493 : V463 (mo + 25) = some (.inl (X.2.1 0, 6, .inl (fun j => nI (σ.1.1.2.1 j)))) := by rw [eV464, hv_un (by omega)]; exact hV450
  have hV494 : V463 (mo + 27 + 0) = some (.inl (X.2.1 0, 16, .inl (σ.1.1.2.2 0))) := by rw [eV464, hv_un (by omega)]; exact hV451
  have hV495 : V463 (mo + 27 + 1) = some (.inl (X.2.1 0, 16, .inl (σ.1.1.2.2 1))) := by rw [eV464, hv_un (by omega)]; exact hV452
  have hV496 : V463 (mo + 27 + 2) = some (.inl (X.2.1 0, 16, .inl (σ.1.1.2.2 2))) := by rw [eV464, hv_un (by omega)]; exact hV453
  have hV497 : V463 (mo + 27 + 3) = some (.inl (X.2.1 0, 16, .inl (σ.1.1.2.2 3))) := by rw [eV464, hv_un (by omega)]; exact hV454
  have hV498 : V463 (mo + 27 + 4) = some (.inl (X.2.1 0, 16, .inl (σ.1.1.2.2 4))) := by rw [eV464, hv_un (by omega)]; exact hV455
  have hV499 : V463 (mo + 27 + 5) = some (.inl (X.2.1 0, 16, .inl (σ.1.1.2.2 5))) := by rw [eV464, hv_un (by omega)]; exact hV456
  have hV500 : V463 (mo + 34 + 0) = some (.inl (X.2.1 0, 8, .inl (va_cpy sf (td 0) 0 0 4))) := by rw [eV464]; exact hv_us
  clear hV421 hV422 hV423 hV424 hV425 hV426 hV427 hV428 hV429 hV430 hV431 hV432 hV433 hV434 hV435 hV436 hV438 hV439 hV440 hV441 hV442 hV443 hV444 hV445 hV446 hV447 hV448 hV449 hV450 hV451 hV452 hV453 hV454 hV455 hV456
  refine lv_iinc (v := 0 + 1) (lv' := [(1, .int (0 + 1)), (0, .ref mo)]) C0.1 C0.2.1 dX7_image_128 hl (k := 0) rfl rfl (by decide) rfl (fun ls hl => ?_)
  have hl : lv_has ls 2 [(1, .int 1), (0, .ref mo)] := by rw [show (1 : Int32) = 0 + 1 from by decide]; exact hl
  refine lv_goto (tgt := 100) C0.1 C0.2.1 dX7_image_131 (by decide) ?_
  refine lv_iload_n C0.1 C0.2.1 dX7_image_100 rfl (lv_at hl 0 rfl) ?_
  refine lv_bipush (v := 7) C0.1 C0.2.1 dX7_image_101 (by decide) ?_
  refine lv_icmp_ge (tgt := 134) C0.1 C0.2.1 dX7_image_103 (by decide) (fun h9 => absurd h9 (by decide)) (fun _ => ?_)
  refine lv_aload_n C0.1 C0.2.1 dX7_image_106 rfl (lv_at hl 1 rfl) ?_
  refine lv_iload_n C0.1 C0.2.1 dX7_image_107 rfl (lv_at hl 0 rfl) ?_
  refine hv_cVr C0 w kl_X7_310 kv_X7_toldOf rfl hV490 (c_X7_toldOf1 hV490) (by decide) (by decide) rfl hl.1 rfl (Nat.le_of_ble_eq_true rfl) dX7_image_108 ⟨Nat.le_refl _, Nat.le_refl _⟩ (fun x501 V502 Hq lq hp503 w => ?_)
  obtain ⟨e9, rfl⟩ := hp503
  rw [e9] at w; clear e9
  refine lv_iconst (v := 0) C0.1 C0.2.1 dX7_image_111 (by decide) ?_
  refine lv_aload_n C0.1 C0.2.1 dX7_image_112 rfl (lv_at hl 1 rfl) ?_
  refine gf_X7_75 C0 w hV490 rfl dX7_image_113 ?_
  refine lv_iload_n C0.1 C0.2.1 dX7_image_116 rfl (lv_at hl 0 rfl) ?_
  refine hv_aalA 6 rfl C0 w rfl hV482 (hn_in (n := 1) (by decide) (by decide)) (by rw [show (1 : Int32).toNatClampNeg = 1 by decide]; exact i8 1 (by decide)) dX7_image_117 ?_
  refine lv_iconst (v := 0) C0.1 C0.2.1 dX7_image_118 (by decide) ?_
  refine lv_aload_n C0.1 C0.2.1 dX7_image_119 rfl (lv_at hl 1 rfl) ?_
  refine lv_iload_n C0.1 C0.2.1 dX7_image_120 rfl (lv_at hl 0 rfl) ?_
  refine hv_cVr C0 w kl_X7_310 kv_X7_toldOf rfl hV490 (c_X7_toldOf1 hV490) (by decide) (by decide) rfl hl.1 rfl (Nat.le_of_ble_eq_true rfl) dX7_image_121 ⟨Nat.le_refl _, Nat.le_refl _⟩ (fun x504 V505 Hq lq hp506 w => ?_)
  obtain ⟨e9, rfl⟩ := hp506
  rw [e9] at w; clear e9
  refine hv_alen 0 (v := Int32.ofNat 4) C0 w rfl hV469 rfl dX7_image_124 ?_
  refine hv_copyi C0 w hl.1 kj_X7_148 hV469 hV484 (by decide) (by decide) (by decide) (by decide) (by decide) (by decide) (Nat.le_of_ble_eq_true rfl) dX7_image_125 (fun Hq lq w => ?_)
  rw [show (0 : Int32).toNatClampNeg = 0 by decide, show ((Int32.ofNat 4) : Int32).toNatClampNeg = 4 by decide] at w
  obtain ⟨V507, eV508⟩ : ∃ W9, W9 = hv_up V463 (mo + 34 + 1) (.inl (X.2.1 0, 8, .inl (va_cpy sg9 (td 1) 0 0 4))) := ⟨_, rfl⟩
  have w : hv_w X s V507 Hq lq := by rw [eV508]; exact w
  have hV509 : V507 (mo + 1) = some (.inl (X.2.1 0, 6, .inl σ.1.1.1)) := by rw [eV508, hv_un (by omega)]; exact hV465
  have hV510 : V507 (mo + 2) = some (.inl (X.2.1 0, 6, .inl (fun j => nI (σ.1.1.2.1 j)))) := by rw [eV508, hv_un (by omega)]; exact hV466
  have hV511 : V507 (mo + 3) = some (.inl (X.2.1 6, 6, .inr (.inr (.inr (.inr rf))))) := by rw [eV508, hv_un (by omega)]; exact hV467
  have hV512 : V507 (mo + 15) = some (.inl (X.2.1 0, 4, .inl sf)) := by rw [eV508, hv_un (by omega)]; exact hV468
  have hV513 : V507 (mo + 16) = some (.inl (X.2.1 0, 4, .inl sg9)) := by rw [eV508, hv_un (by omega)]; exact hV469
  have hV514 : V507 (mo + 17) = some (.inl (X.2.1 0, 4, .inl sh)) := by rw [eV508, hv_un (by omega)]; exact hV470
  have hV515 : V507 (mo + 18) = some (.inl (X.2.1 0, 8, .inl ef)) := by rw [eV508, hv_un (by omega)]; exact hV471
  have hV516 : V507 (mo + 19) = some (.inl (X.2.1 0, 8, .inl eg)) := by rw [eV508, hv_un (by omega)]; exact hV472
  have hV517 : V507 (mo + 21) = some (.inl (X.2.1 0, 8, .inl bf)) := by rw [eV508, hv_un (by omega)]; exact hV473
  have hV518 : V507 (mo + 22) = some (.inl (X.2.1 0, 8, .inl bg)) := by rw [eV508, hv_un (by omega)]; exact hV474
  have hV519 : V507 (mo + 4 + 0) = some (.inl (X.2.1 0, 16, .inl (σ.1.1.2.2 0))) := by rw [eV508, hv_un (by omega)]; exact hV475
  have hV520 : V507 (mo + 4 + 1) = some (.inl (X.2.1 0, 16, .inl (σ.1.1.2.2 1))) := by rw [eV508, hv_un (by omega)]; exact hV476
  have hV521 : V507 (mo + 4 + 2) = some (.inl (X.2.1 0, 16, .inl (σ.1.1.2.2 2))) := by rw [eV508, hv_un (by omega)]; exact hV477
  have hV522 : V507 (mo + 4 + 3) = some (.inl (X.2.1 0, 16, .inl (σ.1.1.2.2 3))) := by rw [eV508, hv_un (by omega)]; exact hV478
  have hV523 : V507 (mo + 4 + 4) = some (.inl (X.2.1 0, 16, .inl (σ.1.1.2.2 4))) := by rw [eV508, hv_un (by omega)]; exact hV479
  have hV524 : V507 (mo + 4 + 5) = some (.inl (X.2.1 0, 16, .inl (σ.1.1.2.2 5))) := by rw [eV508, hv_un (by omega)]; exact hV480
  have hV525 : V507 (mo + 26) = some (.inl (X.2.1 6, 6, .inr (.inr (.inr (.inr nf))))) := by rw [eV508, hv_un (by omega)]; exact hV481
  have hV526 : V507 (mo + 33) = some (.inl (X.2.1 6, 7, .inr (.inr (.inr (.inr tf2))))) := by rw [eV508, hv_un (by omega)]; exact hV482
  have hV528 : V507 (mo + 34 + 2) = some (.inl (X.2.1 0, 8, .inl (td 2))) := by rw [eV508, hv_un (by omega)]; exact hV485
  have hV529 : V507 (mo + 34 + 3) = some (.inl (X.2.1 0, 8, .inl (td 3))) := by rw [eV508, hv_un (by omega)]; exact hV486
  have hV530 : V507 (mo + 34 + 4) = some (.inl (X.2.1 0, 8, .inl (td 4))) := by rw [eV508, hv_un (by omega)]; exact hV487
  have hV531 : V507 (mo + 34 + 5) = some (.inl (X.2.1 0, 8, .inl (td 5))) := by rw [eV508, hv_un (by omega)]; exact hV488
  have hV532 : V507 (mo + 34 + 6) = some (.inl (X.2.1 0, 8, .inl (td 6))) := by rw [eV508, hv_un (by omega)]; exact hV489
  have hV533 : V507 mo = some (.inr (7, [.ref (mo + 1), .ref (mo + 2), .ref (mo + 3), .long ab, .long be, .ref (mo + 10), .int (nI σ.2.2.1.1), .int pl, .int cl, .ref (mo + 11), .ref (mo + 12), .ref (mo + 13), .int sg, .ref (mo + 14), .ref (mo + 15), .ref (mo + 16), .ref (mo + 17), .int (nI σ.1.2.1.1), .ref (mo + 18), .ref (mo + 19), .int (nI σ.1.2.2.1.1), .ref (mo + 20), .ref (mo + 21), .ref (mo + 22), .int (nI σ.1.2.2.2.1), .int 1, .ref (mo + 23), .ref (mo + 24), .ref (mo + 25), .ref (mo + 26), .ref (mo + 33), .ref (mo + 41), .ref (mo + 42), .ref (mo + 43)])) := by rw [eV508, hv_un (by omega)]; exact hV490
  have hV534 : V507 (mo + 23) = some (.inl (X.2.1 0, 3, .inl (upd (upd (upd ct 0 (nI σ.1.2.1.1)) 1 (nI σ.1.2.2.1.1)) 2 (nI σ.1.2.2.2.1)))) := by rw [eV508, hv_un (by omega)]; exact hV491
  have hV535 : V507 (mo + 24) = some (.inl (X.2.1 0, 6, .inl (σ.1.1.1))) := by rw [eV508, hv_un (by omega)]; exact hV492
  have hV536 : V507 (mo + 25) = some (.inl (X.2.1 0, 6, .inl (fun j => nI (σ.1.1.2.1 j)))) := by rw [eV508, hv_un (by omega)]; exact hV493
  have hV537 : V507 (mo + 27 + 0) = some (.inl (X.2.1 0, 16, .inl (σ.1.1.2.2 0))) := by rw [eV508, hv_un (by omega)]; exact hV494
  have hV538 : V507 (mo + 27 + 1) = some (.inl (X.2.1 0, 16, .inl (σ.1.1.2.2 1))) := by rw [eV508, hv_un (by omega)]; exact hV495
  have hV539 : V507 (mo + 27 + 2) = some (.inl (X.2.1 0, 16, .inl (σ.1.1.2.2 2))) := by rw [eV508, hv_un (by omega)]; exact hV496
  have hV540 : V507 (mo + 27 + 3) = some (.inl (X.2.1 0, 16, .inl (σ.1.1.2.2 3))) := by rw [eV508, hv_un (by omega)]; exact hV497
  have hV541 : V507 (mo + 27 + 4) = some (.inl (X.2.1 0, 16, .inl (σ.1.1.2.2 4))) := by rw [eV508, hv_un (by omega)]; exact hV498
  have hV542 : V507 (mo + 27 + 5) = some (.inl (X.2.1 0, 16, .inl (σ.1.1.2.2 5))) := by rw [eV508, hv_un (by omega)]; exact hV499
  have hV543 : V507 (mo + 34 + 0) = some (.inl (X.2.1 0, 8, .inl (va_cpy sf (td 0) 0 0 4))) := by rw [eV508, hv_un (by omega)]; exact hV500
  have hV544 : V507 (mo + 34 + 1) = some (.inl (X.2.1 0, 8, .inl (va_cpy sg9 (td 1) 0 0 4))) := by rw [eV508]; exact hv_us
  clear hV465 hV466 hV467 hV468 hV469 hV470 hV471 hV472 hV473 hV474 hV475 hV476 hV477 hV478 hV479 hV480 hV481 hV482 hV484 hV485 hV486 hV487 hV488 hV489 hV490 hV491 hV492 hV493 hV494 hV495 hV496 hV497 hV498 hV499 hV500
  refine lv_iinc (v := 1 + 1) (lv' := [(1, .int (1 + 1)), (0, .ref mo)]) C0.1 C0.2.1 dX7_image_128 hl (k := 0) rfl rfl (by decide) rfl (fun ls hl => ?_)
  have hl : lv_has ls 2 [(1, .int 2), (0, .ref mo)] := by rw [show (2 : Int32) = 1 + 1 from by decide]; exact hl
  refine lv_goto (tgt := 100) C0.1 C0.2.1 dX7_image_131 (by decide) ?_
  refine lv_iload_n C0.1 C0.2.1 dX7_image_100 rfl (lv_at hl 0 rfl) ?_
  refine lv_bipush (v := 7) C0.1 C0.2.1 dX7_image_101 (by decide) ?_
  refine lv_icmp_ge (tgt := 134) C0.1 C0.2.1 dX7_image_103 (by decide) (fun h9 => absurd h9 (by decide)) (fun _ => ?_)
  refine lv_aload_n C0.1 C0.2.1 dX7_image_106 rfl (lv_at hl 1 rfl) ?_
  refine lv_iload_n C0.1 C0.2.1 dX7_image_107 rfl (lv_at hl 0 rfl) ?_
  refine hv_cVr C0 w kl_X7_310 kv_X7_toldOf rfl hV533 (c_X7_toldOf2 hV533) (by decide) (by decide) rfl hl.1 rfl (Nat.le_of_ble_eq_true rfl) dX7_image_108 ⟨Nat.le_refl _, Nat.le_refl _⟩ (fun x545 V546 Hq lq hp547 w => ?_)
  obtain ⟨e9, rfl⟩ := hp547
  rw [e9] at w; clear e9
  refine lv_iconst (v := 0) C0.1 C0.2.1 dX7_image_111 (by decide) ?_
  refine lv_aload_n C0.1 C0.2.1 dX7_image_112 rfl (lv_at hl 1 rfl) ?_
  refine gf_X7_75 C0 w hV533 rfl dX7_image_113 ?_
  refine lv_iload_n C0.1 C0.2.1 dX7_image_116 rfl (lv_at hl 0 rfl) ?_
  refine hv_aalA 6 rfl C0 w rfl hV526 (hn_in (n := 2) (by decide) (by decide)) (by rw [show (2 : Int32).toNatClampNeg = 2 by decide]; exact i8 2 (by decide)) dX7_image_117 ?_
  refine lv_iconst (v := 0) C0.1 C0.2.1 dX7_image_118 (by decide) ?_
  refine lv_aload_n C0.1 C0.2.1 dX7_image_119 rfl (lv_at hl 1 rfl) ?_
  refine lv_iload_n C0.1 C0.2.1 dX7_image_120 rfl (lv_at hl 0 rfl) ?_
  refine hv_cVr C0 w kl_X7_310 kv_X7_toldOf rfl hV533 (c_X7_toldOf2 hV533) (by decide) (by decide) rfl hl.1 rfl (Nat.le_of_ble_eq_true rfl) dX7_image_121 ⟨Nat.le_refl _, Nat.le_refl _⟩ (fun x548 V549 Hq lq hp550 w => ?_)
  obtain ⟨e9, rfl⟩ := hp550
  rw [e9] at w; clear e9
  refine hv_alen 0 (v := Int32.ofNat 4) C0 w rfl hV514 rfl dX7_image_124 ?_
  refine hv_copyi C0 w hl.1 kj_X7_148 hV514 hV528 (by decide) (by decide) (by decide) (by decide) (by decide) (by decide) (Nat.le_of_ble_eq_true rfl) dX7_image_125 (fun Hq lq w => ?_)
  rw [show (0 : Int32).toNatClampNeg = 0 by decide, show ((Int32.ofNat 4) : Int32).toNatClampNeg = 4 by decide] at w
  obtain ⟨V551, eV552⟩ : ∃ W9, W9 = hv_up V507 (mo + 34 + 2) (.inl (X.2.1 0, 8, .inl (va_cpy sh (td 2) 0 0 4))) := ⟨_, rfl⟩
  have w : hv_w X s V551 Hq lq := by rw [eV552]; exact w
  have hV553 : V551 (mo + 1) = some (.inl (X.2.1 0, 6, .inl σ.1.1.1)) := by rw [eV552, hv_un (by omega)]; exact hV509
  have hV554 : V551 (mo + 2) = some (.inl (X.2.1 0, 6, .inl (fun j => nI (σ.1.1.2.1 j)))) := by rw [eV552, hv_un (by omega)]; exact hV510
  have hV555 : V551 (mo + 3) = some (.inl (X.2.1 6, 6, .inr (.inr (.inr (.inr rf))))) := by rw [eV552, hv_un (by omega)]; exact hV511
  have hV556 : V551 (mo + 15) = some (.inl (X.2.1 0, 4, .inl sf)) := by rw [eV552, hv_un (by omega)]; exact hV512
  have hV557 : V551 (mo + 16) = some (.inl (X.2.1 0, 4, .inl sg9)) := by rw [eV552, hv_un (by omega)]; exact hV513
  have hV558 : V551 (mo + 17) = some (.inl (X.2.1 0, 4, .inl sh)) := by rw [eV552, hv_un (by omega)]; exact hV514
  have hV559 : V551 (mo + 18) = some (.inl (X.2.1 0, 8, .inl ef)) := by rw [eV552, hv_un (by omega)]; exact hV515
  have hV560 : V551 (mo + 19) = some (.inl (X.2.1 0, 8, .inl eg)) := by rw [eV552, hv_un (by omega)]; exact hV516
  have hV561 : V551 (mo + 21) = some (.inl (X.2.1 0, 8, .inl bf)) := by rw [eV552, hv_un (by omega)]; exact hV517
  have hV562 : V551 (mo + 22) = some (.inl (X.2.1 0, 8, .inl bg)) := by rw [eV552, hv_un (by omega)]; exact hV518
  have hV563 : V551 (mo + 4 + 0) = some (.inl (X.2.1 0, 16, .inl (σ.1.1.2.2 0))) := by rw [eV552, hv_un (by omega)]; exact hV519
  have hV564 : V551 (mo + 4 + 1) = some (.inl (X.2.1 0, 16, .inl (σ.1.1.2.2 1))) := by rw [eV552, hv_un (by omega)]; exact hV520
  have hV565 : V551 (mo + 4 + 2) = some (.inl (X.2.1 0, 16, .inl (σ.1.1.2.2 2))) := by rw [eV552, hv_un (by omega)]; exact hV521
  have hV566 : V551 (mo + 4 + 3) = some (.inl (X.2.1 0, 16, .inl (σ.1.1.2.2 3))) := by rw [eV552, hv_un (by omega)]; exact hV522
  have hV567 : V551 (mo + 4 + 4) = some (.inl (X.2.1 0, 16, .inl (σ.1.1.2.2 4))) := by rw [eV552, hv_un (by omega)]; exact hV523
  have hV568 : V551 (mo + 4 + 5) = some (.inl (X.2.1 0, 16, .inl (σ.1.1.2.2 5))) := by rw [eV552, hv_un (by omega)]; exact hV524
  have hV569 : V551 (mo + 26) = some (.inl (X.2.1 6, 6, .inr (.inr (.inr (.inr nf))))) := by rw [eV552, hv_un (by omega)]; exact hV525
  have hV570 : V551 (mo + 33) = some (.inl (X.2.1 6, 7, .inr (.inr (.inr (.inr tf2))))) := by rw [eV552, hv_un (by omega)]; exact hV526
  have hV572 : V551 (mo + 34 + 3) = some (.inl (X.2.1 0, 8, .inl (td 3))) := by rw [eV552, hv_un (by omega)]; exact hV529
  have hV573 : V551 (mo + 34 + 4) = some (.inl (X.2.1 0, 8, .inl (td 4))) := by rw [eV552, hv_un (by omega)]; exact hV530
  have hV574 : V551 (mo + 34 + 5) = some (.inl (X.2.1 0, 8, .inl (td 5))) := by rw [eV552, hv_un (by omega)]; exact hV531
  have hV575 : V551 (mo + 34 + 6) = some (.inl (X.2.1 0, 8, .inl (td 6))) := by rw [eV552, hv_un (by omega)]; exact hV532
  have hV576 : V551 mo = some (.inr (7, [.ref (mo + 1), .ref (mo + 2), .ref (mo + 3), .long ab, .long be, .ref (mo + 10), .int (nI σ.2.2.1.1), .int pl, .int cl, .ref (mo + 11), .ref (mo + 12), .ref (mo + 13), .int sg, .ref (mo + 14), .ref (mo + 15), .ref (mo + 16), .ref (mo + 17), .int (nI σ.1.2.1.1), .ref (mo + 18), .ref (mo + 19), .int (nI σ.1.2.2.1.1), .ref (mo + 20), .ref (mo + 21), .ref (mo + 22), .int (nI σ.1.2.2.2.1), .int 1, .ref (mo + 23), .ref (mo + 24), .ref (mo + 25), .ref (mo + 26), .ref (mo + 33), .ref (mo + 41), .ref (mo + 42), .ref (mo + 43)])) := by rw [eV552, hv_un (by omega)]; exact hV533
  have hV577 : V551 (mo + 23) = some (.inl (X.2.1 0, 3, .inl (upd (upd (upd ct 0 (nI σ.1.2.1.1)) 1 (nI σ.1.2.2.1.1)) 2 (nI σ.1.2.2.2.1)))) := by rw [eV552, hv_un (by omega)]; exact hV534
  have hV578 : V551 (mo + 24) = some (.inl (X.2.1 0, 6, .inl (σ.1.1.1))) := by rw [eV552, hv_un (by omega)]; exact hV535
  have hV579 : V551 (mo + 25) = some (.inl (X.2.1 0, 6, .inl (fun j => nI (σ.1.1.2.1 j)))) := by rw [eV552, hv_un (by omega)]; exact hV536
  have hV580 : V551 (mo + 27 + 0) = some (.inl (X.2.1 0, 16, .inl (σ.1.1.2.2 0))) := by rw [eV552, hv_un (by omega)]; exact hV537
  have hV581 : V551 (mo + 27 + 1) = some (.inl (X.2.1 0, 16, .inl (σ.1.1.2.2 1))) := by rw [eV552, hv_un (by omega)]; exact hV538
  have hV582 : V551 (mo + 27 + 2) = some (.inl (X.2.1 0, 16, .inl (σ.1.1.2.2 2))) := by rw [eV552, hv_un (by omega)]; exact hV539
  have hV583 : V551 (mo + 27 + 3) = some (.inl (X.2.1 0, 16, .inl (σ.1.1.2.2 3))) := by rw [eV552, hv_un (by omega)]; exact hV540
  have hV584 : V551 (mo + 27 + 4) = some (.inl (X.2.1 0, 16, .inl (σ.1.1.2.2 4))) := by rw [eV552, hv_un (by omega)]; exact hV541
  have hV585 : V551 (mo + 27 + 5) = some (.inl (X.2.1 0, 16, .inl (σ.1.1.2.2 5))) := by rw [eV552, hv_un (by omega)]; exact hV542
  have hV586 : V551 (mo + 34 + 0) = some (.inl (X.2.1 0, 8, .inl (va_cpy sf (td 0) 0 0 4))) := by rw [eV552, hv_un (by omega)]; exact hV543
  have hV587 : V551 (mo + 34 + 1) = some (.inl (X.2.1 0, 8, .inl (va_cpy sg9 (td 1) 0 0 4))) := by rw [eV552, hv_un (by omega)]; exact hV544
  have hV588 : V551 (mo + 34 + 2) = some (.inl (X.2.1 0, 8, .inl (va_cpy sh (td 2) 0 0 4))) := by rw [eV552]; exact hv_us
  clear hV509 hV510 hV511 hV512 hV513 hV514 hV515 hV516 hV517 hV518 hV519 hV520 hV521 hV522 hV523 hV524 hV525 hV526 hV528 hV529 hV530 hV531 hV532 hV533 hV534 hV535 hV536 hV537 hV538 hV539 hV540 hV541 hV542 hV543 hV544
  refine lv_iinc (v := 2 + 1) (lv' := [(1, .int (2 + 1)), (0, .ref mo)]) C0.1 C0.2.1 dX7_image_128 hl (k := 0) rfl rfl (by decide) rfl (fun ls hl => ?_)
  have hl : lv_has ls 2 [(1, .int 3), (0, .ref mo)] := by rw [show (3 : Int32) = 2 + 1 from by decide]; exact hl
  refine lv_goto (tgt := 100) C0.1 C0.2.1 dX7_image_131 (by decide) ?_
  refine lv_iload_n C0.1 C0.2.1 dX7_image_100 rfl (lv_at hl 0 rfl) ?_
  refine lv_bipush (v := 7) C0.1 C0.2.1 dX7_image_101 (by decide) ?_
  refine lv_icmp_ge (tgt := 134) C0.1 C0.2.1 dX7_image_103 (by decide) (fun h9 => absurd h9 (by decide)) (fun _ => ?_)
  refine lv_aload_n C0.1 C0.2.1 dX7_image_106 rfl (lv_at hl 1 rfl) ?_
  refine lv_iload_n C0.1 C0.2.1 dX7_image_107 rfl (lv_at hl 0 rfl) ?_
  refine hv_cVr C0 w kl_X7_310 kv_X7_toldOf rfl hV576 (c_X7_toldOf3 hV576) (by decide) (by decide) rfl hl.1 rfl (Nat.le_of_ble_eq_true rfl) dX7_image_108 ⟨Nat.le_refl _, Nat.le_refl _⟩ (fun x589 V590 Hq lq hp591 w => ?_)
  obtain ⟨e9, rfl⟩ := hp591
  rw [e9] at w; clear e9
  refine lv_iconst (v := 0) C0.1 C0.2.1 dX7_image_111 (by decide) ?_
  refine lv_aload_n C0.1 C0.2.1 dX7_image_112 rfl (lv_at hl 1 rfl) ?_
  refine gf_X7_75 C0 w hV576 rfl dX7_image_113 ?_
  refine lv_iload_n C0.1 C0.2.1 dX7_image_116 rfl (lv_at hl 0 rfl) ?_
  refine hv_aalA 6 rfl C0 w rfl hV570 (hn_in (n := 3) (by decide) (by decide)) (by rw [show (3 : Int32).toNatClampNeg = 3 by decide]; exact i8 3 (by decide)) dX7_image_117 ?_
  refine lv_iconst (v := 0) C0.1 C0.2.1 dX7_image_118 (by decide) ?_
  refine lv_aload_n C0.1 C0.2.1 dX7_image_119 rfl (lv_at hl 1 rfl) ?_
  refine lv_iload_n C0.1 C0.2.1 dX7_image_120 rfl (lv_at hl 0 rfl) ?_
  refine hv_cVr C0 w kl_X7_310 kv_X7_toldOf rfl hV576 (c_X7_toldOf3 hV576) (by decide) (by decide) rfl hl.1 rfl (Nat.le_of_ble_eq_true rfl) dX7_image_121 ⟨Nat.le_refl _, Nat.le_refl _⟩ (fun x592 V593 Hq lq hp594 w => ?_)
  obtain ⟨e9, rfl⟩ := hp594
  rw [e9] at w; clear e9
  refine hv_alen 0 (v := Int32.ofNat 8) C0 w rfl hV559 rfl dX7_image_124 ?_
  refine hv_copyi C0 w hl.1 kj_X7_148 hV559 hV572 (by decide) (by decide) (by decide) (by decide) (by decide) (by decide) (Nat.le_of_ble_eq_true rfl) dX7_image_125 (fun Hq lq w => ?_)
  rw [show (0 : Int32).toNatClampNeg = 0 by decide, show ((Int32.ofNat 8) : Int32).toNatClampNeg = 8 by decide] at w
  obtain ⟨V595, eV596⟩ : ∃ W9, W9 = hv_up V551 (mo + 34 + 3) (.inl (X.2.1 0, 8, .inl (va_cpy ef (td 3) 0 0 8))) := ⟨_, rfl⟩
  have w : hv_w X s V595 Hq lq := by rw [eV596]; exact w
  have hV597 : V595 (mo + 1) = some (.inl (X.2.1 0, 6, .inl σ.1.1.1)) := by rw [eV596, hv_un (by omega)]; exact hV553
  have hV598 : V595 (mo + 2) = some (.inl (X.2.1 0, 6, .inl (fun j => nI (σ.1.1.2.1 j)))) := by rw [eV596, hv_un (by omega)]; exact hV554
  have hV599 : V595 (mo + 3) = some (.inl (X.2.1 6, 6, .inr (.inr (.inr (.inr rf))))) := by rw [eV596, hv_un (by omega)]; exact hV555
  have hV600 : V595 (mo + 15) = some (.inl (X.2.1 0, 4, .inl sf)) := by rw [eV596, hv_un (by omega)]; exact hV556
  have hV601 : V595 (mo + 16) = some (.inl (X.2.1 0, 4, .inl sg9)) := by rw [eV596, hv_un (by omega)]; exact hV557
  have hV602 : V595 (mo + 17) = some (.inl (X.2.1 0, 4, .inl sh)) := by rw [eV596, hv_un (by omega)]; exact hV558
  have hV603 : V595 (mo + 18) = some (.inl (X.2.1 0, 8, .inl ef)) := by rw [eV596, hv_un (by omega)]; exact hV559
  have hV604 : V595 (mo + 19) = some (.inl (X.2.1 0, 8, .inl eg)) := by rw [eV596, hv_un (by omega)]; exact hV560
  have hV605 : V595 (mo + 21) = some (.inl (X.2.1 0, 8, .inl bf)) := by rw [eV596, hv_un (by omega)]; exact hV561
  have hV606 : V595 (mo + 22) = some (.inl (X.2.1 0, 8, .inl bg)) := by rw [eV596, hv_un (by omega)]; exact hV562
  have hV607 : V595 (mo + 4 + 0) = some (.inl (X.2.1 0, 16, .inl (σ.1.1.2.2 0))) := by rw [eV596, hv_un (by omega)]; exact hV563
  have hV608 : V595 (mo + 4 + 1) = some (.inl (X.2.1 0, 16, .inl (σ.1.1.2.2 1))) := by rw [eV596, hv_un (by omega)]; exact hV564
  have hV609 : V595 (mo + 4 + 2) = some (.inl (X.2.1 0, 16, .inl (σ.1.1.2.2 2))) := by rw [eV596, hv_un (by omega)]; exact hV565
  have hV610 : V595 (mo + 4 + 3) = some (.inl (X.2.1 0, 16, .inl (σ.1.1.2.2 3))) := by rw [eV596, hv_un (by omega)]; exact hV566
  have hV611 : V595 (mo + 4 + 4) = some (.inl (X.2.1 0, 16, .inl (σ.1.1.2.2 4))) := by rw [eV596, hv_un (by omega)]; exact hV567
  have hV612 : V595 (mo + 4 + 5) = some (.inl (X.2.1 0, 16, .inl (σ.1.1.2.2 5))) := by rw [eV596, hv_un (by omega)]; exact hV568
  have hV613 : V595 (mo + 26) = some (.inl (X.2.1 6, 6, .inr (.inr (.inr (.inr nf))))) := by rw [eV596, hv_un (by omega)]; exact hV569
  have hV614 : V595 (mo + 33) = some (.inl (X.2.1 6, 7, .inr (.inr (.inr (.inr tf2))))) := by rw [eV596, hv_un (by omega)]; exact hV570
  have hV616 : V595 (mo + 34 + 4) = some (.inl (X.2.1 0, 8, .inl (td 4))) := by rw [eV596, hv_un (by omega)]; exact hV573
  have hV617 : V595 (mo + 34 + 5) = some (.inl (X.2.1 0, 8, .inl (td 5))) := by rw [eV596, hv_un (by omega)]; exact hV574
  have hV618 : V595 (mo + 34 + 6) = some (.inl (X.2.1 0, 8, .inl (td 6))) := by rw [eV596, hv_un (by omega)]; exact hV575
  have hV619 : V595 mo = some (.inr (7, [.ref (mo + 1), .ref (mo + 2), .ref (mo + 3), .long ab, .long be, .ref (mo + 10), .int (nI σ.2.2.1.1), .int pl, .int cl, .ref (mo + 11), .ref (mo + 12), .ref (mo + 13), .int sg, .ref (mo + 14), .ref (mo + 15), .ref (mo + 16), .ref (mo + 17), .int (nI σ.1.2.1.1), .ref (mo + 18), .ref (mo + 19), .int (nI σ.1.2.2.1.1), .ref (mo + 20), .ref (mo + 21), .ref (mo + 22), .int (nI σ.1.2.2.2.1), .int 1, .ref (mo + 23), .ref (mo + 24), .ref (mo + 25), .ref (mo + 26), .ref (mo + 33), .ref (mo + 41), .ref (mo + 42), .ref (mo + 43)])) := by rw [eV596, hv_un (by omega)]; exact hV576
  have hV620 : V595 (mo + 23) = some (.inl (X.2.1 0, 3, .inl (upd (upd (upd ct 0 (nI σ.1.2.1.1)) 1 (nI σ.1.2.2.1.1)) 2 (nI σ.1.2.2.2.1)))) := by rw [eV596, hv_un (by omega)]; exact hV577
  have hV621 : V595 (mo + 24) = some (.inl (X.2.1 0, 6, .inl (σ.1.1.1))) := by rw [eV596, hv_un (by omega)]; exact hV578
  have hV622 : V595 (mo + 25) = some (.inl (X.2.1 0, 6, .inl (fun j => nI (σ.1.1.2.1 j)))) := by rw [eV596, hv_un (by omega)]; exact hV579
  have hV623 : V595 (mo + 27 + 0) = some (.inl (X.2.1 0, 16, .inl (σ.1.1.2.2 0))) := by rw [eV596, hv_un (by omega)]; exact hV580
  have hV624 : V595 (mo + 27 + 1) = some (.inl (X.2.1 0, 16, .inl (σ.1.1.2.2 1))) := by rw [eV596, hv_un (by omega)]; exact hV581
  have hV625 : V595 (mo + 27 + 2) = some (.inl (X.2.1 0, 16, .inl (σ.1.1.2.2 2))) := by rw [eV596, hv_un (by omega)]; exact hV582
  have hV626 : V595 (mo + 27 + 3) = some (.inl (X.2.1 0, 16, .inl (σ.1.1.2.2 3))) := by rw [eV596, hv_un (by omega)]; exact hV583
  have hV627 : V595 (mo + 27 + 4) = some (.inl (X.2.1 0, 16, .inl (σ.1.1.2.2 4))) := by rw [eV596, hv_un (by omega)]; exact hV584
  have hV628 : V595 (mo + 27 + 5) = some (.inl (X.2.1 0, 16, .inl (σ.1.1.2.2 5))) := by rw [eV596, hv_un (by omega)]; exact hV585
  have hV629 : V595 (mo + 34 + 0) = some (.inl (X.2.1 0, 8, .inl (va_cpy sf (td 0) 0 0 4))) := by rw [eV596, hv_un (by omega)]; exact hV586
  have hV630 : V595 (mo + 34 + 1) = some (.inl (X.2.1 0, 8, .inl (va_cpy sg9 (td 1) 0 0 4))) := by rw [eV596, hv_un (by omega)]; exact hV587
  have hV631 : V595 (mo + 34 + 2) = some (.inl (X.2.1 0, 8, .inl (va_cpy sh (td 2) 0 0 4))) := by rw [eV596, hv_un (by omega)]; exact hV588
  have hV632 : V595 (mo + 34 + 3) = some (.inl (X.2.1 0, 8, .inl (va_cpy ef (td 3) 0 0 8))) := by rw [eV596]; exact hv_us
  clear hV553 hV554 hV555 hV556 hV557 hV558 hV559 hV560 hV561 hV562 hV563 hV564 hV565 hV566 hV567 hV568 hV569 hV570 hV572 hV573 hV574 hV575 hV576 hV577 hV578 hV579 hV580 hV581 hV582 hV583 hV584 hV585 hV586 hV587 hV588
  refine lv_iinc (v := 3 + 1) (lv' := [(1, .int (3 + 1)), (0, .ref mo)]) C0.1 C0.2.1 dX7_image_128 hl (k := 0) rfl rfl (by decide) rfl (fun ls hl => ?_)
  have hl : lv_has ls 2 [(1, .int 4), (0, .ref mo)] := by rw [show (4 : Int32) = 3 + 1 from by decide]; exact hl
  refine lv_goto (tgt := 100) C0.1 C0.2.1 dX7_image_131 (by decide) ?_
  refine lv_iload_n C0.1 C0.2.1 dX7_image_100 rfl (lv_at hl 0 rfl) ?_
  refine lv_bipush (v := 7) C0.1 C0.2.1 dX7_image_101 (by decide) ?_
  refine lv_icmp_ge (tgt := 134) C0.1 C0.2.1 dX7_image_103 (by decide) (fun h9 => absurd h9 (by decide)) (fun _ => ?_)
  refine lv_aload_n C0.1 C0.2.1 dX7_image_106 rfl (lv_at hl 1 rfl) ?_
  refine lv_iload_n C0.1 C0.2.1 dX7_image_107 rfl (lv_at hl 0 rfl) ?_
  refine hv_cVr C0 w kl_X7_310 kv_X7_toldOf rfl hV619 (c_X7_toldOf4 hV619) (by decide) (by decide) rfl hl.1 rfl (Nat.le_of_ble_eq_true rfl) dX7_image_108 ⟨Nat.le_refl _, Nat.le_refl _⟩ (fun x633 V634 Hq lq hp635 w => ?_)
  obtain ⟨e9, rfl⟩ := hp635
  rw [e9] at w; clear e9
  refine lv_iconst (v := 0) C0.1 C0.2.1 dX7_image_111 (by decide) ?_
  refine lv_aload_n C0.1 C0.2.1 dX7_image_112 rfl (lv_at hl 1 rfl) ?_
  refine gf_X7_75 C0 w hV619 rfl dX7_image_113 ?_
  refine lv_iload_n C0.1 C0.2.1 dX7_image_116 rfl (lv_at hl 0 rfl) ?_
  refine hv_aalA 6 rfl C0 w rfl hV614 (hn_in (n := 4) (by decide) (by decide)) (by rw [show (4 : Int32).toNatClampNeg = 4 by decide]; exact i8 4 (by decide)) dX7_image_117 ?_
  refine lv_iconst (v := 0) C0.1 C0.2.1 dX7_image_118 (by decide) ?_
  refine lv_aload_n C0.1 C0.2.1 dX7_image_119 rfl (lv_at hl 1 rfl) ?_
  refine lv_iload_n C0.1 C0.2.1 dX7_image_120 rfl (lv_at hl 0 rfl) ?_
  refine hv_cVr C0 w kl_X7_310 kv_X7_toldOf rfl hV619 (c_X7_toldOf4 hV619) (by decide) (by decide) rfl hl.1 rfl (Nat.le_of_ble_eq_true rfl) dX7_image_121 ⟨Nat.le_refl _, Nat.le_refl _⟩ (fun x636 V637 Hq lq hp638 w => ?_)
  obtain ⟨e9, rfl⟩ := hp638
  rw [e9] at w; clear e9
  refine hv_alen 0 (v := Int32.ofNat 8) C0 w rfl hV604 rfl dX7_image_124 ?_
  refine hv_copyi C0 w hl.1 kj_X7_148 hV604 hV616 (by decide) (by decide) (by decide) (by decide) (by decide) (by decide) (Nat.le_of_ble_eq_true rfl) dX7_image_125 (fun Hq lq w => ?_)
  rw [show (0 : Int32).toNatClampNeg = 0 by decide, show ((Int32.ofNat 8) : Int32).toNatClampNeg = 8 by decide] at w
  obtain ⟨V639, eV640⟩ : ∃ W9, W9 = hv_up V595 (mo + 34 + 4) (.inl (X.2.1 0, 8, .inl (va_cpy eg (td 4) 0 0 8))) := ⟨_, rfl⟩
  have w : hv_w X s V639 Hq lq := by rw [eV640]; exact w
  have hV641 : V639 (mo + 1) = some (.inl (X.2.1 0, 6, .inl σ.1.1.1)) := by rw [eV640, hv_un (by omega)]; exact hV597
  have hV642 : V639 (mo + 2) = some (.inl (X.2.1 0, 6, .inl (fun j => nI (σ.1.1.2.1 j)))) := by rw [eV640, hv_un (by omega)]; exact hV598
  have hV643 : V639 (mo + 3) = some (.inl (X.2.1 6, 6, .inr (.inr (.inr (.inr rf))))) := by rw [eV640, hv_un (by omega)]; exact hV599
  have hV644 : V639 (mo + 15) = some (.inl (X.2.1 0, 4, .inl sf)) := by rw [eV640, hv_un (by omega)]; exact hV600
  have hV645 : V639 (mo + 16) = some (.inl (X.2.1 0, 4, .inl sg9)) := by rw [eV640, hv_un (by omega)]; exact hV601
  have hV646 : V639 (mo + 17) = some (.inl (X.2.1 0, 4, .inl sh)) := by rw [eV640, hv_un (by omega)]; exact hV602
  have hV647 : V639 (mo + 18) = some (.inl (X.2.1 0, 8, .inl ef)) := by rw [eV640, hv_un (by omega)]; exact hV603
  have hV648 : V639 (mo + 19) = some (.inl (X.2.1 0, 8, .inl eg)) := by rw [eV640, hv_un (by omega)]; exact hV604
  have hV649 : V639 (mo + 21) = some (.inl (X.2.1 0, 8, .inl bf)) := by rw [eV640, hv_un (by omega)]; exact hV605
  have hV650 : V639 (mo + 22) = some (.inl (X.2.1 0, 8, .inl bg)) := by rw [eV640, hv_un (by omega)]; exact hV606
  have hV651 : V639 (mo + 4 + 0) = some (.inl (X.2.1 0, 16, .inl (σ.1.1.2.2 0))) := by rw [eV640, hv_un (by omega)]; exact hV607
  have hV652 : V639 (mo + 4 + 1) = some (.inl (X.2.1 0, 16, .inl (σ.1.1.2.2 1))) := by rw [eV640, hv_un (by omega)]; exact hV608
  have hV653 : V639 (mo + 4 + 2) = some (.inl (X.2.1 0, 16, .inl (σ.1.1.2.2 2))) := by rw [eV640, hv_un (by omega)]; exact hV609
  have hV654 : V639 (mo + 4 + 3) = some (.inl (X.2.1 0, 16, .inl (σ.1.1.2.2 3))) := by rw [eV640, hv_un (by omega)]; exact hV610
  have hV655 : V639 (mo + 4 + 4) = some (.inl (X.2.1 0, 16, .inl (σ.1.1.2.2 4))) := by rw [eV640, hv_un (by omega)]; exact hV611
  have hV656 : V639 (mo + 4 + 5) = some (.inl (X.2.1 0, 16, .inl (σ.1.1.2.2 5))) := by rw [eV640, hv_un (by omega)]; exact hV612
  have hV657 : V639 (mo + 26) = some (.inl (X.2.1 6, 6, .inr (.inr (.inr (.inr nf))))) := by rw [eV640, hv_un (by omega)]; exact hV613
  have hV658 : V639 (mo + 33) = some (.inl (X.2.1 6, 7, .inr (.inr (.inr (.inr tf2))))) := by rw [eV640, hv_un (by omega)]; exact hV614
  have hV660 : V639 (mo + 34 + 5) = some (.inl (X.2.1 0, 8, .inl (td 5))) := by rw [eV640, hv_un (by omega)]; exact hV617
  have hV661 : V639 (mo + 34 + 6) = some (.inl (X.2.1 0, 8, .inl (td 6))) := by rw [eV640, hv_un (by omega)]; exact hV618
  have hV662 : V639 mo = some (.inr (7, [.ref (mo + 1), .ref (mo + 2), .ref (mo + 3), .long ab, .long be, .ref (mo + 10), .int (nI σ.2.2.1.1), .int pl, .int cl, .ref (mo + 11), .ref (mo + 12), .ref (mo + 13), .int sg, .ref (mo + 14), .ref (mo + 15), .ref (mo + 16), .ref (mo + 17), .int (nI σ.1.2.1.1), .ref (mo + 18), .ref (mo + 19), .int (nI σ.1.2.2.1.1), .ref (mo + 20), .ref (mo + 21), .ref (mo + 22), .int (nI σ.1.2.2.2.1), .int 1, .ref (mo + 23), .ref (mo + 24), .ref (mo + 25), .ref (mo + 26), .ref (mo + 33), .ref (mo + 41), .ref (mo + 42), .ref (mo + 43)])) := by rw [eV640, hv_un (by omega)]; exact hV619
  have hV663 : V639 (mo + 23) = some (.inl (X.2.1 0, 3, .inl (upd (upd (upd ct 0 (nI σ.1.2.1.1)) 1 (nI σ.1.2.2.1.1)) 2 (nI σ.1.2.2.2.1)))) := by rw [eV640, hv_un (by omega)]; exact hV620
  have hV664 : V639 (mo + 24) = some (.inl (X.2.1 0, 6, .inl (σ.1.1.1))) := by rw [eV640, hv_un (by omega)]; exact hV621
  have hV665 : V639 (mo + 25) = some (.inl (X.2.1 0, 6, .inl (fun j => nI (σ.1.1.2.1 j)))) := by rw [eV640, hv_un (by omega)]; exact hV622
  have hV666 : V639 (mo + 27 + 0) = some (.inl (X.2.1 0, 16, .inl (σ.1.1.2.2 0))) := by rw [eV640, hv_un (by omega)]; exact hV623
  have hV667 : V639 (mo + 27 + 1) = some (.inl (X.2.1 0, 16, .inl (σ.1.1.2.2 1))) := by rw [eV640, hv_un (by omega)]; exact hV624
  have hV668 : V639 (mo + 27 + 2) = some (.inl (X.2.1 0, 16, .inl (σ.1.1.2.2 2))) := by rw [eV640, hv_un (by omega)]; exact hV625
  have hV669 : V639 (mo + 27 + 3) = some (.inl (X.2.1 0, 16, .inl (σ.1.1.2.2 3))) := by rw [eV640, hv_un (by omega)]; exact hV626
  have hV670 : V639 (mo + 27 + 4) = some (.inl (X.2.1 0, 16, .inl (σ.1.1.2.2 4))) := by rw [eV640, hv_un (by omega)]; exact hV627
  have hV671 : V639 (mo + 27 + 5) = some (.inl (X.2.1 0, 16, .inl (σ.1.1.2.2 5))) := by rw [eV640, hv_un (by omega)]; exact hV628
  have hV672 : V639 (mo + 34 + 0) = some (.inl (X.2.1 0, 8, .inl (va_cpy sf (td 0) 0 0 4))) := by rw [eV640, hv_un (by omega)]; exact hV629
  have hV673 : V639 (mo + 34 + 1) = some (.inl (X.2.1 0, 8, .inl (va_cpy sg9 (td 1) 0 0 4))) := by rw [eV640, hv_un (by omega)]; exact hV630
  have hV674 : V639 (mo + 34 + 2) = some (.inl (X.2.1 0, 8, .inl (va_cpy sh (td 2) 0 0 4))) := by rw [eV640, hv_un (by omega)]; exact hV631
  have hV675 : V639 (mo + 34 + 3) = some (.inl (X.2.1 0, 8, .inl (va_cpy ef (td 3) 0 0 8))) := by rw [eV640, hv_un (by omega)]; exact hV632
  have hV676 : V639 (mo + 34 + 4) = some (.inl (X.2.1 0, 8, .inl (va_cpy eg (td 4) 0 0 8))) := by rw [eV640]; exact hv_us
  clear hV597 hV598 hV599 hV600 hV601 hV602 hV603 hV604 hV605 hV606 hV607 hV608 hV609 hV610 hV611 hV612 hV613 hV614 hV616 hV617 hV618 hV619 hV620 hV621 hV622 hV623 hV624 hV625 hV626 hV627 hV628 hV629 hV630 hV631 hV632
  refine lv_iinc (v := 4 + 1) (lv' := [(1, .int (4 + 1)), (0, .ref mo)]) C0.1 C0.2.1 dX7_image_128 hl (k := 0) rfl rfl (by decide) rfl (fun ls hl => ?_)
  have hl : lv_has ls 2 [(1, .int 5), (0, .ref mo)] := by rw [show (5 : Int32) = 4 + 1 from by decide]; exact hl
  refine lv_goto (tgt := 100) C0.1 C0.2.1 dX7_image_131 (by decide) ?_
  refine lv_iload_n C0.1 C0.2.1 dX7_image_100 rfl (lv_at hl 0 rfl) ?_
  refine lv_bipush (v := 7) C0.1 C0.2.1 dX7_image_101 (by decide) ?_
  refine lv_icmp_ge (tgt := 134) C0.1 C0.2.1 dX7_image_103 (by decide) (fun h9 => absurd h9 (by decide)) (fun _ => ?_)
  refine lv_aload_n C0.1 C0.2.1 dX7_image_106 rfl (lv_at hl 1 rfl) ?_
  refine lv_iload_n C0.1 C0.2.1 dX7_image_107 rfl (lv_at hl 0 rfl) ?_
  refine hv_cVr C0 w kl_X7_310 kv_X7_toldOf rfl hV662 (c_X7_toldOf5 hV662) (by decide) (by decide) rfl hl.1 rfl (Nat.le_of_ble_eq_true rfl) dX7_image_108 ⟨Nat.le_refl _, Nat.le_refl _⟩ (fun x677 V678 Hq lq hp679 w => ?_)
  obtain ⟨e9, rfl⟩ := hp679
  rw [e9] at w; clear e9
  refine lv_iconst (v := 0) C0.1 C0.2.1 dX7_image_111 (by decide) ?_
  refine lv_aload_n C0.1 C0.2.1 dX7_image_112 rfl (lv_at hl 1 rfl) ?_
  refine gf_X7_75 C0 w hV662 rfl dX7_image_113 ?_
  refine lv_iload_n C0.1 C0.2.1 dX7_image_116 rfl (lv_at hl 0 rfl) ?_
  refine hv_aalA 6 rfl C0 w rfl hV658 (hn_in (n := 5) (by decide) (by decide)) (by rw [show (5 : Int32).toNatClampNeg = 5 by decide]; exact i8 5 (by decide)) dX7_image_117 ?_
  refine lv_iconst (v := 0) C0.1 C0.2.1 dX7_image_118 (by decide) ?_
  refine lv_aload_n C0.1 C0.2.1 dX7_image_119 rfl (lv_at hl 1 rfl) ?_
  refine lv_iload_n C0.1 C0.2.1 dX7_image_120 rfl (lv_at hl 0 rfl) ?_
  refine hv_cVr C0 w kl_X7_310 kv_X7_toldOf rfl hV662 (c_X7_toldOf5 hV662) (by decide) (by decide) rfl hl.1 rfl (Nat.le_of_ble_eq_true rfl) dX7_image_121 ⟨Nat.le_refl _, Nat.le_refl _⟩ (fun x680 V681 Hq lq hp682 w => ?_)
  obtain ⟨e9, rfl⟩ := hp682
  rw [e9] at w; clear e9
  refine hv_alen 0 (v := Int32.ofNat 8) C0 w rfl hV649 rfl dX7_image_124 ?_
  refine hv_copyi C0 w hl.1 kj_X7_148 hV649 hV660 (by decide) (by decide) (by decide) (by decide) (by decide) (by decide) (Nat.le_of_ble_eq_true rfl) dX7_image_125 (fun Hq lq w => ?_)
  rw [show (0 : Int32).toNatClampNeg = 0 by decide, show ((Int32.ofNat 8) : Int32).toNatClampNeg = 8 by decide] at w
  obtain ⟨V683, eV684⟩ : ∃ W9, W9 = hv_up V639 (mo + 34 + 5) (.inl (X.2.1 0, 8, .inl (va_cpy bf (td 5) 0 0 8))) := ⟨_, rfl⟩
  have w : hv_w X s V683 Hq lq := by rw [eV684]; exact w
  have hV685 : V683 (mo + 1) = some (.inl (X.2.1 0, 6, .inl σ.1.1.1)) := by rw [eV684, hv_un (by omega)]; exact hV641
  have hV686 : V683 (mo + 2) = some (.inl (X.2.1 0, 6, .inl (fun j => nI (σ.1.1.2.1 j)))) := by rw [eV684, hv_un (by omega)]; exact hV642
  have hV687 : V683 (mo + 3) = some (.inl (X.2.1 6, 6, .inr (.inr (.inr (.inr rf))))) := by rw [eV684, hv_un (by omega)]; exact hV643
  have hV688 : V683 (mo + 15) = some (.inl (X.2.1 0, 4, .inl sf)) := by rw [eV684, hv_un (by omega)]; exact hV644
  have hV689 : V683 (mo + 16) = some (.inl (X.2.1 0, 4, .inl sg9)) := by rw [eV684, hv_un (by omega)]; exact hV645
  have hV690 : V683 (mo + 17) = some (.inl (X.2.1 0, 4, .inl sh)) := by rw [eV684, hv_un (by omega)]; exact hV646
  have hV691 : V683 (mo + 18) = some (.inl (X.2.1 0, 8, .inl ef)) := by rw [eV684, hv_un (by omega)]; exact hV647
  have hV692 : V683 (mo + 19) = some (.inl (X.2.1 0, 8, .inl eg)) := by rw [eV684, hv_un (by omega)]; exact hV648
  have hV693 : V683 (mo + 21) = some (.inl (X.2.1 0, 8, .inl bf)) := by rw [eV684, hv_un (by omega)]; exact hV649
  have hV694 : V683 (mo + 22) = some (.inl (X.2.1 0, 8, .inl bg)) := by rw [eV684, hv_un (by omega)]; exact hV650
  have hV695 : V683 (mo + 4 + 0) = some (.inl (X.2.1 0, 16, .inl (σ.1.1.2.2 0))) := by rw [eV684, hv_un (by omega)]; exact hV651
  have hV696 : V683 (mo + 4 + 1) = some (.inl (X.2.1 0, 16, .inl (σ.1.1.2.2 1))) := by rw [eV684, hv_un (by omega)]; exact hV652
  have hV697 : V683 (mo + 4 + 2) = some (.inl (X.2.1 0, 16, .inl (σ.1.1.2.2 2))) := by rw [eV684, hv_un (by omega)]; exact hV653
  have hV698 : V683 (mo + 4 + 3) = some (.inl (X.2.1 0, 16, .inl (σ.1.1.2.2 3))) := by rw [eV684, hv_un (by omega)]; exact hV654
  have hV699 : V683 (mo + 4 + 4) = some (.inl (X.2.1 0, 16, .inl (σ.1.1.2.2 4))) := by rw [eV684, hv_un (by omega)]; exact hV655
  have hV700 : V683 (mo + 4 + 5) = some (.inl (X.2.1 0, 16, .inl (σ.1.1.2.2 5))) := by rw [eV684, hv_un (by omega)]; exact hV656
  have hV701 : V683 (mo + 26) = some (.inl (X.2.1 6, 6, .inr (.inr (.inr (.inr nf))))) := by rw [eV684, hv_un (by omega)]; exact hV657
  have hV702 : V683 (mo + 33) = some (.inl (X.2.1 6, 7, .inr (.inr (.inr (.inr tf2))))) := by rw [eV684, hv_un (by omega)]; exact hV658
  have hV704 : V683 (mo + 34 + 6) = some (.inl (X.2.1 0, 8, .inl (td 6))) := by rw [eV684, hv_un (by omega)]; exact hV661
  have hV705 : V683 mo = some (.inr (7, [.ref (mo + 1), .ref (mo + 2), .ref (mo + 3), .long ab, .long be, .ref (mo + 10), .int (nI σ.2.2.1.1), .int pl, .int cl, .ref (mo + 11), .ref (mo + 12), .ref (mo + 13), .int sg, .ref (mo + 14), .ref (mo + 15), .ref (mo + 16), .ref (mo + 17), .int (nI σ.1.2.1.1), .ref (mo + 18), .ref (mo + 19), .int (nI σ.1.2.2.1.1), .ref (mo + 20), .ref (mo + 21), .ref (mo + 22), .int (nI σ.1.2.2.2.1), .int 1, .ref (mo + 23), .ref (mo + 24), .ref (mo + 25), .ref (mo + 26), .ref (mo + 33), .ref (mo + 41), .ref (mo + 42), .ref (mo + 43)])) := by rw [eV684, hv_un (by omega)]; exact hV662
  have hV706 : V683 (mo + 23) = some (.inl (X.2.1 0, 3, .inl (upd (upd (upd ct 0 (nI σ.1.2.1.1)) 1 (nI σ.1.2.2.1.1)) 2 (nI σ.1.2.2.2.1)))) := by rw [eV684, hv_un (by omega)]; exact hV663
  have hV707 : V683 (mo + 24) = some (.inl (X.2.1 0, 6, .inl (σ.1.1.1))) := by rw [eV684, hv_un (by omega)]; exact hV664
  have hV708 : V683 (mo + 25) = some (.inl (X.2.1 0, 6, .inl (fun j => nI (σ.1.1.2.1 j)))) := by rw [eV684, hv_un (by omega)]; exact hV665
  have hV709 : V683 (mo + 27 + 0) = some (.inl (X.2.1 0, 16, .inl (σ.1.1.2.2 0))) := by rw [eV684, hv_un (by omega)]; exact hV666
  have hV710 : V683 (mo + 27 + 1) = some (.inl (X.2.1 0, 16, .inl (σ.1.1.2.2 1))) := by rw [eV684, hv_un (by omega)]; exact hV667
  have hV711 : V683 (mo + 27 + 2) = some (.inl (X.2.1 0, 16, .inl (σ.1.1.2.2 2))) := by rw [eV684, hv_un (by omega)]; exact hV668
  have hV712 : V683 (mo + 27 + 3) = some (.inl (X.2.1 0, 16, .inl (σ.1.1.2.2 3))) := by rw [eV684, hv_un (by omega)]; exact hV669
  have hV713 : V683 (mo + 27 + 4) = some (.inl (X.2.1 0, 16, .inl (σ.1.1.2.2 4))) := by rw [eV684, hv_un (by omega)]; exact hV670
  have hV714 : V683 (mo + 27 + 5) = some (.inl (X.2.1 0, 16, .inl (σ.1.1.2.2 5))) := by rw [eV684, hv_un (by omega)]; exact hV671
  have hV715 : V683 (mo + 34 + 0) = some (.inl (X.2.1 0, 8, .inl (va_cpy sf (td 0) 0 0 4))) := by rw [eV684, hv_un (by omega)]; exact hV672
  have hV716 : V683 (mo + 34 + 1) = some (.inl (X.2.1 0, 8, .inl (va_cpy sg9 (td 1) 0 0 4))) := by rw [eV684, hv_un (by omega)]; exact hV673
  have hV717 : V683 (mo + 34 + 2) = some (.inl (X.2.1 0, 8, .inl (va_cpy sh (td 2) 0 0 4))) := by rw [eV684, hv_un (by omega)]; exact hV674
  have hV718 : V683 (mo + 34 + 3) = some (.inl (X.2.1 0, 8, .inl (va_cpy ef (td 3) 0 0 8))) := by rw [eV684, hv_un (by omega)]; exact hV675
  have hV719 : V683 (mo + 34 + 4) = some (.inl (X.2.1 0, 8, .inl (va_cpy eg (td 4) 0 0 8))) := by rw [eV684, hv_un (by omega)]; exact hV676
  have hV720 : V683 (mo + 34 + 5) = some (.inl (X.2.1 0, 8, .inl (va_cpy bf (td 5) 0 0 8))) := by rw [eV684]; exact hv_us
  clear hV641 hV642 hV643 hV644 hV645 hV646 hV647 hV648 hV649 hV650 hV651 hV652 hV653 hV654 hV655 hV656 hV657 hV658 hV660 hV661 hV662 hV663 hV664 hV665 hV666 hV667 hV668 hV669 hV670 hV671 hV672 hV673 hV674 hV675 hV676
  refine lv_iinc (v := 5 + 1) (lv' := [(1, .int (5 + 1)), (0, .ref mo)]) C0.1 C0.2.1 dX7_image_128 hl (k := 0) rfl rfl (by decide) rfl (fun ls hl => ?_)
  have hl : lv_has ls 2 [(1, .int 6), (0, .ref mo)] := by rw [show (6 : Int32) = 5 + 1 from by decide]; exact hl
  refine lv_goto (tgt := 100) C0.1 C0.2.1 dX7_image_131 (by decide) ?_
  refine lv_iload_n C0.1 C0.2.1 dX7_image_100 rfl (lv_at hl 0 rfl) ?_
  refine lv_bipush (v := 7) C0.1 C0.2.1 dX7_image_101 (by decide) ?_
  refine lv_icmp_ge (tgt := 134) C0.1 C0.2.1 dX7_image_103 (by decide) (fun h9 => absurd h9 (by decide)) (fun _ => ?_)
  refine lv_aload_n C0.1 C0.2.1 dX7_image_106 rfl (lv_at hl 1 rfl) ?_
  refine lv_iload_n C0.1 C0.2.1 dX7_image_107 rfl (lv_at hl 0 rfl) ?_
  refine hv_cVr C0 w kl_X7_310 kv_X7_toldOf rfl hV705 (c_X7_toldOf6 hV705) (by decide) (by decide) rfl hl.1 rfl (Nat.le_of_ble_eq_true rfl) dX7_image_108 ⟨Nat.le_refl _, Nat.le_refl _⟩ (fun x721 V722 Hq lq hp723 w => ?_)
  obtain ⟨e9, rfl⟩ := hp723
  rw [e9] at w; clear e9
  refine lv_iconst (v := 0) C0.1 C0.2.1 dX7_image_111 (by decide) ?_
  refine lv_aload_n C0.1 C0.2.1 dX7_image_112 rfl (lv_at hl 1 rfl) ?_
  refine gf_X7_75 C0 w hV705 rfl dX7_image_113 ?_
  refine lv_iload_n C0.1 C0.2.1 dX7_image_116 rfl (lv_at hl 0 rfl) ?_
  refine hv_aalA 6 rfl C0 w rfl hV702 (hn_in (n := 6) (by decide) (by decide)) (by rw [show (6 : Int32).toNatClampNeg = 6 by decide]; exact i8 6 (by decide)) dX7_image_117 ?_
  refine lv_iconst (v := 0) C0.1 C0.2.1 dX7_image_118 (by decide) ?_
  refine lv_aload_n C0.1 C0.2.1 dX7_image_119 rfl (lv_at hl 1 rfl) ?_
  refine lv_iload_n C0.1 C0.2.1 dX7_image_120 rfl (lv_at hl 0 rfl) ?_
  refine hv_cVr C0 w kl_X7_310 kv_X7_toldOf rfl hV705 (c_X7_toldOf6 hV705) (by decide) (by decide) rfl hl.1 rfl (Nat.le_of_ble_eq_true rfl) dX7_image_121 ⟨Nat.le_refl _, Nat.le_refl _⟩ (fun x724 V725 Hq lq hp726 w => ?_)
  obtain ⟨e9, rfl⟩ := hp726
  rw [e9] at w; clear e9
  refine hv_alen 0 (v := Int32.ofNat 8) C0 w rfl hV694 rfl dX7_image_124 ?_
  refine hv_copyi C0 w hl.1 kj_X7_148 hV694 hV704 (by decide) (by decide) (by decide) (by decide) (by decide) (by decide) (Nat.le_of_ble_eq_true rfl) dX7_image_125 (fun Hq lq w => ?_)
  rw [show (0 : Int32).toNatClampNeg = 0 by decide, show ((Int32.ofNat 8) : Int32).toNatClampNeg = 8 by decide] at w
  obtain ⟨V727, eV728⟩ : ∃ W9, W9 = hv_up V683 (mo + 34 + 6) (.inl (X.2.1 0, 8, .inl (va_cpy bg (td 6) 0 0 8))) := ⟨_, rfl⟩
  have w : hv_w X s V727 Hq lq := by rw [eV728]; exact w
  have hV729 : V727 (mo + 1) = some (.inl (X.2.1 0, 6, .inl σ.1.1.1)) := by rw [eV728, hv_un (by omega)]; exact hV685
  have hV730 : V727 (mo + 2) = some (.inl (X.2.1 0, 6, .inl (fun j => nI (σ.1.1.2.1 j)))) := by rw [eV728, hv_un (by omega)]; exact hV686
  have hV731 : V727 (mo + 3) = some (.inl (X.2.1 6, 6, .inr (.inr (.inr (.inr rf))))) := by rw [eV728, hv_un (by omega)]; exact hV687
  have hV732 : V727 (mo + 15) = some (.inl (X.2.1 0, 4, .inl sf)) := by rw [eV728, hv_un (by omega)]; exact hV688
  have hV733 : V727 (mo + 16) = some (.inl (X.2.1 0, 4, .inl sg9)) := by rw [eV728, hv_un (by omega)]; exact hV689
  have hV734 : V727 (mo + 17) = some (.inl (X.2.1 0, 4, .inl sh)) := by rw [eV728, hv_un (by omega)]; exact hV690
  have hV735 : V727 (mo + 18) = some (.inl (X.2.1 0, 8, .inl ef)) := by rw [eV728, hv_un (by omega)]; exact hV691
  have hV736 : V727 (mo + 19) = some (.inl (X.2.1 0, 8, .inl eg)) := by rw [eV728, hv_un (by omega)]; exact hV692
  have hV737 : V727 (mo + 21) = some (.inl (X.2.1 0, 8, .inl bf)) := by rw [eV728, hv_un (by omega)]; exact hV693
  have hV738 : V727 (mo + 22) = some (.inl (X.2.1 0, 8, .inl bg)) := by rw [eV728, hv_un (by omega)]; exact hV694
  have hV739 : V727 (mo + 4 + 0) = some (.inl (X.2.1 0, 16, .inl (σ.1.1.2.2 0))) := by rw [eV728, hv_un (by omega)]; exact hV695
  have hV740 : V727 (mo + 4 + 1) = some (.inl (X.2.1 0, 16, .inl (σ.1.1.2.2 1))) := by rw [eV728, hv_un (by omega)]; exact hV696
  have hV741 : V727 (mo + 4 + 2) = some (.inl (X.2.1 0, 16, .inl (σ.1.1.2.2 2))) := by rw [eV728, hv_un (by omega)]; exact hV697
  have hV742 : V727 (mo + 4 + 3) = some (.inl (X.2.1 0, 16, .inl (σ.1.1.2.2 3))) := by rw [eV728, hv_un (by omega)]; exact hV698
  have hV743 : V727 (mo + 4 + 4) = some (.inl (X.2.1 0, 16, .inl (σ.1.1.2.2 4))) := by rw [eV728, hv_un (by omega)]; exact hV699
  have hV744 : V727 (mo + 4 + 5) = some (.inl (X.2.1 0, 16, .inl (σ.1.1.2.2 5))) := by rw [eV728, hv_un (by omega)]; exact hV700
  have hV745 : V727 (mo + 26) = some (.inl (X.2.1 6, 6, .inr (.inr (.inr (.inr nf))))) := by rw [eV728, hv_un (by omega)]; exact hV701
  have hV746 : V727 (mo + 33) = some (.inl (X.2.1 6, 7, .inr (.inr (.inr (.inr tf2))))) := by rw [eV728, hv_un (by omega)]; exact hV702
  have hV748 : V727 mo = some (.inr (7, [.ref (mo + 1), .ref (mo + 2), .ref (mo + 3), .long ab, .long be, .ref (mo + 10), .int (nI σ.2.2.1.1), .int pl, .int cl, .ref (mo + 11), .ref (mo + 12), .ref (mo + 13), .int sg, .ref (mo + 14), .ref (mo + 15), .ref (mo + 16), .ref (mo + 17), .int (nI σ.1.2.1.1), .ref (mo + 18), .ref (mo + 19), .int (nI σ.1.2.2.1.1), .ref (mo + 20), .ref (mo + 21), .ref (mo + 22), .int (nI σ.1.2.2.2.1), .int 1, .ref (mo + 23), .ref (mo + 24), .ref (mo + 25), .ref (mo + 26), .ref (mo + 33), .ref (mo + 41), .ref (mo + 42), .ref (mo + 43)])) := by rw [eV728, hv_un (by omega)]; exact hV705
  have hV749 : V727 (mo + 23) = some (.inl (X.2.1 0, 3, .inl (upd (upd (upd ct 0 (nI σ.1.2.1.1)) 1 (nI σ.1.2.2.1.1)) 2 (nI σ.1.2.2.2.1)))) := by rw [eV728, hv_un (by omega)]; exact hV706
  have hV750 : V727 (mo + 24) = some (.inl (X.2.1 0, 6, .inl (σ.1.1.1))) := by rw [eV728, hv_un (by omega)]; exact hV707
  have hV751 : V727 (mo + 25) = some (.inl (X.2.1 0, 6, .inl (fun j => nI (σ.1.1.2.1 j)))) := by rw [eV728, hv_un (by omega)]; exact hV708
  have hV752 : V727 (mo + 27 + 0) = some (.inl (X.2.1 0, 16, .inl (σ.1.1.2.2 0))) := by rw [eV728, hv_un (by omega)]; exact hV709
  have hV753 : V727 (mo + 27 + 1) = some (.inl (X.2.1 0, 16, .inl (σ.1.1.2.2 1))) := by rw [eV728, hv_un (by omega)]; exact hV710
  have hV754 : V727 (mo + 27 + 2) = some (.inl (X.2.1 0, 16, .inl (σ.1.1.2.2 2))) := by rw [eV728, hv_un (by omega)]; exact hV711
  have hV755 : V727 (mo + 27 + 3) = some (.inl (X.2.1 0, 16, .inl (σ.1.1.2.2 3))) := by rw [eV728, hv_un (by omega)]; exact hV712
  have hV756 : V727 (mo + 27 + 4) = some (.inl (X.2.1 0, 16, .inl (σ.1.1.2.2 4))) := by rw [eV728, hv_un (by omega)]; exact hV713
  have hV757 : V727 (mo + 27 + 5) = some (.inl (X.2.1 0, 16, .inl (σ.1.1.2.2 5))) := by rw [eV728, hv_un (by omega)]; exact hV714
  have hV758 : V727 (mo + 34 + 0) = some (.inl (X.2.1 0, 8, .inl (va_cpy sf (td 0) 0 0 4))) := by rw [eV728, hv_un (by omega)]; exact hV715
  have hV759 : V727 (mo + 34 + 1) = some (.inl (X.2.1 0, 8, .inl (va_cpy sg9 (td 1) 0 0 4))) := by rw [eV728, hv_un (by omega)]; exact hV716
  have hV760 : V727 (mo + 34 + 2) = some (.inl (X.2.1 0, 8, .inl (va_cpy sh (td 2) 0 0 4))) := by rw [eV728, hv_un (by omega)]; exact hV717
  have hV761 : V727 (mo + 34 + 3) = some (.inl (X.2.1 0, 8, .inl (va_cpy ef (td 3) 0 0 8))) := by rw [eV728, hv_un (by omega)]; exact hV718
  have hV762 : V727 (mo + 34 + 4) = some (.inl (X.2.1 0, 8, .inl (va_cpy eg (td 4) 0 0 8))) := by rw [eV728, hv_un (by omega)]; exact hV719
  have hV763 : V727 (mo + 34 + 5) = some (.inl (X.2.1 0, 8, .inl (va_cpy bf (td 5) 0 0 8))) := by rw [eV728, hv_un (by omega)]; exact hV720
  have hV764 : V727 (mo + 34 + 6) = some (.inl (X.2.1 0, 8, .inl (va_cpy bg (td 6) 0 0 8))) := by rw [eV728]; exact hv_us
  clear hV685 hV686 hV687 hV688 hV689 hV690 hV691 hV692 hV693 hV694 hV695 hV696 hV697 hV698 hV699 hV700 hV701 hV702 hV704 hV705 hV706 hV707 hV708 hV709 hV710 hV711 hV712 hV713 hV714 hV715 hV716 hV717 hV718 hV719 hV720
  refine lv_iinc (v := 6 + 1) (lv' := [(1, .int (6 + 1)), (0, .ref mo)]) C0.1 C0.2.1 dX7_image_128 hl (k := 0) rfl rfl (by decide) rfl (fun ls hl => ?_)
  have hl : lv_has ls 2 [(1, .int 7), (0, .ref mo)] := by rw [show (7 : Int32) = 6 + 1 from by decide]; exact hl
  refine lv_goto (tgt := 100) C0.1 C0.2.1 dX7_image_131 (by decide) ?_
  refine lv_iload_n C0.1 C0.2.1 dX7_image_100 rfl (lv_at hl 0 rfl) ?_
  refine lv_bipush (v := 7) C0.1 C0.2.1 dX7_image_101 (by decide) ?_
  refine lv_icmp_ge (tgt := 134) C0.1 C0.2.1 dX7_image_103 (by decide) (fun _ => ?_) (fun h9 => absurd h9 (by decide))
  refine lv_aload_n C0.1 C0.2.1 dX7_image_134 rfl (lv_at hl 1 rfl) ?_
  refine hv_cVi C0 w kl_X7_314 kv_X7_together rfl hV748 (c_X7_together (P := σ.1) hV748 hV730) (by decide) (by decide) rfl hl.1 rfl (Nat.le_of_ble_eq_true rfl) dX7_image_135 ⟨Nat.le_refl _, Nat.le_refl _⟩ (fun x765 V766 Hq lq hp767 w => ?_)
  obtain ⟨e9, e8x⟩ := hp767
  rw [e9] at w; rw [e8x]; clear e9 e8x
  exact hv_iret C0 w hr hlk (⟨rfl, ⟨ab, be, pl, cl, sg, 1, (by rw [eV728, hv_un (by omega), eV684, hv_un (by omega), eV640, hv_un (by omega), eV596, hv_un (by omega), eV552, hv_un (by omega), eV508, hv_un (by omega), eV464, hv_un (by omega), eV420, hv_un (by omega), eV382, hv_un (by omega), eV344, hv_un (by omega), eV306, hv_un (by omega), eV268, hv_un (by omega), eV230, hv_un (by omega), eV192, hv_un (by omega), eV154, hv_un (by omega), eV116, hv_un (by omega), eV78, hv_un (by omega), eV40, hv_un (by omega), eV2]; exact hv_us), hRw.fr (fun q h7 h8 => by rw [eV728, hv_un (by omega), eV684, hv_un (by omega), eV640, hv_un (by omega), eV596, hv_un (by omega), eV552, hv_un (by omega), eV508, hv_un (by omega), eV464, hv_un (by omega), eV420, hv_un (by omega), eV382, hv_un (by omega), eV344, hv_un (by omega), eV306, hv_un (by omega), eV268, hv_un (by omega), eV230, hv_un (by omega), eV192, hv_un (by omega), eV154, hv_un (by omega), eV116, hv_un (by omega), eV78, hv_un (by omega), eV40, hv_un (by omega), eV2, hv_un (by omega)]), (by rw [eV728, hv_un (by omega), eV684, hv_un (by omega), eV640, hv_un (by omega), eV596, hv_un (by omega), eV552, hv_un (by omega), eV508, hv_un (by omega), eV464, hv_un (by omega), eV420, hv_un (by omega), eV382, hv_un (by omega), eV344, hv_un (by omega), eV306, hv_un (by omega), eV268, hv_un (by omega), eV230, hv_un (by omega), eV192, hv_un (by omega), eV154, hv_un (by omega), eV116, hv_un (by omega), eV78, hv_un (by omega), eV40, hv_un (by omega), eV2, hv_un (by omega)] : _ = V (mo + 10)).trans hTx, hSc.fr (fun q h7 h8 => by rw [eV728, hv_un (by omega), eV684, hv_un (by omega), eV640, hv_un (by omega), eV596, hv_un (by omega), eV552, hv_un (by omega), eV508, hv_un (by omega), eV464, hv_un (by omega), eV420, hv_un (by omega), eV382, hv_un (by omega), eV344, hv_un (by omega), eV306, hv_un (by omega), eV268, hv_un (by omega), eV230, hv_un (by omega), eV192, hv_un (by omega), eV154, hv_un (by omega), eV116, hv_un (by omega), eV78, hv_un (by omega), eV40, hv_un (by omega), eV2, hv_un (by omega)]) (fun q h7 h8 => by rw [eV728, hv_un (by omega), eV684, hv_un (by omega), eV640, hv_un (by omega), eV596, hv_un (by omega), eV552, hv_un (by omega), eV508, hv_un (by omega), eV464, hv_un (by omega), eV420, hv_un (by omega), eV382, hv_un (by omega), eV344, hv_un (by omega), eV306, hv_un (by omega), eV268, hv_un (by omega), eV230, hv_un (by omega), eV192, hv_un (by omega), eV154, hv_un (by omega), eV116, hv_un (by omega), eV78, hv_un (by omega), eV40, hv_un (by omega), eV2, hv_un (by omega)]), hSe.fr (fun q h7 h8 => by rw [eV728, hv_un (by omega), eV684, hv_un (by omega), eV640, hv_un (by omega), eV596, hv_un (by omega), eV552, hv_un (by omega), eV508, hv_un (by omega), eV464, hv_un (by omega), eV420, hv_un (by omega), eV382, hv_un (by omega), eV344, hv_un (by omega), eV306, hv_un (by omega), eV268, hv_un (by omega), eV230, hv_un (by omega), eV192, hv_un (by omega), eV154, hv_un (by omega), eV116, hv_un (by omega), eV78, hv_un (by omega), eV40, hv_un (by omega), eV2, hv_un (by omega)]), hEv.fr (by rw [eV728, hv_un (by omega), eV684, hv_un (by omega), eV640, hv_un (by omega), eV596, hv_un (by omega), eV552, hv_un (by omega), eV508, hv_un (by omega), eV464, hv_un (by omega), eV420, hv_un (by omega), eV382, hv_un (by omega), eV344, hv_un (by omega), eV306, hv_un (by omega), eV268, hv_un (by omega), eV230, hv_un (by omega), eV192, hv_un (by omega), eV154, hv_un (by omega), eV116, hv_un (by omega), eV78, hv_un (by omega), eV40, hv_un (by omega), eV2, hv_un (by omega)]) (by rw [eV728, hv_un (by omega), eV684, hv_un (by omega), eV640, hv_un (by omega), eV596, hv_un (by omega), eV552, hv_un (by omega), eV508, hv_un (by omega), eV464, hv_un (by omega), eV420, hv_un (by omega), eV382, hv_un (by omega), eV344, hv_un (by omega), eV306, hv_un (by omega), eV268, hv_un (by omega), eV230, hv_un (by omega), eV192, hv_un (by omega), eV154, hv_un (by omega), eV116, hv_un (by omega), eV78, hv_un (by omega), eV40, hv_un (by omega), eV2, hv_un (by omega)]), hBk.fr (by rw [eV728, hv_un (by omega), eV684, hv_un (by omega), eV640, hv_un (by omega), eV596, hv_un (by omega), eV552, hv_un (by omega), eV508, hv_un (by omega), eV464, hv_un (by omega), eV420, hv_un (by omega), eV382, hv_un (by omega), eV344, hv_un (by omega), eV306, hv_un (by omega), eV268, hv_un (by omega), eV230, hv_un (by omega), eV192, hv_un (by omega), eV154, hv_un (by omega), eV116, hv_un (by omega), eV78, hv_un (by omega), eV40, hv_un (by omega), eV2, hv_un (by omega)]) (by rw [eV728, hv_un (by omega), eV684, hv_un (by omega), eV640, hv_un (by omega), eV596, hv_un (by omega), eV552, hv_un (by omega), eV508, hv_un (by omega), eV464, hv_un (by omega), eV420, hv_un (by omega), eV382, hv_un (by omega), eV344, hv_un (by omega), eV306, hv_un (by omega), eV268, hv_un (by omega), eV230, hv_un (by omega), eV192, hv_un (by omega), eV154, hv_un (by omega), eV116, hv_un (by omega), eV78, hv_un (by omega), eV40, hv_un (by omega), eV2, hv_un (by omega)]), ⟨(upd (upd (upd ct 0 (nI σ.1.2.1.1)) 1 (nI σ.1.2.2.1.1)) 2 (nI σ.1.2.2.2.1)), (σ.1.1.1), (fun j => nI (σ.1.1.2.1 j)), nf, tf2, σ.1.1.2.2, (fun k => match k with | 0 => (va_cpy sf (td 0) 0 0 4) | 1 => (va_cpy sg9 (td 1) 0 0 4) | 2 => (va_cpy sh (td 2) 0 0 4) | 3 => (va_cpy ef (td 3) 0 0 8) | 4 => (va_cpy eg (td 4) 0 0 8) | 5 => (va_cpy bf (td 5) 0 0 8) | _ => (va_cpy bg (td 6) 0 0 8)), hV749, hV750, hV751, ⟨hV745, i5⟩, (fun j hj => match j, hj with | 0, _ => hV752 | 1, _ => hV753 | 2, _ => hV754 | 3, _ => hV755 | 4, _ => hV756 | 5, _ => hV757 | j + 6, hj => absurd hj (by omega)), ⟨hV746, i8⟩, (fun j hj => match j, hj with | 0, _ => hV758 | 1, _ => hV759 | 2, _ => hV760 | 3, _ => hV761 | 4, _ => hV762 | 5, _ => hV763 | 6, _ => hV764 | j + 7, hj => absurd hj (by omega)), rfl, ⟨rfl, rfl, rfl⟩, fun j hj => ⟨rfl, rfl, rfl⟩, fun j hj => ⟨(im_cp (by omega)).trans (ea j hj).1, (im_cp (by omega)).trans (ea j hj).2.1, (im_cp (by omega)).trans (ea j hj).2.2⟩, fun j hj => ⟨(im_cp (by omega)).trans (va j hj).1, (im_cp (by omega)).trans (va j hj).2⟩, fun j hj => ⟨(im_cp (by omega)).trans (ba j hj).1, (im_cp (by omega)).trans (ba j hj).2⟩⟩, hTp.fr (fun q h7 h8 => by rw [eV728, hv_un (by omega), eV684, hv_un (by omega), eV640, hv_un (by omega), eV596, hv_un (by omega), eV552, hv_un (by omega), eV508, hv_un (by omega), eV464, hv_un (by omega), eV420, hv_un (by omega), eV382, hv_un (by omega), eV344, hv_un (by omega), eV306, hv_un (by omega), eV268, hv_un (by omega), eV230, hv_un (by omega), eV192, hv_un (by omega), eV154, hv_un (by omega), eV116, hv_un (by omega), eV78, hv_un (by omega), eV40, hv_un (by omega), eV2, hv_un (by omega)])⟩, (fun q h7 => by rw [eV728, hv_un (by omega), eV684, hv_un (by omega), eV640, hv_un (by omega), eV596, hv_un (by omega), eV552, hv_un (by omega), eV508, hv_un (by omega), eV464, hv_un (by omega), eV420, hv_un (by omega), eV382, hv_un (by omega), eV344, hv_un (by omega), eV306, hv_un (by omega), eV268, hv_un (by omega), eV230, hv_un (by omega), eV192, hv_un (by omega), eV154, hv_un (by omega), eV116, hv_un (by omega), eV78, hv_un (by omega), eV40, hv_un (by omega), eV2, hv_un (by omega)])⟩) dX7_image_138

