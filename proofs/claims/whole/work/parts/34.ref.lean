set_option maxHeartbeats 4000000 in
set_option maxRecDepth 100000 in
theorem m_X7_copies {l : Launch} {X : hv_X} {V : hv_V} {mo : Nat} {σ : hs_S} (hM : okM X V mo σ) (hB : hs_b σ) {r f : Int32} : hv_Mi l X 220 yX7_copies cX7_copies 3 .int V [.ref mo, .int r, .int f] (fun y V1 => y = (sp_copies σ r f).1 ∧ okM X V1 mo (sp_copies σ r f).2 ∧ hv_out V V1 mo (mo + 50)) := by
  refine hv_enter (by decide) (Nat.le_of_ble_eq_true rfl) ?_
  intro p e s m below meth c ls C0 hr hlk hnm w hl
  have hl : lv_has ls 3 [(0, .ref mo), (1, .int r), (2, .int f)] := hl
  obtain ⟨ab, be, pl, cl, sg, ik, hO, hRw, hTx, hSc, hSe, hEv, hBk, hIm, hTp⟩ := id hM
  obtain ⟨r1, r2, ⟨rf, r3, r4⟩, r5⟩ := id hRw
  obtain ⟨⟨wd, s1⟩, ⟨td, s2⟩, ⟨sn, s3⟩, ⟨ut, s4⟩, kn, s5⟩ := id hSc
  obtain ⟨sf, sg9, sh, e1, e2, e3, ea⟩ := id hSe
  obtain ⟨ef, eg, v1, v2, va⟩ := id hEv
  obtain ⟨bf, bg, b1, b2, ba⟩ := id hBk
  obtain ⟨t1, t2, ⟨tf, t3, t4⟩, t5⟩ := id hTp
  have hbR := hB.1.1
  refine lv_iload_n C0.1 C0.2.1 dX7_copies_0 rfl (lv_at hl 1 rfl) ?_
  refine hv_cSi (As := [.int r]) C0 w kl_X7_135 ks_X7_isRow (c_X7_isRow) (by decide) (by decide) rfl hl.1 rfl (Nat.le_of_ble_eq_true rfl) dX7_copies_1 ⟨Nat.le_refl _, Nat.le_refl _⟩ (fun x1 V2 Hq lq hp3 w => ?_)
  obtain ⟨e9, hz9⟩ := hp3
  rw [e9] at w; clear e9
  rcases hz9 with ⟨rfl, hb4⟩ | ⟨rfl, hb4⟩
  · skip
    have ihb4 := hb4
    obtain ⟨j1, hj1, rfl⟩ := sp_inN (k := 5) (by decide) hb4
    have kj1 : (nI j1).toNatClampNeg = j1 := nI_clamp (by omega)
    have hN_j1 : V (mo + 4 + j1) = some (nE X (σ.1.1.2.2 j1)) := r5 j1 hj1
    have hn_j1 : σ.1.1.2.1 j1 ≤ 16 := (hbR j1 hj1).2.1
    refine lv_if_eq (tgt := 14) C0.1 C0.2.1 dX7_copies_4 (by decide) (fun h9 => absurd h9 (by decide)) (fun _ => ?_)
    refine lv_iload_n C0.1 C0.2.1 dX7_copies_7 rfl (lv_at hl 2 rfl) ?_
    refine hv_cSi (As := [.int f]) C0 w kl_X7_135 ks_X7_isRow (c_X7_isRow) (by decide) (by decide) rfl hl.1 rfl (Nat.le_of_ble_eq_true rfl) dX7_copies_8 ⟨Nat.le_refl _, Nat.le_refl _⟩ (fun x5 V6 Hq lq hp7 w => ?_)
    obtain ⟨e9, hz9⟩ := hp7
    rw [e9] at w; clear e9
    rcases hz9 with ⟨rfl, hb8⟩ | ⟨rfl, hb8⟩
    · skip
      have ihb8 := hb8
      obtain ⟨j2, hj2, rfl⟩ := sp_inN (k := 5) (by decide) hb8
      have kj2 : (nI j2).toNatClampNeg = j2 := nI_clamp (by omega)
      have hN_j2 : V (mo + 4 + j2) = some (nE X (σ.1.1.2.2 j2)) := r5 j2 hj2
      have hn_j2 : σ.1.1.2.1 j2 ≤ 16 := (hbR j2 hj2).2.1
      refine lv_if_ne (tgt := 16) C0.1 C0.2.1 dX7_copies_11 (by decide) (fun _ => ?_) (fun h9 => absurd h9 (by decide))
      by_cases hjj : j1 = j2
      · subst hjj
        refine lv_aload_n C0.1 C0.2.1 dX7_copies_16 rfl (lv_at hl 0 rfl) ?_
        refine gf_X7_11 C0 w hO rfl dX7_copies_17 ?_
        refine lv_iload_n C0.1 C0.2.1 dX7_copies_20 rfl (lv_at hl 1 rfl) ?_
        refine lv_aload_n C0.1 C0.2.1 dX7_copies_21 rfl (lv_at hl 0 rfl) ?_
        refine gf_X7_11 C0 w hO rfl dX7_copies_22 ?_
        refine lv_iload_n C0.1 C0.2.1 dX7_copies_25 rfl (lv_at hl 2 rfl) ?_
        refine hv_iald C0 w r1 (hn_in (by omega) (by decide)) dX7_copies_26 ?_
        have hc9 : (nI j1).toNatClampNeg = j1 := nI_clamp (by omega)
        rw [hc9]
        refine hv_iast C0 w r1 (hn_in hj1 (by decide)) dX7_copies_27 (fun Hq lq w => ?_)
        have hc10 : (nI j1).toNatClampNeg = j1 := nI_clamp (by omega)
        rw [hc10] at w
        obtain ⟨V11, eV12⟩ : ∃ V9, V9 = hv_up V (mo + 1) (.inl (X.2.1 0, 6, .inl (upd (σ.1.1.1) j1 ((σ.1.1.1) j1)))) := ⟨_, rfl⟩
        have w : hv_w X s V11 Hq lq := by rw [eV12]; exact w
        have hV13 : V11 mo = some (.inr (7, [.ref (mo + 1), .ref (mo + 2), .ref (mo + 3), .long ab, .long be, .ref (mo + 10), .int (nI σ.2.2.1.1), .int pl, .int cl, .ref (mo + 11), .ref (mo + 12), .ref (mo + 13), .int sg, .ref (mo + 14), .ref (mo + 15), .ref (mo + 16), .ref (mo + 17), .int (nI σ.1.2.1.1), .ref (mo + 18), .ref (mo + 19), .int (nI σ.1.2.2.1.1), .ref (mo + 20), .ref (mo + 21), .ref (mo + 22), .int (nI σ.1.2.2.2.1), .int ik, .ref (mo + 23), .ref (mo + 24), .ref (mo + 25), .ref (mo + 26), .ref (mo + 33), .ref (mo + 41), .ref (mo + 42), .ref (mo + 43)])) := by rw [eV12, hv_un (by omega)]; exact hO
        have hV15 : V11 (mo + 2) = some (.inl (X.2.1 0, 6, .inl (fun j => nI (σ.1.1.2.1 j)))) := by rw [eV12, hv_un (by omega)]; exact r2
        have hV16 : V11 (mo + 3) = some (.inl (X.2.1 6, 6, .inr (.inr (.inr (.inr rf))))) := by rw [eV12, hv_un (by omega)]; exact r3
        have hV17 : V11 (mo + 10) = some (.inl (X.2.1 2, 100, .inl σ.2.2.1.2)) := by rw [eV12, hv_un (by omega)]; exact hTx
        have hV18 : V11 (mo + 11) = some (.inl (X.2.1 0, 12, .inl wd)) := by rw [eV12, hv_un (by omega)]; exact s1
        have hV19 : V11 (mo + 12) = some (.inl (X.2.1 0, 48, .inl td)) := by rw [eV12, hv_un (by omega)]; exact s2
        have hV20 : V11 (mo + 13) = some (.inl (X.2.1 2, 178, .inl sn)) := by rw [eV12, hv_un (by omega)]; exact s3
        have hV21 : V11 (mo + 14) = some (.inl (X.2.1 0, 3, .inl ut)) := by rw [eV12, hv_un (by omega)]; exact s4
        have hV22 : V11 (mo + 20) = some (.inl (X.2.1 0, 16, .inl kn)) := by rw [eV12, hv_un (by omega)]; exact s5
        have hV23 : V11 (mo + 15) = some (.inl (X.2.1 0, 4, .inl sf)) := by rw [eV12, hv_un (by omega)]; exact e1
        have hV24 : V11 (mo + 16) = some (.inl (X.2.1 0, 4, .inl sg9)) := by rw [eV12, hv_un (by omega)]; exact e2
        have hV25 : V11 (mo + 17) = some (.inl (X.2.1 0, 4, .inl sh)) := by rw [eV12, hv_un (by omega)]; exact e3
        have hV26 : V11 (mo + 18) = some (.inl (X.2.1 0, 8, .inl ef)) := by rw [eV12, hv_un (by omega)]; exact v1
        have hV27 : V11 (mo + 19) = some (.inl (X.2.1 0, 8, .inl eg)) := by rw [eV12, hv_un (by omega)]; exact v2
        have hV28 : V11 (mo + 21) = some (.inl (X.2.1 0, 8, .inl bf)) := by rw [eV12, hv_un (by omega)]; exact b1
        have hV29 : V11 (mo + 22) = some (.inl (X.2.1 0, 8, .inl bg)) := by rw [eV12, hv_un (by omega)]; exact b2
        have hV30 : V11 (mo + 41) = some (.inl (X.2.1 0, 6, .inl σ.2.2.2.1)) := by rw [eV12, hv_un (by omega)]; exact t1
        have hV31 : V11 (mo + 42) = some (.inl (X.2.1 0, 6, .inl (fun j => nI (σ.2.2.2.2.1 j)))) := by rw [eV12, hv_un (by omega)]; exact t2
        have hV32 : V11 (mo + 43) = some (.inl (X.2.1 7, 6, .inr (.inr (.inr (.inr tf))))) := by rw [eV12, hv_un (by omega)]; exact t3
        have hV33 : V11 (mo + 4 + j1) = some (.inl (X.2.1 0, 16, .inl (σ.1.1.2.2 j1))) := by rw [eV12, hv_un (by omega)]; exact hN_j1
        have hV34 : V11 (mo + 1) = some (.inl (X.2.1 0, 6, .inl (upd (σ.1.1.1) j1 ((σ.1.1.1) j1)))) := by rw [eV12]; exact hv_us
        refine lv_aload_n C0.1 C0.2.1 dX7_copies_28 rfl (lv_at hl 0 rfl) ?_
        refine gf_X7_15 C0 w hV13 rfl dX7_copies_29 ?_
        refine lv_iload_n C0.1 C0.2.1 dX7_copies_32 rfl (lv_at hl 1 rfl) ?_
        refine lv_aload_n C0.1 C0.2.1 dX7_copies_33 rfl (lv_at hl 0 rfl) ?_
        refine gf_X7_15 C0 w hV13 rfl dX7_copies_34 ?_
        refine lv_iload_n C0.1 C0.2.1 dX7_copies_37 rfl (lv_at hl 2 rfl) ?_
        refine hv_iald C0 w hV15 (hn_in (by omega) (by decide)) dX7_copies_38 ?_
        have hc35 : (nI j1).toNatClampNeg = j1 := nI_clamp (by omega)
        rw [hc35]
        refine hv_iast C0 w hV15 (hn_in hj1 (by decide)) dX7_copies_39 (fun Hq lq w => ?_)
        have hc36 : (nI j1).toNatClampNeg = j1 := nI_clamp (by omega)
        rw [hc36] at w
        obtain ⟨V37, eV38⟩ : ∃ V9, V9 = hv_up V11 (mo + 2) (.inl (X.2.1 0, 6, .inl (upd (fun j => nI (σ.1.1.2.1 j)) j1 (nI (σ.1.1.2.1 j1))))) := ⟨_, rfl⟩
        have w : hv_w X s V37 Hq lq := by rw [eV38]; exact w
        have hV39 : V37 mo = some (.inr (7, [.ref (mo + 1), .ref (mo + 2), .ref (mo + 3), .long ab, .long be, .ref (mo + 10), .int (nI σ.2.2.1.1), .int pl, .int cl, .ref (mo + 11), .ref (mo + 12), .ref (mo + 13), .int sg, .ref (mo + 14), .ref (mo + 15), .ref (mo + 16), .ref (mo + 17), .int (nI σ.1.2.1.1), .ref (mo + 18), .ref (mo + 19), .int (nI σ.1.2.2.1.1), .ref (mo + 20), .ref (mo + 21), .ref (mo + 22), .int (nI σ.1.2.2.2.1), .int ik, .ref (mo + 23), .ref (mo + 24), .ref (mo + 25), .ref (mo + 26), .ref (mo + 33), .ref (mo + 41), .ref (mo + 42), .ref (mo + 43)])) := by rw [eV38, hv_un (by omega)]; exact hV13
        have hV41 : V37 (mo + 3) = some (.inl (X.2.1 6, 6, .inr (.inr (.inr (.inr rf))))) := by rw [eV38, hv_un (by omega)]; exact hV16
        have hV42 : V37 (mo + 10) = some (.inl (X.2.1 2, 100, .inl σ.2.2.1.2)) := by rw [eV38, hv_un (by omega)]; exact hV17
        have hV43 : V37 (mo + 11) = some (.inl (X.2.1 0, 12, .inl wd)) := by rw [eV38, hv_un (by omega)]; exact hV18
        have hV44 : V37 (mo + 12) = some (.inl (X.2.1 0, 48, .inl td)) := by rw [eV38, hv_un (by omega)]; exact hV19
        have hV45 : V37 (mo + 13) = some (.inl (X.2.1 2, 178, .inl sn)) := by rw [eV38, hv_un (by omega)]; exact hV20
        have hV46 : V37 (mo + 14) = some (.inl (X.2.1 0, 3, .inl ut)) := by rw [eV38, hv_un (by omega)]; exact hV21
        have hV47 : V37 (mo + 20) = some (.inl (X.2.1 0, 16, .inl kn)) := by rw [eV38, hv_un (by omega)]; exact hV22
        have hV48 : V37 (mo + 15) = some (.inl (X.2.1 0, 4, .inl sf)) := by rw [eV38, hv_un (by omega)]; exact hV23
        have hV49 : V37 (mo + 16) = some (.inl (X.2.1 0, 4, .inl sg9)) := by rw [eV38, hv_un (by omega)]; exact hV24
        have hV50 : V37 (mo + 17) = some (.inl (X.2.1 0, 4, .inl sh)) := by rw [eV38, hv_un (by omega)]; exact hV25
        have hV51 : V37 (mo + 18) = some (.inl (X.2.1 0, 8, .inl ef)) := by rw [eV38, hv_un (by omega)]; exact hV26
        have hV52 : V37 (mo + 19) = some (.inl (X.2.1 0, 8, .inl eg)) := by rw [eV38, hv_un (by omega)]; exact hV27
        have hV53 : V37 (mo + 21) = some (.inl (X.2.1 0, 8, .inl bf)) := by rw [eV38, hv_un (by omega)]; exact hV28
        have hV54 : V37 (mo + 22) = some (.inl (X.2.1 0, 8, .inl bg)) := by rw [eV38, hv_un (by omega)]; exact hV29
        have hV55 : V37 (mo + 41) = some (.inl (X.2.1 0, 6, .inl σ.2.2.2.1)) := by rw [eV38, hv_un (by omega)]; exact hV30
        have hV56 : V37 (mo + 42) = some (.inl (X.2.1 0, 6, .inl (fun j => nI (σ.2.2.2.2.1 j)))) := by rw [eV38, hv_un (by omega)]; exact hV31
        have hV57 : V37 (mo + 43) = some (.inl (X.2.1 7, 6, .inr (.inr (.inr (.inr tf))))) := by rw [eV38, hv_un (by omega)]; exact hV32
        have hV58 : V37 (mo + 4 + j1) = some (.inl (X.2.1 0, 16, .inl (σ.1.1.2.2 j1))) := by rw [eV38, hv_un (by omega)]; exact hV33
        have hV59 : V37 (mo + 1) = some (.inl (X.2.1 0, 6, .inl (upd (σ.1.1.1) j1 ((σ.1.1.1) j1)))) := by rw [eV38, hv_un (by omega)]; exact hV34
        have hV60 : V37 (mo + 2) = some (.inl (X.2.1 0, 6, .inl (upd (fun j => nI (σ.1.1.2.1 j)) j1 (nI (σ.1.1.2.1 j1))))) := by rw [eV38]; exact hv_us
        refine lv_aload_n C0.1 C0.2.1 dX7_copies_40 rfl (lv_at hl 0 rfl) ?_
        refine gf_X7_20 C0 w hV39 rfl dX7_copies_41 ?_
        refine lv_iload_n C0.1 C0.2.1 dX7_copies_44 rfl (lv_at hl 2 rfl) ?_
        refine hv_aalA 6 rfl C0 w rfl hV41 (hn_in hj1 (by decide)) (by rw [kj1]; exact r4 j1 hj1) dX7_copies_45 ?_
        refine lv_iconst (v := 0) C0.1 C0.2.1 dX7_copies_46 (by decide) ?_
        refine lv_aload_n C0.1 C0.2.1 dX7_copies_47 rfl (lv_at hl 0 rfl) ?_
        refine gf_X7_20 C0 w hV39 rfl dX7_copies_48 ?_
        refine lv_iload_n C0.1 C0.2.1 dX7_copies_51 rfl (lv_at hl 1 rfl) ?_
        refine hv_aalA 6 rfl C0 w rfl hV41 (hn_in hj1 (by decide)) (by rw [kj1]; exact r4 j1 hj1) dX7_copies_52 ?_
        refine lv_iconst (v := 0) C0.1 C0.2.1 dX7_copies_53 (by decide) ?_
        refine lv_bipush (v := 16) C0.1 C0.2.1 dX7_copies_54 (by decide) ?_
        refine hv_copyi C0 w hl.1 kj_X7_148 hV58 hV58 (by decide) (by decide) (by decide) (by decide) (by decide) (by decide) (Nat.le_of_ble_eq_true rfl) dX7_copies_56 (fun Hq lq w => ?_)
        have w := hv_w.as (a := mo + 4 + j1) (n := 16) (f := va_cpy (σ.1.1.2.2 j1) (σ.1.1.2.2 j1) 0 0 16) (g := (σ.1.1.2.2 j1)) w hv_us (fun i9 hi9 => by simp [va_cpy, hi9])
        rw [hv_uu] at w
        obtain ⟨V61, eV62⟩ : ∃ V9, V9 = hv_up V37 (mo + 4 + j1) (.inl (X.2.1 0, 16, .inl (σ.1.1.2.2 j1))) := ⟨_, rfl⟩
        have w : hv_w X s V61 Hq lq := by rw [eV62]; exact w
        have hV63 : V61 mo = some (.inr (7, [.ref (mo + 1), .ref (mo + 2), .ref (mo + 3), .long ab, .long be, .ref (mo + 10), .int (nI σ.2.2.1.1), .int pl, .int cl, .ref (mo + 11), .ref (mo + 12), .ref (mo + 13), .int sg, .ref (mo + 14), .ref (mo + 15), .ref (mo + 16), .ref (mo + 17), .int (nI σ.1.2.1.1), .ref (mo + 18), .ref (mo + 19), .int (nI σ.1.2.2.1.1), .ref (mo + 20), .ref (mo + 21), .ref (mo + 22), .int (nI σ.1.2.2.2.1), .int ik, .ref (mo + 23), .ref (mo + 24), .ref (mo + 25), .ref (mo + 26), .ref (mo + 33), .ref (mo + 41), .ref (mo + 42), .ref (mo + 43)])) := by rw [eV62, hv_un (by omega)]; exact hV39
        have hV64 : V61 (mo + 3) = some (.inl (X.2.1 6, 6, .inr (.inr (.inr (.inr rf))))) := by rw [eV62, hv_un (by omega)]; exact hV41
        have hV65 : V61 (mo + 10) = some (.inl (X.2.1 2, 100, .inl σ.2.2.1.2)) := by rw [eV62, hv_un (by omega)]; exact hV42
        have hV66 : V61 (mo + 11) = some (.inl (X.2.1 0, 12, .inl wd)) := by rw [eV62, hv_un (by omega)]; exact hV43
        have hV67 : V61 (mo + 12) = some (.inl (X.2.1 0, 48, .inl td)) := by rw [eV62, hv_un (by omega)]; exact hV44
        have hV68 : V61 (mo + 13) = some (.inl (X.2.1 2, 178, .inl sn)) := by rw [eV62, hv_un (by omega)]; exact hV45
        have hV69 : V61 (mo + 14) = some (.inl (X.2.1 0, 3, .inl ut)) := by rw [eV62, hv_un (by omega)]; exact hV46
        have hV70 : V61 (mo + 20) = some (.inl (X.2.1 0, 16, .inl kn)) := by rw [eV62, hv_un (by omega)]; exact hV47
        have hV71 : V61 (mo + 15) = some (.inl (X.2.1 0, 4, .inl sf)) := by rw [eV62, hv_un (by omega)]; exact hV48
        have hV72 : V61 (mo + 16) = some (.inl (X.2.1 0, 4, .inl sg9)) := by rw [eV62, hv_un (by omega)]; exact hV49
        have hV73 : V61 (mo + 17) = some (.inl (X.2.1 0, 4, .inl sh)) := by rw [eV62, hv_un (by omega)]; exact hV50
        have hV74 : V61 (mo + 18) = some (.inl (X.2.1 0, 8, .inl ef)) := by rw [eV62, hv_un (by omega)]; exact hV51
        have hV75 : V61 (mo + 19) = some (.inl (X.2.1 0, 8, .inl eg)) := by rw [eV62, hv_un (by omega)]; exact hV52
        have hV76 : V61 (mo + 21) = some (.inl (X.2.1 0, 8, .inl bf)) := by rw [eV62, hv_un (by omega)]; exact hV53
        have hV77 : V61 (mo + 22) = some (.inl (X.2.1 0, 8, .inl bg)) := by rw [eV62, hv_un (by omega)]; exact hV54
        have hV78 : V61 (mo + 41) = some (.inl (X.2.1 0, 6, .inl σ.2.2.2.1)) := by rw [eV62, hv_un (by omega)]; exact hV55
        have hV79 : V61 (mo + 42) = some (.inl (X.2.1 0, 6, .inl (fun j => nI (σ.2.2.2.2.1 j)))) := by rw [eV62, hv_un (by omega)]; exact hV56
        have hV80 : V61 (mo + 43) = some (.inl (X.2.1 7, 6, .inr (.inr (.inr (.inr tf))))) := by rw [eV62, hv_un (by omega)]; exact hV57
        have hV82 : V61 (mo + 1) = some (.inl (X.2.1 0, 6, .inl (upd (σ.1.1.1) j1 ((σ.1.1.1) j1)))) := by rw [eV62, hv_un (by omega)]; exact hV59
        have hV83 : V61 (mo + 2) = some (.inl (X.2.1 0, 6, .inl (upd (fun j => nI (σ.1.1.2.1 j)) j1 (nI (σ.1.1.2.1 j1))))) := by rw [eV62, hv_un (by omega)]; exact hV60
        have hV84 : V61 (mo + 4 + j1) = some (.inl (X.2.1 0, 16, .inl (σ.1.1.2.2 j1))) := by rw [eV62]; exact hv_us
        refine lv_aload_n C0.1 C0.2.1 dX7_copies_59 rfl (lv_at hl 0 rfl) ?_
        refine gf_X7_15 C0 w hV63 rfl dX7_copies_60 ?_
        refine lv_iload_n C0.1 C0.2.1 dX7_copies_63 rfl (lv_at hl 1 rfl) ?_
        refine hv_iald C0 w hV83 (hn_in hj1 (by decide)) dX7_copies_64 ?_
        have hc85 : (nI j1).toNatClampNeg = j1 := nI_clamp (by omega)
        rw [hc85]
        rw [hs_uself]
        exact hv_iret C0 w hr hlk (by rw [sp_copies, if_pos ⟨ihb4, ihb8⟩, kj1]; exact ⟨rfl, ⟨ab, be, pl, cl, sg, ik, ((by rw [eV62, hv_un (by omega), eV38, hv_un (by omega), eV12, hv_un (by omega)] : _ = V mo).trans hO), hRw.set hj1 (by rw [eV62, hv_un (by omega), eV38, hv_un (by omega), eV12]; exact hv_us) (by rw [eV62, hv_un (by omega), eV38]; exact hv_us) (by rw [eV62]; exact hv_us) (by rw [eV62, hv_un (by omega), eV38, hv_un (by omega), eV12, hv_un (by omega)]) (fun i9 hi9 hne9 => by rw [eV62, hv_un (by omega), eV38, hv_un (by omega), eV12, hv_un (by omega)]), (by rw [eV62, hv_un (by omega), eV38, hv_un (by omega), eV12, hv_un (by omega)] : _ = V (mo + 10)).trans hTx, hSc.fr (fun q h7 h8 => by rw [eV62, hv_un (by omega), eV38, hv_un (by omega), eV12, hv_un (by omega)]) (fun q h7 h8 => by rw [eV62, hv_un (by omega), eV38, hv_un (by omega), eV12, hv_un (by omega)]), hSe.fr (fun q h7 h8 => by rw [eV62, hv_un (by omega), eV38, hv_un (by omega), eV12, hv_un (by omega)]), hEv.fr (by rw [eV62, hv_un (by omega), eV38, hv_un (by omega), eV12, hv_un (by omega)]) (by rw [eV62, hv_un (by omega), eV38, hv_un (by omega), eV12, hv_un (by omega)]), hBk.fr (by rw [eV62, hv_un (by omega), eV38, hv_un (by omega), eV12, hv_un (by omega)]) (by rw [eV62, hv_un (by omega), eV38, hv_un (by omega), eV12, hv_un (by omega)]), hIm.fr (fun q h7 h8 => by rw [eV62, hv_un (by omega), eV38, hv_un (by omega), eV12, hv_un (by omega)]), hTp.fr (fun q h7 h8 => by rw [eV62, hv_un (by omega), eV38, hv_un (by omega), eV12, hv_un (by omega)])⟩, (fun q h7 => by rw [eV62, hv_un (by omega), eV38, hv_un (by omega), eV12, hv_un (by omega)])⟩) dX7_copies_65
      · skip
        refine lv_aload_n C0.1 C0.2.1 dX7_copies_16 rfl (lv_at hl 0 rfl) ?_
        refine gf_X7_11 C0 w hO rfl dX7_copies_17 ?_
        refine lv_iload_n C0.1 C0.2.1 dX7_copies_20 rfl (lv_at hl 1 rfl) ?_
        refine lv_aload_n C0.1 C0.2.1 dX7_copies_21 rfl (lv_at hl 0 rfl) ?_
        refine gf_X7_11 C0 w hO rfl dX7_copies_22 ?_
        refine lv_iload_n C0.1 C0.2.1 dX7_copies_25 rfl (lv_at hl 2 rfl) ?_
        refine hv_iald C0 w r1 (hn_in (by omega) (by decide)) dX7_copies_26 ?_
        have hc86 : (nI j2).toNatClampNeg = j2 := nI_clamp (by omega)
        rw [hc86]
        refine hv_iast C0 w r1 (hn_in hj1 (by decide)) dX7_copies_27 (fun Hq lq w => ?_)
        have hc87 : (nI j1).toNatClampNeg = j1 := nI_clamp (by omega)
        rw [hc87] at w
        obtain ⟨V88, eV89⟩ : ∃ V9, V9 = hv_up V (mo + 1) (.inl (X.2.1 0, 6, .inl (upd (σ.1.1.1) j1 ((σ.1.1.1) j2)))) := ⟨_, rfl⟩
        have w : hv_w X s V88 Hq lq := by rw [eV89]; exact w
        have hV90 : V88 mo = some (.inr (7, [.ref (mo + 1), .ref (mo + 2), .ref (mo + 3), .long ab, .long be, .ref (mo + 10), .int (nI σ.2.2.1.1), .int pl, .int cl, .ref (mo + 11), .ref (mo + 12), .ref (mo + 13), .int sg, .ref (mo + 14), .ref (mo + 15), .ref (mo + 16), .ref (mo + 17), .int (nI σ.1.2.1.1), .ref (mo + 18), .ref (mo + 19), .int (nI σ.1.2.2.1.1), .ref (mo + 20), .ref (mo + 21), .ref (mo + 22), .int (nI σ.1.2.2.2.1), .int ik, .ref (mo + 23), .ref (mo + 24), .ref (mo + 25), .ref (mo + 26), .ref (mo + 33), .ref (mo + 41), .ref (mo + 42), .ref (mo + 43)])) := by rw [eV89, hv_un (by omega)]; exact hO
        have hV92 : V88 (mo + 2) = some (.inl (X.2.1 0, 6, .inl (fun j => nI (σ.1.1.2.1 j)))) := by rw [eV89, hv_un (by omega)]; exact r2
        have hV93 : V88 (mo + 3) = some (.inl (X.2.1 6, 6, .inr (.inr (.inr (.inr rf))))) := by rw [eV89, hv_un (by omega)]; exact r3
        have hV94 : V88 (mo + 10) = some (.inl (X.2.1 2, 100, .inl σ.2.2.1.2)) := by rw [eV89, hv_un (by omega)]; exact hTx
        have hV95 : V88 (mo + 11) = some (.inl (X.2.1 0, 12, .inl wd)) := by rw [eV89, hv_un (by omega)]; exact s1
        have hV96 : V88 (mo + 12) = some (.inl (X.2.1 0, 48, .inl td)) := by rw [eV89, hv_un (by omega)]; exact s2
        have hV97 : V88 (mo + 13) = some (.inl (X.2.1 2, 178, .inl sn)) := by rw [eV89, hv_un (by omega)]; exact s3
        have hV98 : V88 (mo + 14) = some (.inl (X.2.1 0, 3, .inl ut)) := by rw [eV89, hv_un (by omega)]; exact s4
        have hV99 : V88 (mo + 20) = some (.inl (X.2.1 0, 16, .inl kn)) := by rw [eV89, hv_un (by omega)]; exact s5
        have hV100 : V88 (mo + 15) = some (.inl (X.2.1 0, 4, .inl sf)) := by rw [eV89, hv_un (by omega)]; exact e1
        have hV101 : V88 (mo + 16) = some (.inl (X.2.1 0, 4, .inl sg9)) := by rw [eV89, hv_un (by omega)]; exact e2
        have hV102 : V88 (mo + 17) = some (.inl (X.2.1 0, 4, .inl sh)) := by rw [eV89, hv_un (by omega)]; exact e3
        have hV103 : V88 (mo + 18) = some (.inl (X.2.1 0, 8, .inl ef)) := by rw [eV89, hv_un (by omega)]; exact v1
        have hV104 : V88 (mo + 19) = some (.inl (X.2.1 0, 8, .inl eg)) := by rw [eV89, hv_un (by omega)]; exact v2
        have hV105 : V88 (mo + 21) = some (.inl (X.2.1 0, 8, .inl bf)) := by rw [eV89, hv_un (by omega)]; exact b1
        have hV106 : V88 (mo + 22) = some (.inl (X.2.1 0, 8, .inl bg)) := by rw [eV89, hv_un (by omega)]; exact b2
        have hV107 : V88 (mo + 41) = some (.inl (X.2.1 0, 6, .inl σ.2.2.2.1)) := by rw [eV89, hv_un (by omega)]; exact t1
        have hV108 : V88 (mo + 42) = some (.inl (X.2.1 0, 6, .inl (fun j => nI (σ.2.2.2.2.1 j)))) := by rw [eV89, hv_un (by omega)]; exact t2
        have hV109 : V88 (mo + 43) = some (.inl (X.2.1 7, 6, .inr (.inr (.inr (.inr tf))))) := by rw [eV89, hv_un (by omega)]; exact t3
        have hV110 : V88 (mo + 4 + j1) = some (.inl (X.2.1 0, 16, .inl (σ.1.1.2.2 j1))) := by rw [eV89, hv_un (by omega)]; exact hN_j1
        have hV111 : V88 (mo + 4 + j2) = some (.inl (X.2.1 0, 16, .inl (σ.1.1.2.2 j2))) := by rw [eV89, hv_un (by omega)]; exact hN_j2
        have hV112 : V88 (mo + 1) = some (.inl (X.2.1 0, 6, .inl (upd (σ.1.1.1) j1 ((σ.1.1.1) j2)))) := by rw [eV89]; exact hv_us
        refine lv_aload_n C0.1 C0.2.1 dX7_copies_28 rfl (lv_at hl 0 rfl) ?_
        refine gf_X7_15 C0 w hV90 rfl dX7_copies_29 ?_
        refine lv_iload_n C0.1 C0.2.1 dX7_copies_32 rfl (lv_at hl 1 rfl) ?_
        refine lv_aload_n C0.1 C0.2.1 dX7_copies_33 rfl (lv_at hl 0 rfl) ?_
        refine gf_X7_15 C0 w hV90 rfl dX7_copies_34 ?_
        refine lv_iload_n C0.1 C0.2.1 dX7_copies_37 rfl (lv_at hl 2 rfl) ?_
        refine hv_iald C0 w hV92 (hn_in (by omega) (by decide)) dX7_copies_38 ?_
        have hc113 : (nI j2).toNatClampNeg = j2 := nI_clamp (by omega)
        rw [hc113]
        refine hv_iast C0 w hV92 (hn_in hj1 (by decide)) dX7_copies_39 (fun Hq lq w => ?_)
        have hc114 : (nI j1).toNatClampNeg = j1 := nI_clamp (by omega)
        rw [hc114] at w
        obtain ⟨V115, eV116⟩ : ∃ V9, V9 = hv_up V88 (mo + 2) (.inl (X.2.1 0, 6, .inl (upd (fun j => nI (σ.1.1.2.1 j)) j1 (nI (σ.1.1.2.1 j2))))) := ⟨_, rfl⟩
        have w : hv_w X s V115 Hq lq := by rw [eV116]; exact w
        have hV117 : V115 mo = some (.inr (7, [.ref (mo + 1), .ref (mo + 2), .ref (mo + 3), .long ab, .long be, .ref (mo + 10), .int (nI σ.2.2.1.1), .int pl, .int cl, .ref (mo + 11), .ref (mo + 12), .ref (mo + 13), .int sg, .ref (mo + 14), .ref (mo + 15), .ref (mo + 16), .ref (mo + 17), .int (nI σ.1.2.1.1), .ref (mo + 18), .ref (mo + 19), .int (nI σ.1.2.2.1.1), .ref (mo + 20), .ref (mo + 21), .ref (mo + 22), .int (nI σ.1.2.2.2.1), .int ik, .ref (mo + 23), .ref (mo + 24), .ref (mo + 25), .ref (mo + 26), .ref (mo + 33), .ref (mo + 41), .ref (mo + 42), .ref (mo + 43)])) := by rw [eV116, hv_un (by omega)]; exact hV90
        have hV119 : V115 (mo + 3) = some (.inl (X.2.1 6, 6, .inr (.inr (.inr (.inr rf))))) := by rw [eV116, hv_un (by omega)]; exact hV93
        have hV120 : V115 (mo + 10) = some (.inl (X.2.1 2, 100, .inl σ.2.2.1.2)) := by rw [eV116, hv_un (by omega)]; exact hV94
        have hV121 : V115 (mo + 11) = some (.inl (X.2.1 0, 12, .inl wd)) := by rw [eV116, hv_un (by omega)]; exact hV95
        have hV122 : V115 (mo + 12) = some (.inl (X.2.1 0, 48, .inl td)) := by rw [eV116, hv_un (by omega)]; exact hV96
        have hV123 : V115 (mo + 13) = some (.inl (X.2.1 2, 178, .inl sn)) := by rw [eV116, hv_un (by omega)]; exact hV97
        have hV124 : V115 (mo + 14) = some (.inl (X.2.1 0, 3, .inl ut)) := by rw [eV116, hv_un (by omega)]; exact hV98
        have hV125 : V115 (mo + 20) = some (.inl (X.2.1 0, 16, .inl kn)) := by rw [eV116, hv_un (by omega)]; exact hV99
        have hV126 : V115 (mo + 15) = some (.inl (X.2.1 0, 4, .inl sf)) := by rw [eV116, hv_un (by omega)]; exact hV100
        have hV127 : V115 (mo + 16) = some (.inl (X.2.1 0, 4, .inl sg9)) := by rw [eV116, hv_un (by omega)]; exact hV101
        have hV128 : V115 (mo + 17) = some (.inl (X.2.1 0, 4, .inl sh)) := by rw [eV116, hv_un (by omega)]; exact hV102
        have hV129 : V115 (mo + 18) = some (.inl (X.2.1 0, 8, .inl ef)) := by rw [eV116, hv_un (by omega)]; exact hV103
        have hV130 : V115 (mo + 19) = some (.inl (X.2.1 0, 8, .inl eg)) := by rw [eV116, hv_un (by omega)]; exact hV104
        have hV131 : V115 (mo + 21) = some (.inl (X.2.1 0, 8, .inl bf)) := by rw [eV116, hv_un (by omega)]; exact hV105
        have hV132 : V115 (mo + 22) = some (.inl (X.2.1 0, 8, .inl bg)) := by rw [eV116, hv_un (by omega)]; exact hV106
        have hV133 : V115 (mo + 41) = some (.inl (X.2.1 0, 6, .inl σ.2.2.2.1)) := by rw [eV116, hv_un (by omega)]; exact hV107
        have hV134 : V115 (mo + 42) = some (.inl (X.2.1 0, 6, .inl (fun j => nI (σ.2.2.2.2.1 j)))) := by rw [eV116, hv_un (by omega)]; exact hV108
        have hV135 : V115 (mo + 43) = some (.inl (X.2.1 7, 6, .inr (.inr (.inr (.inr tf))))) := by rw [eV116, hv_un (by omega)]; exact hV109
        have hV136 : V115 (mo + 4 + j1) = some (.inl (X.2.1 0, 16, .inl (σ.1.1.2.2 j1))) := by rw [eV116, hv_un (by omega)]; exact hV110
        have hV137 : V115 (mo + 4 + j2) = some (.inl (X.2.1 0, 16, .inl (σ.1.1.2.2 j2))) := by rw [eV116, hv_un (by omega)]; exact hV111
        have hV138 : V115 (mo + 1) = some (.inl (X.2.1 0, 6, .inl (upd (σ.1.1.1) j1 ((σ.1.1.1) j2)))) := by rw [eV116, hv_un (by omega)]; exact hV112
        have hV139 : V115 (mo + 2) = some (.inl (X.2.1 0, 6, .inl (upd (fun j => nI (σ.1.1.2.1 j)) j1 (nI (σ.1.1.2.1 j2))))) := by rw [eV116]; exact hv_us
        refine lv_aload_n C0.1 C0.2.1 dX7_copies_40 rfl (lv_at hl 0 rfl) ?_
        refine gf_X7_20 C0 w hV117 rfl dX7_copies_41 ?_
        refine lv_iload_n C0.1 C0.2.1 dX7_copies_44 rfl (lv_at hl 2 rfl) ?_
        refine hv_aalA 6 rfl C0 w rfl hV119 (hn_in hj2 (by decide)) (by rw [kj2]; exact r4 j2 hj2) dX7_copies_45 ?_
        refine lv_iconst (v := 0) C0.1 C0.2.1 dX7_copies_46 (by decide) ?_
        refine lv_aload_n C0.1 C0.2.1 dX7_copies_47 rfl (lv_at hl 0 rfl) ?_
        refine gf_X7_20 C0 w hV117 rfl dX7_copies_48 ?_
        refine lv_iload_n C0.1 C0.2.1 dX7_copies_51 rfl (lv_at hl 1 rfl) ?_
        refine hv_aalA 6 rfl C0 w rfl hV119 (hn_in hj1 (by decide)) (by rw [kj1]; exact r4 j1 hj1) dX7_copies_52 ?_
        refine lv_iconst (v := 0) C0.1 C0.2.1 dX7_copies_53 (by decide) ?_
        refine lv_bipush (v := 16) C0.1 C0.2.1 dX7_copies_54 (by decide) ?_
        refine hv_copyi C0 w hl.1 kj_X7_148 hV137 hV136 (by decide) (by decide) (by decide) (by decide) (by decide) (by decide) (Nat.le_of_ble_eq_true rfl) dX7_copies_56 (fun Hq lq w => ?_)
        have w := hv_w.as (a := mo + 4 + j1) (n := 16) (f := va_cpy (σ.1.1.2.2 j2) (σ.1.1.2.2 j1) 0 0 16) (g := (σ.1.1.2.2 j2)) w hv_us (fun i9 hi9 => by simp [va_cpy, hi9])
        rw [hv_uu] at w
        obtain ⟨V140, eV141⟩ : ∃ V9, V9 = hv_up V115 (mo + 4 + j1) (.inl (X.2.1 0, 16, .inl (σ.1.1.2.2 j2))) := ⟨_, rfl⟩
        have w : hv_w X s V140 Hq lq := by rw [eV141]; exact w
        have hV142 : V140 mo = some (.inr (7, [.ref (mo + 1), .ref (mo + 2), .ref (mo + 3), .long ab, .long be, .ref (mo + 10), .int (nI σ.2.2.1.1), .int pl, .int cl, .ref (mo + 11), .ref (mo + 12), .ref (mo + 13), .int sg, .ref (mo + 14), .ref (mo + 15), .ref (mo + 16), .ref (mo + 17), .int (nI σ.1.2.1.1), .ref (mo + 18), .ref (mo + 19), .int (nI σ.1.2.2.1.1), .ref (mo + 20), .ref (mo + 21), .ref (mo + 22), .int (nI σ.1.2.2.2.1), .int ik, .ref (mo + 23), .ref (mo + 24), .ref (mo + 25), .ref (mo + 26), .ref (mo + 33), .ref (mo + 41), .ref (mo + 42), .ref (mo + 43)])) := by rw [eV141, hv_un (by omega)]; exact hV117
        have hV143 : V140 (mo + 3) = some (.inl (X.2.1 6, 6, .inr (.inr (.inr (.inr rf))))) := by rw [eV141, hv_un (by omega)]; exact hV119
        have hV144 : V140 (mo + 10) = some (.inl (X.2.1 2, 100, .inl σ.2.2.1.2)) := by rw [eV141, hv_un (by omega)]; exact hV120
        have hV145 : V140 (mo + 11) = some (.inl (X.2.1 0, 12, .inl wd)) := by rw [eV141, hv_un (by omega)]; exact hV121
        have hV146 : V140 (mo + 12) = some (.inl (X.2.1 0, 48, .inl td)) := by rw [eV141, hv_un (by omega)]; exact hV122
        have hV147 : V140 (mo + 13) = some (.inl (X.2.1 2, 178, .inl sn)) := by rw [eV141, hv_un (by omega)]; exact hV123
        have hV148 : V140 (mo + 14) = some (.inl (X.2.1 0, 3, .inl ut)) := by rw [eV141, hv_un (by omega)]; exact hV124
        have hV149 : V140 (mo + 20) = some (.inl (X.2.1 0, 16, .inl kn)) := by rw [eV141, hv_un (by omega)]; exact hV125
        have hV150 : V140 (mo + 15) = some (.inl (X.2.1 0, 4, .inl sf)) := by rw [eV141, hv_un (by omega)]; exact hV126
        have hV151 : V140 (mo + 16) = some (.inl (X.2.1 0, 4, .inl sg9)) := by rw [eV141, hv_un (by omega)]; exact hV127
        have hV152 : V140 (mo + 17) = some (.inl (X.2.1 0, 4, .inl sh)) := by rw [eV141, hv_un (by omega)]; exact hV128
        have hV153 : V140 (mo + 18) = some (.inl (X.2.1 0, 8, .inl ef)) := by rw [eV141, hv_un (by omega)]; exact hV129
        have hV154 : V140 (mo + 19) = some (.inl (X.2.1 0, 8, .inl eg)) := by rw [eV141, hv_un (by omega)]; exact hV130
        have hV155 : V140 (mo + 21) = some (.inl (X.2.1 0, 8, .inl bf)) := by rw [eV141, hv_un (by omega)]; exact hV131
        have hV156 : V140 (mo + 22) = some (.inl (X.2.1 0, 8, .inl bg)) := by rw [eV141, hv_un (by omega)]; exact hV132
        have hV157 : V140 (mo + 41) = some (.inl (X.2.1 0, 6, .inl σ.2.2.2.1)) := by rw [eV141, hv_un (by omega)]; exact hV133
        have hV158 : V140 (mo + 42) = some (.inl (X.2.1 0, 6, .inl (fun j => nI (σ.2.2.2.2.1 j)))) := by rw [eV141, hv_un (by omega)]; exact hV134
        have hV159 : V140 (mo + 43) = some (.inl (X.2.1 7, 6, .inr (.inr (.inr (.inr tf))))) := by rw [eV141, hv_un (by omega)]; exact hV135
        have hV161 : V140 (mo + 4 + j2) = some (.inl (X.2.1 0, 16, .inl (σ.1.1.2.2 j2))) := by rw [eV141, hv_un (by omega)]; exact hV137
        have hV162 : V140 (mo + 1) = some (.inl (X.2.1 0, 6, .inl (upd (σ.1.1.1) j1 ((σ.1.1.1) j2)))) := by rw [eV141, hv_un (by omega)]; exact hV138
        have hV163 : V140 (mo + 2) = some (.inl (X.2.1 0, 6, .inl (upd (fun j => nI (σ.1.1.2.1 j)) j1 (nI (σ.1.1.2.1 j2))))) := by rw [eV141, hv_un (by omega)]; exact hV139
        have hV164 : V140 (mo + 4 + j1) = some (.inl (X.2.1 0, 16, .inl (σ.1.1.2.2 j2))) := by rw [eV141]; exact hv_us
        refine lv_aload_n C0.1 C0.2.1 dX7_copies_59 rfl (lv_at hl 0 rfl) ?_
        refine gf_X7_15 C0 w hV142 rfl dX7_copies_60 ?_
        refine lv_iload_n C0.1 C0.2.1 dX7_copies_63 rfl (lv_at hl 1 rfl) ?_
        refine hv_iald C0 w hV163 (hn_in hj1 (by decide)) dX7_copies_64 ?_
        have hc165 : (nI j1).toNatClampNeg = j1 := nI_clamp (by omega)
        rw [hc165]
        rw [hs_uself]
        exact hv_iret C0 w hr hlk (by rw [sp_copies, if_pos ⟨ihb4, ihb8⟩, kj1, kj2]; exact ⟨rfl, ⟨ab, be, pl, cl, sg, ik, ((by rw [eV141, hv_un (by omega), eV116, hv_un (by omega), eV89, hv_un (by omega)] : _ = V mo).trans hO), hRw.set hj1 (by rw [eV141, hv_un (by omega), eV116, hv_un (by omega), eV89]; exact hv_us) (by rw [eV141, hv_un (by omega), eV116]; exact hv_us) (by rw [eV141]; exact hv_us) (by rw [eV141, hv_un (by omega), eV116, hv_un (by omega), eV89, hv_un (by omega)]) (fun i9 hi9 hne9 => by rw [eV141, hv_un (by omega), eV116, hv_un (by omega), eV89, hv_un (by omega)]), (by rw [eV141, hv_un (by omega), eV116, hv_un (by omega), eV89, hv_un (by omega)] : _ = V (mo + 10)).trans hTx, hSc.fr (fun q h7 h8 => by rw [eV141, hv_un (by omega), eV116, hv_un (by omega), eV89, hv_un (by omega)]) (fun q h7 h8 => by rw [eV141, hv_un (by omega), eV116, hv_un (by omega), eV89, hv_un (by omega)]), hSe.fr (fun q h7 h8 => by rw [eV141, hv_un (by omega), eV116, hv_un (by omega), eV89, hv_un (by omega)]), hEv.fr (by rw [eV141, hv_un (by omega), eV116, hv_un (by omega), eV89, hv_un (by omega)]) (by rw [eV141, hv_un (by omega), eV116, hv_un (by omega), eV89, hv_un (by omega)]), hBk.fr (by rw [eV141, hv_un (by omega), eV116, hv_un (by omega), eV89, hv_un (by omega)]) (by rw [eV141, hv_un (by omega), eV116, hv_un (by omega), eV89, hv_un (by omega)]), hIm.fr (fun q h7 h8 => by rw [eV141, hv_un (by omega), eV116, hv_un (by omega), eV89, hv_un (by omega)]), hTp.fr (fun q h7 h8 => by rw [eV141, hv_un (by omega), eV116, hv_un (by omega), eV89, hv_un (by omega)])⟩, (fun q h7 => by rw [eV141, hv_un (by omega), eV116, hv_un (by omega), eV89, hv_un (by omega)])⟩) dX7_copies_65
    · skip
      refine lv_if_ne (tgt := 16) C0.1 C0.2.1 dX7_copies_11 (by decide) (fun h9 => absurd h9 (by decide)) (fun _ => ?_)
      refine lv_iconst (v := -1) C0.1 C0.2.1 dX7_copies_14 (by decide) ?_
      exact hv_iret C0 w hr hlk (by rw [sp_copies, if_neg (fun h9 => hb8 h9.2)]; exact ⟨rfl, hM, hv_out.rf⟩) dX7_copies_15
  · skip
    refine lv_if_eq (tgt := 14) C0.1 C0.2.1 dX7_copies_4 (by decide) (fun _ => ?_) (fun h9 => absurd h9 (by decide))
    refine lv_iconst (v := -1) C0.1 C0.2.1 dX7_copies_14 (by decide) ?_
    exact hv_iret C0 w hr hlk (by rw [sp_copies, if_neg (fun h9 => hb4 h9.1)]; exact ⟨rfl, hM, hv_out.rf⟩) dX7_copies_15

theorem hs_so {σ : hs_S} (hB : hs_b σ) {j : Nat} (hj : j < 6) : (0 ≤ σ.2.2.2.1 j) ↔ ¬ σ.2.2.2.1 j = -1 := by
  have h := (hB.2.2.2.2 j hj).1
  constructor
  · intro q e
    rw [e] at q
    exact absurd q (by decide)
  · intro q
    rw [Int32.le_iff_toInt_le]
    have h1 := Int32.le_iff_toInt_le.mp h.1
    have h2 : (σ.2.2.2.1 j).toInt ≠ -1 := fun e => q (Int32.toInt_inj.mp (e.trans (by decide)))
    have h3 : (-1 : Int32).toInt = -1 := by decide
    rw [h3] at h1
    show 0 ≤ _
    omega
set_option maxHeartbeats 4000000 in
set_option maxRecDepth 100000 in
theorem m_X7_peek {l : Launch} {X : hv_X} {V : hv_V} {mo : Nat} {σ : hs_S} (hM : okM X V mo σ) (hB : hs_b σ) {t i : Int32} : hv_Ml l X 220 yX7_peek cX7_peek 3 V [.ref mo, .int t, .int i] (fun y V1 => y = sp_peek σ t i ∧ okM X V1 mo σ ∧ hv_out V V1 mo (mo + 50)) := by
  refine hv_enter (by decide) (Nat.le_of_ble_eq_true rfl) ?_
  intro p e s m below meth c ls C0 hr hlk hnm w hl
  have hl : lv_has ls 3 [(0, .ref mo), (1, .int t), (2, .int i)] := hl
  obtain ⟨ab, be, pl, cl, sg, ik, hO, hRw, hTx, hSc, hSe, hEv, hBk, hIm, hTp⟩ := id hM
  obtain ⟨r1, r2, ⟨rf, r3, r4⟩, r5⟩ := id hRw
  obtain ⟨⟨wd, s1⟩, ⟨td, s2⟩, ⟨sn, s3⟩, ⟨ut, s4⟩, kn, s5⟩ := id hSc
  obtain ⟨sf, sg9, sh, e1, e2, e3, ea⟩ := id hSe
  obtain ⟨ef, eg, v1, v2, va⟩ := id hEv
  obtain ⟨bf, bg, b1, b2, ba⟩ := id hBk
  obtain ⟨t1, t2, ⟨tf, t3, t4⟩, t5⟩ := id hTp
  have hbR := hB.1.1
  refine lv_iload_n C0.1 C0.2.1 dX7_peek_0 rfl (lv_at hl 1 rfl) ?_
  refine hv_cSi (As := [.int t]) C0 w kl_X7_303 ks_X7_isTape (c_X7_isTape) (by decide) (by decide) rfl hl.1 rfl (Nat.le_of_ble_eq_true rfl) dX7_peek_1 ⟨Nat.le_refl _, Nat.le_refl _⟩ (fun x1 V2 Hq lq hp3 w => ?_)
  obtain ⟨e9, hz9⟩ := hp3
  rw [e9] at w; clear e9
  rcases hz9 with ⟨rfl, hb4⟩ | ⟨rfl, hb4⟩
  · skip
    have ihb4 := hb4
    obtain ⟨j1, hj1, rfl⟩ := sp_inN (k := 5) (by decide) hb4
    have kj1 : (nI j1).toNatClampNeg = j1 := nI_clamp (by omega)
    have hI_j1 : V (mo + 44 + j1) = some (jE X (σ.2.2.2.2.2 j1)) := t5 j1 hj1
    have hz_j1 : σ.2.2.2.2.1 j1 ≤ 60 := (hB.2.2.2.2 j1 hj1).2.1
    refine lv_if_eq (tgt := 43) C0.1 C0.2.1 dX7_peek_4 (by decide) (fun h9 => absurd h9 (by decide)) (fun _ => ?_)
    refine lv_aload_n C0.1 C0.2.1 dX7_peek_7 rfl (lv_at hl 0 rfl) ?_
    refine gf_X7_78 C0 w hO rfl dX7_peek_8 ?_
    refine lv_iload_n C0.1 C0.2.1 dX7_peek_11 rfl (lv_at hl 1 rfl) ?_
    refine hv_iald C0 w t1 (hn_in hj1 (by decide)) dX7_peek_12 ?_
    have hc5 : (nI j1).toNatClampNeg = j1 := nI_clamp (by omega)
    rw [hc5]
    refine lv_if_lt (tgt := 43) C0.1 C0.2.1 dX7_peek_13 (by decide) (fun c_13 => ?_) (fun c_13 => ?_)
    · skip
      refine lv_ldc2 C0.1 C0.2.1 C0.2.2.2.1 (C0.2.2.2.2.1 _ kk_X7_243) dX7_peek_43 ?_
      exact hv_lret C0 w hr hlk (by rw [sp_peek, kj1, if_neg (fun h9 => h9.2 (Or.inr (by rw [(hB.2.2.2.2 j1 hj1).2.2 (Classical.byContradiction (fun h8 => absurd ((hs_so hB hj1).mpr h8) (Int32.not_le.mpr c_13)))]; exact Nat.zero_le _)))]; exact ⟨rfl, hM, hv_out.rf⟩) dX7_peek_46
    · skip
      refine lv_iload_n C0.1 C0.2.1 dX7_peek_16 rfl (lv_at hl 2 rfl) ?_
      refine lv_iconst (v := 0) C0.1 C0.2.1 dX7_peek_17 (by decide) ?_
      refine lv_aload_n C0.1 C0.2.1 dX7_peek_18 rfl (lv_at hl 0 rfl) ?_
      refine gf_X7_81 C0 w hO rfl dX7_peek_19 ?_
      refine lv_iload_n C0.1 C0.2.1 dX7_peek_22 rfl (lv_at hl 1 rfl) ?_
      refine hv_iald C0 w t2 (hn_in hj1 (by decide)) dX7_peek_23 ?_
      have hc6 : (nI j1).toNatClampNeg = j1 := nI_clamp (by omega)
      rw [hc6]
      refine lv_iconst (v := 1) C0.1 C0.2.1 dX7_peek_24 (by decide) ?_
      refine lv_isub C0.1 C0.2.1 dX7_peek_25 ?_
      refine hv_cSi (As := [.int i, .int 0, .int ((nI (σ.2.2.2.2.1 j1)) - 1)]) C0 w kl_X7_89 ks_X7_in (c_X7_in) (by decide) (by decide) rfl hl.1 rfl (Nat.le_of_ble_eq_true rfl) dX7_peek_26 ⟨Nat.le_refl _, Nat.le_refl _⟩ (fun x7 V8 Hq lq hp9 w => ?_)
      obtain ⟨e9, hz9⟩ := hp9
      rw [e9] at w; clear e9
      rcases hz9 with ⟨rfl, hb10⟩ | ⟨rfl, hb10⟩
      · skip
        refine lv_if_eq (tgt := 43) C0.1 C0.2.1 dX7_peek_29 (by decide) (fun h9 => absurd h9 (by decide)) (fun _ => ?_)
        have hin : vp_in i 60 := fun h9 => (hs_inm (n := σ.2.2.2.2.1 j1) (by omega)).mp hb10 (h9.elim Or.inl (fun h8 => Or.inr (by omega)))
        refine lv_aload_n C0.1 C0.2.1 dX7_peek_32 rfl (lv_at hl 0 rfl) ?_
        refine gf_X7_86 C0 w hO rfl dX7_peek_33 ?_
        refine lv_iload_n C0.1 C0.2.1 dX7_peek_36 rfl (lv_at hl 1 rfl) ?_
        refine hv_aalA 7 rfl C0 w rfl t3 (hn_in hj1 (by decide)) (by rw [kj1]; exact t4 j1 hj1) dX7_peek_37 ?_
        refine lv_iload_n C0.1 C0.2.1 dX7_peek_38 rfl (lv_at hl 2 rfl) ?_
        refine hv_lald C0 w hI_j1 (hin) dX7_peek_39 ?_
        refine lv_goto (tgt := 46) C0.1 C0.2.1 dX7_peek_40 (by decide) ?_
        exact hv_lret C0 w hr hlk (by rw [sp_peek, kj1, if_pos ⟨ihb4, (hs_inm (by omega)).mp hb10⟩]; exact ⟨rfl, hM, hv_out.rf⟩) dX7_peek_46
      · skip
        refine lv_if_eq (tgt := 43) C0.1 C0.2.1 dX7_peek_29 (by decide) (fun _ => ?_) (fun h9 => absurd h9 (by decide))
        refine lv_ldc2 C0.1 C0.2.1 C0.2.2.2.1 (C0.2.2.2.2.1 _ kk_X7_243) dX7_peek_43 ?_
        exact hv_lret C0 w hr hlk (by rw [sp_peek, kj1, if_neg (fun h9 => hb10 ((hs_inm (by omega)).mpr h9.2))]; exact ⟨rfl, hM, hv_out.rf⟩) dX7_peek_46
  · skip
    refine lv_if_eq (tgt := 43) C0.1 C0.2.1 dX7_peek_4 (by decide) (fun _ => ?_) (fun h9 => absurd h9 (by decide))
    refine lv_ldc2 C0.1 C0.2.1 C0.2.2.2.1 (C0.2.2.2.2.1 _ kk_X7_243) dX7_peek_43 ?_
    exact hv_lret C0 w hr hlk (by rw [sp_peek, if_neg (fun h9 => hb4 h9.1)]; exact ⟨rfl, hM, hv_out.rf⟩) dX7_peek_46

