theorem om_seen.put {X : hv_X} {V1 : hv_V} {m : Nat} {L : hs_L} {f g h : Nat → Int32} {a b c : Int32} (h1 : V1 (m + 15) = some (iE X 4 (upd f L.1 a))) (h2 : V1 (m + 16) = some (iE X 4 (upd g L.1 b))) (h3 : V1 (m + 17) = some (iE X 4 (upd h L.1 c))) (ha : ∀ j, j < L.1 → f j = L.2.1 j ∧ g j = L.2.2.1 j ∧ h j = L.2.2.2 j) : om_seen X V1 m (hs_put L a b c) := by
  refine ⟨_, _, _, h1, h2, h3, fun j hj => ?_⟩
  have hj : j < L.1 + 1 := hj
  show upd f L.1 a j = upd L.2.1 L.1 a j ∧ upd g L.1 b j = upd L.2.2.1 L.1 b j ∧ upd h L.1 c j = upd L.2.2.2 L.1 c j
  by_cases q : j = L.1
  · subst q; simp [upd]
  · have := ha j (by omega)
    simp [upd, q, this.1, this.2.1, this.2.2]
theorem om_seen.nil {X : hv_X} {V1 : hv_V} {m : Nat} {L : hs_L} {f g h : Nat → Int32} (h1 : V1 (m + 15) = some (iE X 4 f)) (h2 : V1 (m + 16) = some (iE X 4 g)) (h3 : V1 (m + 17) = some (iE X 4 h)) : om_seen X V1 m (hs_nil L) := ⟨f, g, h, h1, h2, h3, fun j hj => absurd hj (Nat.not_lt_zero j)⟩
theorem om_two.put {X : hv_X} {V1 : hv_V} {p q9 : Nat} {L : hs_L} {f g : Nat → Int32} {a b c : Int32} (h1 : V1 p = some (iE X 8 (upd f L.1 a))) (h2 : V1 q9 = some (iE X 8 (upd g L.1 b))) (ha : ∀ j, j < L.1 → f j = L.2.1 j ∧ g j = L.2.2.1 j) : om_two X V1 p q9 (hs_put L a b c) := by
  refine ⟨_, _, h1, h2, fun j hj => ?_⟩
  have hj : j < L.1 + 1 := hj
  show upd f L.1 a j = upd L.2.1 L.1 a j ∧ upd g L.1 b j = upd L.2.2.1 L.1 b j
  by_cases q : j = L.1
  · subst q; simp [upd]
  · have := ha j (by omega)
    simp [upd, q, this.1, this.2]
theorem om_two.nil {X : hv_X} {V1 : hv_V} {p q9 : Nat} {L : hs_L} {f g : Nat → Int32} (h1 : V1 p = some (iE X 8 f)) (h2 : V1 q9 = some (iE X 8 g)) : om_two X V1 p q9 (hs_nil L) := ⟨f, g, h1, h2, fun j hj => absurd hj (Nat.not_lt_zero j)⟩
set_option maxHeartbeats 4000000 in
set_option maxRecDepth 100000 in
theorem m_X7_see {l : Launch} {X : hv_X} {V : hv_V} {mo : Nat} {σ : hs_S} (hM : okM X V mo σ) (hB : hs_b σ) {r u lo : Int32} : hv_Mi l X 220 yX7_see cX7_see 4 .int V [.ref mo, .int r, .int u, .int lo] (fun y V1 => y = (sp_see σ r u lo).1 ∧ okM X V1 mo (sp_see σ r u lo).2 ∧ hv_out V V1 mo (mo + 50)) := by
  refine hv_enter (by decide) (Nat.le_of_ble_eq_true rfl) ?_
  intro p e s m below meth c ls C0 hr hlk hnm w hl
  have hl : lv_has ls 4 [(0, .ref mo), (1, .int r), (2, .int u), (3, .int lo)] := hl
  obtain ⟨ab, be, pl, cl, sg, ik, hO, hRw, hTx, hSc, hSe, hEv, hBk, hIm, hTp⟩ := id hM
  obtain ⟨r1, r2, ⟨rf, r3, r4⟩, r5⟩ := id hRw
  obtain ⟨⟨wd, s1⟩, ⟨td, s2⟩, ⟨sn, s3⟩, ⟨ut, s4⟩, kn, s5⟩ := id hSc
  obtain ⟨sf, sg9, sh, e1, e2, e3, ea⟩ := id hSe
  obtain ⟨ef, eg, v1, v2, va⟩ := id hEv
  obtain ⟨bf, bg, b1, b2, ba⟩ := id hBk
  obtain ⟨t1, t2, ⟨tf, t3, t4⟩, t5⟩ := id hTp
  have hbR := hB.1.1
  have hbn := hB.1.2.1.1
  refine lv_iload_n C0.1 C0.2.1 dX7_see_0 rfl (lv_at hl 1 rfl) ?_
  refine lv_iconst (v := -1) C0.1 C0.2.1 dX7_see_1 (by decide) ?_
  refine lv_icmp_ne (tgt := 12) C0.1 C0.2.1 dX7_see_2 (by decide) (fun c_2 => ?_) (fun c_2 => ?_)
  · skip
    refine lv_iload_n C0.1 C0.2.1 dX7_see_12 rfl (lv_at hl 1 rfl) ?_
    refine hv_cSi (As := [.int r]) C0 w kl_X7_135 ks_X7_isRow (c_X7_isRow) (by decide) (by decide) rfl hl.1 rfl (Nat.le_of_ble_eq_true rfl) dX7_see_13 ⟨Nat.le_refl _, Nat.le_refl _⟩ (fun x1 V2 Hq lq hp3 w => ?_)
    obtain ⟨e9, hz9⟩ := hp3
    rw [e9] at w; clear e9
    rcases hz9 with ⟨rfl, hb4⟩ | ⟨rfl, hb4⟩
    · skip
      refine lv_if_ne (tgt := 21) C0.1 C0.2.1 dX7_see_16 (by decide) (fun _ => ?_) (fun h9 => absurd h9 (by decide))
      refine lv_iload_n C0.1 C0.2.1 dX7_see_21 rfl (lv_at hl 2 rfl) ?_
      refine lv_iconst (v := 1) C0.1 C0.2.1 dX7_see_22 (by decide) ?_
      refine lv_sipush (v := 9999) C0.1 C0.2.1 dX7_see_23 (by decide) ?_
      refine hv_cSi (As := [.int u, .int 1, .int 9999]) C0 w kl_X7_89 ks_X7_in (c_X7_in) (by decide) (by decide) rfl hl.1 rfl (Nat.le_of_ble_eq_true rfl) dX7_see_26 ⟨Nat.le_refl _, Nat.le_refl _⟩ (fun x5 V6 Hq lq hp7 w => ?_)
      obtain ⟨e9, hz9⟩ := hp7
      rw [e9] at w; clear e9
      rcases hz9 with ⟨rfl, hb8⟩ | ⟨rfl, hb8⟩
      · skip
        refine lv_if_eq (tgt := 43) C0.1 C0.2.1 dX7_see_29 (by decide) (fun h9 => absurd h9 (by decide)) (fun _ => ?_)
        refine lv_iload_n C0.1 C0.2.1 dX7_see_32 rfl (lv_at hl 3 rfl) ?_
        refine lv_iconst (v := 1) C0.1 C0.2.1 dX7_see_33 (by decide) ?_
        refine lv_sipush (v := 9999) C0.1 C0.2.1 dX7_see_34 (by decide) ?_
        refine hv_cSi (As := [.int lo, .int 1, .int 9999]) C0 w kl_X7_89 ks_X7_in (c_X7_in) (by decide) (by decide) rfl hl.1 rfl (Nat.le_of_ble_eq_true rfl) dX7_see_37 ⟨Nat.le_refl _, Nat.le_refl _⟩ (fun x9 V10 Hq lq hp11 w => ?_)
        obtain ⟨e9, hz9⟩ := hp11
        rw [e9] at w; clear e9
        rcases hz9 with ⟨rfl, hb12⟩ | ⟨rfl, hb12⟩
        · skip
          refine lv_if_ne (tgt := 46) C0.1 C0.2.1 dX7_see_40 (by decide) (fun _ => ?_) (fun h9 => absurd h9 (by decide))
          refine lv_aload_n C0.1 C0.2.1 dX7_see_46 rfl (lv_at hl 0 rfl) ?_
          refine gf_X7_275 C0 w hO rfl dX7_see_47 ?_
          refine lv_iconst (v := 4) C0.1 C0.2.1 dX7_see_50 (by decide) ?_
          refine lv_icmp_ne (tgt := 57) C0.1 C0.2.1 dX7_see_51 (by decide) (fun c_51 => ?_) (fun c_51 => ?_)
          · skip
            have hlt : σ.1.2.1.1 < 4 := by
              rcases Nat.lt_or_ge (σ.1.2.1.1) 4 with h9 | h9
              · exact h9
              · exact absurd (show nI (σ.1.2.1.1) = nI 4 from by rw [show σ.1.2.1.1 = 4 by omega]) c_51
            refine lv_aload_n C0.1 C0.2.1 dX7_see_57 rfl (lv_at hl 0 rfl) ?_
            refine gf_X7_39 C0 w hO rfl dX7_see_58 ?_
            refine lv_aload_n C0.1 C0.2.1 dX7_see_61 rfl (lv_at hl 0 rfl) ?_
            refine gf_X7_275 C0 w hO rfl dX7_see_62 ?_
            refine lv_iload_n C0.1 C0.2.1 dX7_see_65 rfl (lv_at hl 1 rfl) ?_
            refine hv_iast C0 w e1 (hn_in hlt (by decide)) dX7_see_66 (fun Hq lq w => ?_)
            have hc13 : (nI σ.1.2.1.1).toNatClampNeg = σ.1.2.1.1 := nI_clamp (by omega)
            rw [hc13] at w
            obtain ⟨V14, eV15⟩ : ∃ V9, V9 = hv_up V (mo + 15) (.inl (X.2.1 0, 4, .inl (upd sf (σ.1.2.1.1) r))) := ⟨_, rfl⟩
            have w : hv_w X s V14 Hq lq := by rw [eV15]; exact w
            have hV16 : V14 mo = some (.inr (7, [.ref (mo + 1), .ref (mo + 2), .ref (mo + 3), .long ab, .long be, .ref (mo + 10), .int (nI σ.2.2.1.1), .int pl, .int cl, .ref (mo + 11), .ref (mo + 12), .ref (mo + 13), .int sg, .ref (mo + 14), .ref (mo + 15), .ref (mo + 16), .ref (mo + 17), .int (nI σ.1.2.1.1), .ref (mo + 18), .ref (mo + 19), .int (nI σ.1.2.2.1.1), .ref (mo + 20), .ref (mo + 21), .ref (mo + 22), .int (nI σ.1.2.2.2.1), .int ik, .ref (mo + 23), .ref (mo + 24), .ref (mo + 25), .ref (mo + 26), .ref (mo + 33), .ref (mo + 41), .ref (mo + 42), .ref (mo + 43)])) := by rw [eV15, hv_un (by omega)]; exact hO
            have hV17 : V14 (mo + 1) = some (.inl (X.2.1 0, 6, .inl σ.1.1.1)) := by rw [eV15, hv_un (by omega)]; exact r1
            have hV18 : V14 (mo + 2) = some (.inl (X.2.1 0, 6, .inl (fun j => nI (σ.1.1.2.1 j)))) := by rw [eV15, hv_un (by omega)]; exact r2
            have hV19 : V14 (mo + 3) = some (.inl (X.2.1 6, 6, .inr (.inr (.inr (.inr rf))))) := by rw [eV15, hv_un (by omega)]; exact r3
            have hV20 : V14 (mo + 10) = some (.inl (X.2.1 2, 100, .inl σ.2.2.1.2)) := by rw [eV15, hv_un (by omega)]; exact hTx
            have hV21 : V14 (mo + 11) = some (.inl (X.2.1 0, 12, .inl wd)) := by rw [eV15, hv_un (by omega)]; exact s1
            have hV22 : V14 (mo + 12) = some (.inl (X.2.1 0, 48, .inl td)) := by rw [eV15, hv_un (by omega)]; exact s2
            have hV23 : V14 (mo + 13) = some (.inl (X.2.1 2, 178, .inl sn)) := by rw [eV15, hv_un (by omega)]; exact s3
            have hV24 : V14 (mo + 14) = some (.inl (X.2.1 0, 3, .inl ut)) := by rw [eV15, hv_un (by omega)]; exact s4
            have hV25 : V14 (mo + 20) = some (.inl (X.2.1 0, 16, .inl kn)) := by rw [eV15, hv_un (by omega)]; exact s5
            have hV27 : V14 (mo + 16) = some (.inl (X.2.1 0, 4, .inl sg9)) := by rw [eV15, hv_un (by omega)]; exact e2
            have hV28 : V14 (mo + 17) = some (.inl (X.2.1 0, 4, .inl sh)) := by rw [eV15, hv_un (by omega)]; exact e3
            have hV29 : V14 (mo + 18) = some (.inl (X.2.1 0, 8, .inl ef)) := by rw [eV15, hv_un (by omega)]; exact v1
            have hV30 : V14 (mo + 19) = some (.inl (X.2.1 0, 8, .inl eg)) := by rw [eV15, hv_un (by omega)]; exact v2
            have hV31 : V14 (mo + 21) = some (.inl (X.2.1 0, 8, .inl bf)) := by rw [eV15, hv_un (by omega)]; exact b1
            have hV32 : V14 (mo + 22) = some (.inl (X.2.1 0, 8, .inl bg)) := by rw [eV15, hv_un (by omega)]; exact b2
            have hV33 : V14 (mo + 41) = some (.inl (X.2.1 0, 6, .inl σ.2.2.2.1)) := by rw [eV15, hv_un (by omega)]; exact t1
            have hV34 : V14 (mo + 42) = some (.inl (X.2.1 0, 6, .inl (fun j => nI (σ.2.2.2.2.1 j)))) := by rw [eV15, hv_un (by omega)]; exact t2
            have hV35 : V14 (mo + 43) = some (.inl (X.2.1 7, 6, .inr (.inr (.inr (.inr tf))))) := by rw [eV15, hv_un (by omega)]; exact t3
            have hV36 : V14 (mo + 15) = some (.inl (X.2.1 0, 4, .inl (upd sf (σ.1.2.1.1) r))) := by rw [eV15]; exact hv_us
            refine lv_aload_n C0.1 C0.2.1 dX7_see_67 rfl (lv_at hl 0 rfl) ?_
            refine gf_X7_42 C0 w hV16 rfl dX7_see_68 ?_
            refine lv_aload_n C0.1 C0.2.1 dX7_see_71 rfl (lv_at hl 0 rfl) ?_
            refine gf_X7_275 C0 w hV16 rfl dX7_see_72 ?_
            refine lv_iload_n C0.1 C0.2.1 dX7_see_75 rfl (lv_at hl 2 rfl) ?_
            refine hv_iast C0 w hV27 (hn_in hlt (by decide)) dX7_see_76 (fun Hq lq w => ?_)
            have hc37 : (nI σ.1.2.1.1).toNatClampNeg = σ.1.2.1.1 := nI_clamp (by omega)
            rw [hc37] at w
            obtain ⟨V38, eV39⟩ : ∃ V9, V9 = hv_up V14 (mo + 16) (.inl (X.2.1 0, 4, .inl (upd sg9 (σ.1.2.1.1) u))) := ⟨_, rfl⟩
            have w : hv_w X s V38 Hq lq := by rw [eV39]; exact w
            have hV40 : V38 mo = some (.inr (7, [.ref (mo + 1), .ref (mo + 2), .ref (mo + 3), .long ab, .long be, .ref (mo + 10), .int (nI σ.2.2.1.1), .int pl, .int cl, .ref (mo + 11), .ref (mo + 12), .ref (mo + 13), .int sg, .ref (mo + 14), .ref (mo + 15), .ref (mo + 16), .ref (mo + 17), .int (nI σ.1.2.1.1), .ref (mo + 18), .ref (mo + 19), .int (nI σ.1.2.2.1.1), .ref (mo + 20), .ref (mo + 21), .ref (mo + 22), .int (nI σ.1.2.2.2.1), .int ik, .ref (mo + 23), .ref (mo + 24), .ref (mo + 25), .ref (mo + 26), .ref (mo + 33), .ref (mo + 41), .ref (mo + 42), .ref (mo + 43)])) := by rw [eV39, hv_un (by omega)]; exact hV16
            have hV41 : V38 (mo + 1) = some (.inl (X.2.1 0, 6, .inl σ.1.1.1)) := by rw [eV39, hv_un (by omega)]; exact hV17
            have hV42 : V38 (mo + 2) = some (.inl (X.2.1 0, 6, .inl (fun j => nI (σ.1.1.2.1 j)))) := by rw [eV39, hv_un (by omega)]; exact hV18
            have hV43 : V38 (mo + 3) = some (.inl (X.2.1 6, 6, .inr (.inr (.inr (.inr rf))))) := by rw [eV39, hv_un (by omega)]; exact hV19
            have hV44 : V38 (mo + 10) = some (.inl (X.2.1 2, 100, .inl σ.2.2.1.2)) := by rw [eV39, hv_un (by omega)]; exact hV20
            have hV45 : V38 (mo + 11) = some (.inl (X.2.1 0, 12, .inl wd)) := by rw [eV39, hv_un (by omega)]; exact hV21
            have hV46 : V38 (mo + 12) = some (.inl (X.2.1 0, 48, .inl td)) := by rw [eV39, hv_un (by omega)]; exact hV22
            have hV47 : V38 (mo + 13) = some (.inl (X.2.1 2, 178, .inl sn)) := by rw [eV39, hv_un (by omega)]; exact hV23
            have hV48 : V38 (mo + 14) = some (.inl (X.2.1 0, 3, .inl ut)) := by rw [eV39, hv_un (by omega)]; exact hV24
            have hV49 : V38 (mo + 20) = some (.inl (X.2.1 0, 16, .inl kn)) := by rw [eV39, hv_un (by omega)]; exact hV25
            have hV51 : V38 (mo + 17) = some (.inl (X.2.1 0, 4, .inl sh)) := by rw [eV39, hv_un (by omega)]; exact hV28
            have hV52 : V38 (mo + 18) = some (.inl (X.2.1 0, 8, .inl ef)) := by rw [eV39, hv_un (by omega)]; exact hV29
            have hV53 : V38 (mo + 19) = some (.inl (X.2.1 0, 8, .inl eg)) := by rw [eV39, hv_un (by omega)]; exact hV30
            have hV54 : V38 (mo + 21) = some (.inl (X.2.1 0, 8, .inl bf)) := by rw [eV39, hv_un (by omega)]; exact hV31
            have hV55 : V38 (mo + 22) = some (.inl (X.2.1 0, 8, .inl bg)) := by rw [eV39, hv_un (by omega)]; exact hV32
            have hV56 : V38 (mo + 41) = some (.inl (X.2.1 0, 6, .inl σ.2.2.2.1)) := by rw [eV39, hv_un (by omega)]; exact hV33
            have hV57 : V38 (mo + 42) = some (.inl (X.2.1 0, 6, .inl (fun j => nI (σ.2.2.2.2.1 j)))) := by rw [eV39, hv_un (by omega)]; exact hV34
            have hV58 : V38 (mo + 43) = some (.inl (X.2.1 7, 6, .inr (.inr (.inr (.inr tf))))) := by rw [eV39, hv_un (by omega)]; exact hV35
            have hV59 : V38 (mo + 15) = some (.inl (X.2.1 0, 4, .inl (upd sf (σ.1.2.1.1) r))) := by rw [eV39, hv_un (by omega)]; exact hV36
            have hV60 : V38 (mo + 16) = some (.inl (X.2.1 0, 4, .inl (upd sg9 (σ.1.2.1.1) u))) := by rw [eV39]; exact hv_us
            refine lv_aload_n C0.1 C0.2.1 dX7_see_77 rfl (lv_at hl 0 rfl) ?_
            refine gf_X7_45 C0 w hV40 rfl dX7_see_78 ?_
            refine lv_aload_n C0.1 C0.2.1 dX7_see_81 rfl (lv_at hl 0 rfl) ?_
            refine gf_X7_275 C0 w hV40 rfl dX7_see_82 ?_
            refine lv_iload_n C0.1 C0.2.1 dX7_see_85 rfl (lv_at hl 3 rfl) ?_
            refine hv_iast C0 w hV51 (hn_in hlt (by decide)) dX7_see_86 (fun Hq lq w => ?_)
            have hc61 : (nI σ.1.2.1.1).toNatClampNeg = σ.1.2.1.1 := nI_clamp (by omega)
            rw [hc61] at w
            obtain ⟨V62, eV63⟩ : ∃ V9, V9 = hv_up V38 (mo + 17) (.inl (X.2.1 0, 4, .inl (upd sh (σ.1.2.1.1) lo))) := ⟨_, rfl⟩
            have w : hv_w X s V62 Hq lq := by rw [eV63]; exact w
            have hV64 : V62 mo = some (.inr (7, [.ref (mo + 1), .ref (mo + 2), .ref (mo + 3), .long ab, .long be, .ref (mo + 10), .int (nI σ.2.2.1.1), .int pl, .int cl, .ref (mo + 11), .ref (mo + 12), .ref (mo + 13), .int sg, .ref (mo + 14), .ref (mo + 15), .ref (mo + 16), .ref (mo + 17), .int (nI σ.1.2.1.1), .ref (mo + 18), .ref (mo + 19), .int (nI σ.1.2.2.1.1), .ref (mo + 20), .ref (mo + 21), .ref (mo + 22), .int (nI σ.1.2.2.2.1), .int ik, .ref (mo + 23), .ref (mo + 24), .ref (mo + 25), .ref (mo + 26), .ref (mo + 33), .ref (mo + 41), .ref (mo + 42), .ref (mo + 43)])) := by rw [eV63, hv_un (by omega)]; exact hV40
            have hV65 : V62 (mo + 1) = some (.inl (X.2.1 0, 6, .inl σ.1.1.1)) := by rw [eV63, hv_un (by omega)]; exact hV41
            have hV66 : V62 (mo + 2) = some (.inl (X.2.1 0, 6, .inl (fun j => nI (σ.1.1.2.1 j)))) := by rw [eV63, hv_un (by omega)]; exact hV42
            have hV67 : V62 (mo + 3) = some (.inl (X.2.1 6, 6, .inr (.inr (.inr (.inr rf))))) := by rw [eV63, hv_un (by omega)]; exact hV43
            have hV68 : V62 (mo + 10) = some (.inl (X.2.1 2, 100, .inl σ.2.2.1.2)) := by rw [eV63, hv_un (by omega)]; exact hV44
            have hV69 : V62 (mo + 11) = some (.inl (X.2.1 0, 12, .inl wd)) := by rw [eV63, hv_un (by omega)]; exact hV45
            have hV70 : V62 (mo + 12) = some (.inl (X.2.1 0, 48, .inl td)) := by rw [eV63, hv_un (by omega)]; exact hV46
            have hV71 : V62 (mo + 13) = some (.inl (X.2.1 2, 178, .inl sn)) := by rw [eV63, hv_un (by omega)]; exact hV47
            have hV72 : V62 (mo + 14) = some (.inl (X.2.1 0, 3, .inl ut)) := by rw [eV63, hv_un (by omega)]; exact hV48
            have hV73 : V62 (mo + 20) = some (.inl (X.2.1 0, 16, .inl kn)) := by rw [eV63, hv_un (by omega)]; exact hV49
            have hV75 : V62 (mo + 18) = some (.inl (X.2.1 0, 8, .inl ef)) := by rw [eV63, hv_un (by omega)]; exact hV52
            have hV76 : V62 (mo + 19) = some (.inl (X.2.1 0, 8, .inl eg)) := by rw [eV63, hv_un (by omega)]; exact hV53
            have hV77 : V62 (mo + 21) = some (.inl (X.2.1 0, 8, .inl bf)) := by rw [eV63, hv_un (by omega)]; exact hV54
            have hV78 : V62 (mo + 22) = some (.inl (X.2.1 0, 8, .inl bg)) := by rw [eV63, hv_un (by omega)]; exact hV55
            have hV79 : V62 (mo + 41) = some (.inl (X.2.1 0, 6, .inl σ.2.2.2.1)) := by rw [eV63, hv_un (by omega)]; exact hV56
            have hV80 : V62 (mo + 42) = some (.inl (X.2.1 0, 6, .inl (fun j => nI (σ.2.2.2.2.1 j)))) := by rw [eV63, hv_un (by omega)]; exact hV57
            have hV81 : V62 (mo + 43) = some (.inl (X.2.1 7, 6, .inr (.inr (.inr (.inr tf))))) := by rw [eV63, hv_un (by omega)]; exact hV58
            have hV82 : V62 (mo + 15) = some (.inl (X.2.1 0, 4, .inl (upd sf (σ.1.2.1.1) r))) := by rw [eV63, hv_un (by omega)]; exact hV59
            have hV83 : V62 (mo + 16) = some (.inl (X.2.1 0, 4, .inl (upd sg9 (σ.1.2.1.1) u))) := by rw [eV63, hv_un (by omega)]; exact hV60
            have hV84 : V62 (mo + 17) = some (.inl (X.2.1 0, 4, .inl (upd sh (σ.1.2.1.1) lo))) := by rw [eV63]; exact hv_us
            refine lv_aload_n C0.1 C0.2.1 dX7_see_87 rfl (lv_at hl 0 rfl) ?_
            refine lv_dup C0.1 C0.2.1 dX7_see_88 rfl ?_
            refine gf_X7_275 C0 w hV64 rfl dX7_see_89 ?_
            refine lv_iconst (v := 1) C0.1 C0.2.1 dX7_see_92 (by decide) ?_
            refine lv_iadd C0.1 C0.2.1 dX7_see_93 ?_
            rw [nI_1]
            refine pf_X7_275 C0 w hV64 (by simp) dX7_see_94 (fun Hq lq w => ?_)
            obtain ⟨V85, eV86⟩ : ∃ V9, V9 = hv_up V62 mo (.inr (7, [.ref (mo + 1), .ref (mo + 2), .ref (mo + 3), .long ab, .long be, .ref (mo + 10), .int (nI σ.2.2.1.1), .int pl, .int cl, .ref (mo + 11), .ref (mo + 12), .ref (mo + 13), .int sg, .ref (mo + 14), .ref (mo + 15), .ref (mo + 16), .ref (mo + 17), .int (nI (σ.1.2.1.1 + 1)), .ref (mo + 18), .ref (mo + 19), .int (nI σ.1.2.2.1.1), .ref (mo + 20), .ref (mo + 21), .ref (mo + 22), .int (nI σ.1.2.2.2.1), .int ik, .ref (mo + 23), .ref (mo + 24), .ref (mo + 25), .ref (mo + 26), .ref (mo + 33), .ref (mo + 41), .ref (mo + 42), .ref (mo + 43)])) := ⟨_, rfl⟩
            have w : hv_w X s V85 Hq lq := by rw [eV86]; exact w
            have hV88 : V85 (mo + 1) = some (.inl (X.2.1 0, 6, .inl σ.1.1.1)) := by rw [eV86, hv_un (by omega)]; exact hV65
            have hV89 : V85 (mo + 2) = some (.inl (X.2.1 0, 6, .inl (fun j => nI (σ.1.1.2.1 j)))) := by rw [eV86, hv_un (by omega)]; exact hV66
            have hV90 : V85 (mo + 3) = some (.inl (X.2.1 6, 6, .inr (.inr (.inr (.inr rf))))) := by rw [eV86, hv_un (by omega)]; exact hV67
            have hV91 : V85 (mo + 10) = some (.inl (X.2.1 2, 100, .inl σ.2.2.1.2)) := by rw [eV86, hv_un (by omega)]; exact hV68
            have hV92 : V85 (mo + 11) = some (.inl (X.2.1 0, 12, .inl wd)) := by rw [eV86, hv_un (by omega)]; exact hV69
            have hV93 : V85 (mo + 12) = some (.inl (X.2.1 0, 48, .inl td)) := by rw [eV86, hv_un (by omega)]; exact hV70
            have hV94 : V85 (mo + 13) = some (.inl (X.2.1 2, 178, .inl sn)) := by rw [eV86, hv_un (by omega)]; exact hV71
            have hV95 : V85 (mo + 14) = some (.inl (X.2.1 0, 3, .inl ut)) := by rw [eV86, hv_un (by omega)]; exact hV72
            have hV96 : V85 (mo + 20) = some (.inl (X.2.1 0, 16, .inl kn)) := by rw [eV86, hv_un (by omega)]; exact hV73
            have hV97 : V85 (mo + 18) = some (.inl (X.2.1 0, 8, .inl ef)) := by rw [eV86, hv_un (by omega)]; exact hV75
            have hV98 : V85 (mo + 19) = some (.inl (X.2.1 0, 8, .inl eg)) := by rw [eV86, hv_un (by omega)]; exact hV76
            have hV99 : V85 (mo + 21) = some (.inl (X.2.1 0, 8, .inl bf)) := by rw [eV86, hv_un (by omega)]; exact hV77
            have hV100 : V85 (mo + 22) = some (.inl (X.2.1 0, 8, .inl bg)) := by rw [eV86, hv_un (by omega)]; exact hV78
            have hV101 : V85 (mo + 41) = some (.inl (X.2.1 0, 6, .inl σ.2.2.2.1)) := by rw [eV86, hv_un (by omega)]; exact hV79
            have hV102 : V85 (mo + 42) = some (.inl (X.2.1 0, 6, .inl (fun j => nI (σ.2.2.2.2.1 j)))) := by rw [eV86, hv_un (by omega)]; exact hV80
            have hV103 : V85 (mo + 43) = some (.inl (X.2.1 7, 6, .inr (.inr (.inr (.inr tf))))) := by rw [eV86, hv_un (by omega)]; exact hV81
            have hV104 : V85 (mo + 15) = some (.inl (X.2.1 0, 4, .inl (upd sf (σ.1.2.1.1) r))) := by rw [eV86, hv_un (by omega)]; exact hV82
            have hV105 : V85 (mo + 16) = some (.inl (X.2.1 0, 4, .inl (upd sg9 (σ.1.2.1.1) u))) := by rw [eV86, hv_un (by omega)]; exact hV83
            have hV106 : V85 (mo + 17) = some (.inl (X.2.1 0, 4, .inl (upd sh (σ.1.2.1.1) lo))) := by rw [eV86, hv_un (by omega)]; exact hV84
            have hV107 : V85 mo = some (.inr (7, [.ref (mo + 1), .ref (mo + 2), .ref (mo + 3), .long ab, .long be, .ref (mo + 10), .int (nI σ.2.2.1.1), .int pl, .int cl, .ref (mo + 11), .ref (mo + 12), .ref (mo + 13), .int sg, .ref (mo + 14), .ref (mo + 15), .ref (mo + 16), .ref (mo + 17), .int (nI (σ.1.2.1.1 + 1)), .ref (mo + 18), .ref (mo + 19), .int (nI σ.1.2.2.1.1), .ref (mo + 20), .ref (mo + 21), .ref (mo + 22), .int (nI σ.1.2.2.2.1), .int ik, .ref (mo + 23), .ref (mo + 24), .ref (mo + 25), .ref (mo + 26), .ref (mo + 33), .ref (mo + 41), .ref (mo + 42), .ref (mo + 43)])) := by rw [eV86]; exact hv_us
            refine lv_aload_n C0.1 C0.2.1 dX7_see_97 rfl (lv_at hl 0 rfl) ?_
            refine gf_X7_275 C0 w hV107 rfl dX7_see_98 ?_
            exact hv_iret C0 w hr hlk (by rw [sp_see, if_neg c_2, if_pos hb4, if_pos ⟨hb8, hb12⟩, if_pos hlt]; exact ⟨rfl, ⟨ab, be, pl, cl, sg, ik, (by rw [eV86]; exact hv_us), hRw.fr (fun q h7 h8 => by rw [eV86, hv_un (by omega), eV63, hv_un (by omega), eV39, hv_un (by omega), eV15, hv_un (by omega)]), (by rw [eV86, hv_un (by omega), eV63, hv_un (by omega), eV39, hv_un (by omega), eV15, hv_un (by omega)] : _ = V (mo + 10)).trans hTx, hSc.fr (fun q h7 h8 => by rw [eV86, hv_un (by omega), eV63, hv_un (by omega), eV39, hv_un (by omega), eV15, hv_un (by omega)]) (fun q h7 h8 => by rw [eV86, hv_un (by omega), eV63, hv_un (by omega), eV39, hv_un (by omega), eV15, hv_un (by omega)]), om_seen.put (by rw [eV86, hv_un (by omega), eV63, hv_un (by omega), eV39, hv_un (by omega), eV15]; exact hv_us) (by rw [eV86, hv_un (by omega), eV63, hv_un (by omega), eV39]; exact hv_us) (by rw [eV86, hv_un (by omega), eV63]; exact hv_us) ea, hEv.fr (by rw [eV86, hv_un (by omega), eV63, hv_un (by omega), eV39, hv_un (by omega), eV15, hv_un (by omega)]) (by rw [eV86, hv_un (by omega), eV63, hv_un (by omega), eV39, hv_un (by omega), eV15, hv_un (by omega)]), hBk.fr (by rw [eV86, hv_un (by omega), eV63, hv_un (by omega), eV39, hv_un (by omega), eV15, hv_un (by omega)]) (by rw [eV86, hv_un (by omega), eV63, hv_un (by omega), eV39, hv_un (by omega), eV15, hv_un (by omega)]), hIm.fr (fun q h7 h8 => by rw [eV86, hv_un (by omega), eV63, hv_un (by omega), eV39, hv_un (by omega), eV15, hv_un (by omega)]), hTp.fr (fun q h7 h8 => by rw [eV86, hv_un (by omega), eV63, hv_un (by omega), eV39, hv_un (by omega), eV15, hv_un (by omega)])⟩, (fun q h7 => by rw [eV86, hv_un (by omega), eV63, hv_un (by omega), eV39, hv_un (by omega), eV15, hv_un (by omega)])⟩) dX7_see_101
          · skip
            refine lv_bipush (v := -4) C0.1 C0.2.1 dX7_see_54 (by decide) ?_
            exact hv_iret C0 w hr hlk (by rw [sp_see, if_neg c_2, if_pos hb4, if_pos ⟨hb8, hb12⟩, if_neg (fun h9 => by have h8 := (nI_eq (a := σ.1.2.1.1) (b := 4) (by omega) (by omega)).mp c_51; omega)]; exact ⟨rfl, hM, hv_out.rf⟩) dX7_see_56
        · skip
          refine lv_if_ne (tgt := 46) C0.1 C0.2.1 dX7_see_40 (by decide) (fun h9 => absurd h9 (by decide)) (fun _ => ?_)
          refine lv_bipush (v := -2) C0.1 C0.2.1 dX7_see_43 (by decide) ?_
          exact hv_iret C0 w hr hlk (by rw [sp_see, if_neg c_2, if_pos hb4, if_neg (fun h9 => hb12 h9.2)]; exact ⟨rfl, hM, hv_out.rf⟩) dX7_see_45
      · skip
        refine lv_if_eq (tgt := 43) C0.1 C0.2.1 dX7_see_29 (by decide) (fun _ => ?_) (fun h9 => absurd h9 (by decide))
        refine lv_bipush (v := -2) C0.1 C0.2.1 dX7_see_43 (by decide) ?_
        exact hv_iret C0 w hr hlk (by rw [sp_see, if_neg c_2, if_pos hb4, if_neg (fun h9 => hb8 h9.1)]; exact ⟨rfl, hM, hv_out.rf⟩) dX7_see_45
    · skip
      refine lv_if_ne (tgt := 21) C0.1 C0.2.1 dX7_see_16 (by decide) (fun h9 => absurd h9 (by decide)) (fun _ => ?_)
      refine lv_iconst (v := -1) C0.1 C0.2.1 dX7_see_19 (by decide) ?_
      exact hv_iret C0 w hr hlk (by rw [sp_see, if_neg c_2, if_neg hb4]; exact ⟨rfl, hM, hv_out.rf⟩) dX7_see_20
  · skip
    refine lv_aload_n C0.1 C0.2.1 dX7_see_5 rfl (lv_at hl 0 rfl) ?_
    refine lv_iconst (v := 0) C0.1 C0.2.1 dX7_see_6 (by decide) ?_
    refine pf_X7_275 C0 w hO (by simp) dX7_see_7 (fun Hq lq w => ?_)
    obtain ⟨V108, eV109⟩ : ∃ V9, V9 = hv_up V mo (.inr (7, [.ref (mo + 1), .ref (mo + 2), .ref (mo + 3), .long ab, .long be, .ref (mo + 10), .int (nI σ.2.2.1.1), .int pl, .int cl, .ref (mo + 11), .ref (mo + 12), .ref (mo + 13), .int sg, .ref (mo + 14), .ref (mo + 15), .ref (mo + 16), .ref (mo + 17), .int 0, .ref (mo + 18), .ref (mo + 19), .int (nI σ.1.2.2.1.1), .ref (mo + 20), .ref (mo + 21), .ref (mo + 22), .int (nI σ.1.2.2.2.1), .int ik, .ref (mo + 23), .ref (mo + 24), .ref (mo + 25), .ref (mo + 26), .ref (mo + 33), .ref (mo + 41), .ref (mo + 42), .ref (mo + 43)])) := ⟨_, rfl⟩
    have w : hv_w X s V108 Hq lq := by rw [eV109]; exact w
    have hV111 : V108 (mo + 1) = some (.inl (X.2.1 0, 6, .inl σ.1.1.1)) := by rw [eV109, hv_un (by omega)]; exact r1
    have hV112 : V108 (mo + 2) = some (.inl (X.2.1 0, 6, .inl (fun j => nI (σ.1.1.2.1 j)))) := by rw [eV109, hv_un (by omega)]; exact r2
    have hV113 : V108 (mo + 3) = some (.inl (X.2.1 6, 6, .inr (.inr (.inr (.inr rf))))) := by rw [eV109, hv_un (by omega)]; exact r3
    have hV114 : V108 (mo + 10) = some (.inl (X.2.1 2, 100, .inl σ.2.2.1.2)) := by rw [eV109, hv_un (by omega)]; exact hTx
    have hV115 : V108 (mo + 11) = some (.inl (X.2.1 0, 12, .inl wd)) := by rw [eV109, hv_un (by omega)]; exact s1
    have hV116 : V108 (mo + 12) = some (.inl (X.2.1 0, 48, .inl td)) := by rw [eV109, hv_un (by omega)]; exact s2
    have hV117 : V108 (mo + 13) = some (.inl (X.2.1 2, 178, .inl sn)) := by rw [eV109, hv_un (by omega)]; exact s3
    have hV118 : V108 (mo + 14) = some (.inl (X.2.1 0, 3, .inl ut)) := by rw [eV109, hv_un (by omega)]; exact s4
    have hV119 : V108 (mo + 20) = some (.inl (X.2.1 0, 16, .inl kn)) := by rw [eV109, hv_un (by omega)]; exact s5
    have hV120 : V108 (mo + 15) = some (.inl (X.2.1 0, 4, .inl sf)) := by rw [eV109, hv_un (by omega)]; exact e1
    have hV121 : V108 (mo + 16) = some (.inl (X.2.1 0, 4, .inl sg9)) := by rw [eV109, hv_un (by omega)]; exact e2
    have hV122 : V108 (mo + 17) = some (.inl (X.2.1 0, 4, .inl sh)) := by rw [eV109, hv_un (by omega)]; exact e3
    have hV123 : V108 (mo + 18) = some (.inl (X.2.1 0, 8, .inl ef)) := by rw [eV109, hv_un (by omega)]; exact v1
    have hV124 : V108 (mo + 19) = some (.inl (X.2.1 0, 8, .inl eg)) := by rw [eV109, hv_un (by omega)]; exact v2
    have hV125 : V108 (mo + 21) = some (.inl (X.2.1 0, 8, .inl bf)) := by rw [eV109, hv_un (by omega)]; exact b1
    have hV126 : V108 (mo + 22) = some (.inl (X.2.1 0, 8, .inl bg)) := by rw [eV109, hv_un (by omega)]; exact b2
    have hV127 : V108 (mo + 41) = some (.inl (X.2.1 0, 6, .inl σ.2.2.2.1)) := by rw [eV109, hv_un (by omega)]; exact t1
    have hV128 : V108 (mo + 42) = some (.inl (X.2.1 0, 6, .inl (fun j => nI (σ.2.2.2.2.1 j)))) := by rw [eV109, hv_un (by omega)]; exact t2
    have hV129 : V108 (mo + 43) = some (.inl (X.2.1 7, 6, .inr (.inr (.inr (.inr tf))))) := by rw [eV109, hv_un (by omega)]; exact t3
    have hV130 : V108 mo = some (.inr (7, [.ref (mo + 1), .ref (mo + 2), .ref (mo + 3), .long ab, .long be, .ref (mo + 10), .int (nI σ.2.2.1.1), .int pl, .int cl, .ref (mo + 11), .ref (mo + 12), .ref (mo + 13), .int sg, .ref (mo + 14), .ref (mo + 15), .ref (mo + 16), .ref (mo + 17), .int 0, .ref (mo + 18), .ref (mo + 19), .int (nI σ.1.2.2.1.1), .ref (mo + 20), .ref (mo + 21), .ref (mo + 22), .int (nI σ.1.2.2.2.1), .int ik, .ref (mo + 23), .ref (mo + 24), .ref (mo + 25), .ref (mo + 26), .ref (mo + 33), .ref (mo + 41), .ref (mo + 42), .ref (mo + 43)])) := by rw [eV109]; exact hv_us
    refine lv_iconst (v := 0) C0.1 C0.2.1 dX7_see_10 (by decide) ?_
    exact hv_iret C0 w hr hlk (by rw [sp_see, if_pos c_2]; exact ⟨rfl, ⟨ab, be, pl, cl, sg, ik, (by rw [eV109]; exact hv_us), hRw.fr (fun q h7 h8 => by rw [eV109, hv_un (by omega)]), (by rw [eV109, hv_un (by omega)] : _ = V (mo + 10)).trans hTx, hSc.fr (fun q h7 h8 => by rw [eV109, hv_un (by omega)]) (fun q h7 h8 => by rw [eV109, hv_un (by omega)]), om_seen.nil ((by rw [eV109, hv_un (by omega)] : _ = V (mo + 15)).trans e1) ((by rw [eV109, hv_un (by omega)] : _ = V (mo + 16)).trans e2) ((by rw [eV109, hv_un (by omega)] : _ = V (mo + 17)).trans e3), hEv.fr (by rw [eV109, hv_un (by omega)]) (by rw [eV109, hv_un (by omega)]), hBk.fr (by rw [eV109, hv_un (by omega)]) (by rw [eV109, hv_un (by omega)]), hIm.fr (fun q h7 h8 => by rw [eV109, hv_un (by omega)]), hTp.fr (fun q h7 h8 => by rw [eV109, hv_un (by omega)])⟩, (fun q h7 => by rw [eV109, hv_un (by omega)])⟩) dX7_see_11

set_option maxHeartbeats 4000000 in
set_option maxRecDepth 100000 in
theorem m_X7_event {l : Launch} {X : hv_X} {V : hv_V} {mo : Nat} {σ : hs_S} (hM : okM X V mo σ) (hB : hs_b σ) {k r : Int32} : hv_Mi l X 220 yX7_event cX7_event 3 .int V [.ref mo, .int k, .int r] (fun y V1 => y = (sp_event σ k r).1 ∧ okM X V1 mo (sp_event σ k r).2 ∧ hv_out V V1 mo (mo + 50)) := by
  refine hv_enter (by decide) (Nat.le_of_ble_eq_true rfl) ?_
  intro p e s m below meth c ls C0 hr hlk hnm w hl
  have hl : lv_has ls 3 [(0, .ref mo), (1, .int k), (2, .int r)] := hl
  obtain ⟨ab, be, pl, cl, sg, ik, hO, hRw, hTx, hSc, hSe, hEv, hBk, hIm, hTp⟩ := id hM
  obtain ⟨r1, r2, ⟨rf, r3, r4⟩, r5⟩ := id hRw
  obtain ⟨⟨wd, s1⟩, ⟨td, s2⟩, ⟨sn, s3⟩, ⟨ut, s4⟩, kn, s5⟩ := id hSc
  obtain ⟨sf, sg9, sh, e1, e2, e3, ea⟩ := id hSe
  obtain ⟨ef, eg, v1, v2, va⟩ := id hEv
  obtain ⟨bf, bg, b1, b2, ba⟩ := id hBk
  obtain ⟨t1, t2, ⟨tf, t3, t4⟩, t5⟩ := id hTp
  have hbR := hB.1.1
  have hbn := hB.1.2.2.1.1
  refine lv_iload_n C0.1 C0.2.1 dX7_event_0 rfl (lv_at hl 1 rfl) ?_
  refine lv_iconst (v := -1) C0.1 C0.2.1 dX7_event_1 (by decide) ?_
  refine lv_icmp_ne (tgt := 12) C0.1 C0.2.1 dX7_event_2 (by decide) (fun c_2 => ?_) (fun c_2 => ?_)
  · skip
    refine lv_iload_n C0.1 C0.2.1 dX7_event_12 rfl (lv_at hl 1 rfl) ?_
    refine lv_iconst (v := 0) C0.1 C0.2.1 dX7_event_13 (by decide) ?_
    refine lv_iconst (v := 2) C0.1 C0.2.1 dX7_event_14 (by decide) ?_
    refine hv_cSi (As := [.int k, .int 0, .int 2]) C0 w kl_X7_89 ks_X7_in (c_X7_in) (by decide) (by decide) rfl hl.1 rfl (Nat.le_of_ble_eq_true rfl) dX7_event_15 ⟨Nat.le_refl _, Nat.le_refl _⟩ (fun x1 V2 Hq lq hp3 w => ?_)
    obtain ⟨e9, hz9⟩ := hp3
    rw [e9] at w; clear e9
    rcases hz9 with ⟨rfl, hb4⟩ | ⟨rfl, hb4⟩
    · skip
      refine lv_if_eq (tgt := 28) C0.1 C0.2.1 dX7_event_18 (by decide) (fun h9 => absurd h9 (by decide)) (fun _ => ?_)
      refine lv_iload_n C0.1 C0.2.1 dX7_event_21 rfl (lv_at hl 2 rfl) ?_
      refine hv_cSi (As := [.int r]) C0 w kl_X7_135 ks_X7_isRow (c_X7_isRow) (by decide) (by decide) rfl hl.1 rfl (Nat.le_of_ble_eq_true rfl) dX7_event_22 ⟨Nat.le_refl _, Nat.le_refl _⟩ (fun x5 V6 Hq lq hp7 w => ?_)
      obtain ⟨e9, hz9⟩ := hp7
      rw [e9] at w; clear e9
      rcases hz9 with ⟨rfl, hb8⟩ | ⟨rfl, hb8⟩
      · skip
        refine lv_if_ne (tgt := 30) C0.1 C0.2.1 dX7_event_25 (by decide) (fun _ => ?_) (fun h9 => absurd h9 (by decide))
        refine lv_aload_n C0.1 C0.2.1 dX7_event_30 rfl (lv_at hl 0 rfl) ?_
        refine gf_X7_285 C0 w hO rfl dX7_event_31 ?_
        refine lv_bipush (v := 8) C0.1 C0.2.1 dX7_event_34 (by decide) ?_
        refine lv_icmp_ne (tgt := 42) C0.1 C0.2.1 dX7_event_36 (by decide) (fun c_36 => ?_) (fun c_36 => ?_)
        · skip
          have hlt : σ.1.2.2.1.1 < 8 := by
            rcases Nat.lt_or_ge (σ.1.2.2.1.1) 8 with h9 | h9
            · exact h9
            · exact absurd (show nI (σ.1.2.2.1.1) = nI 8 from by rw [show σ.1.2.2.1.1 = 8 by omega]) c_36
          refine lv_aload_n C0.1 C0.2.1 dX7_event_42 rfl (lv_at hl 0 rfl) ?_
          refine gf_X7_48 C0 w hO rfl dX7_event_43 ?_
          refine lv_aload_n C0.1 C0.2.1 dX7_event_46 rfl (lv_at hl 0 rfl) ?_
          refine gf_X7_285 C0 w hO rfl dX7_event_47 ?_
          refine lv_iload_n C0.1 C0.2.1 dX7_event_50 rfl (lv_at hl 1 rfl) ?_
          refine hv_iast C0 w v1 (hn_in hlt (by decide)) dX7_event_51 (fun Hq lq w => ?_)
          have hc9 : (nI σ.1.2.2.1.1).toNatClampNeg = σ.1.2.2.1.1 := nI_clamp (by omega)
          rw [hc9] at w
          obtain ⟨V10, eV11⟩ : ∃ V9, V9 = hv_up V (mo + 18) (.inl (X.2.1 0, 8, .inl (upd ef (σ.1.2.2.1.1) k))) := ⟨_, rfl⟩
          have w : hv_w X s V10 Hq lq := by rw [eV11]; exact w
          have hV12 : V10 mo = some (.inr (7, [.ref (mo + 1), .ref (mo + 2), .ref (mo + 3), .long ab, .long be, .ref (mo + 10), .int (nI σ.2.2.1.1), .int pl, .int cl, .ref (mo + 11), .ref (mo + 12), .ref (mo + 13), .int sg, .ref (mo + 14), .ref (mo + 15), .ref (mo + 16), .ref (mo + 17), .int (nI σ.1.2.1.1), .ref (mo + 18), .ref (mo + 19), .int (nI σ.1.2.2.1.1), .ref (mo + 20), .ref (mo + 21), .ref (mo + 22), .int (nI σ.1.2.2.2.1), .int ik, .ref (mo + 23), .ref (mo + 24), .ref (mo + 25), .ref (mo + 26), .ref (mo + 33), .ref (mo + 41), .ref (mo + 42), .ref (mo + 43)])) := by rw [eV11, hv_un (by omega)]; exact hO
          have hV13 : V10 (mo + 1) = some (.inl (X.2.1 0, 6, .inl σ.1.1.1)) := by rw [eV11, hv_un (by omega)]; exact r1
          have hV14 : V10 (mo + 2) = some (.inl (X.2.1 0, 6, .inl (fun j => nI (σ.1.1.2.1 j)))) := by rw [eV11, hv_un (by omega)]; exact r2
          have hV15 : V10 (mo + 3) = some (.inl (X.2.1 6, 6, .inr (.inr (.inr (.inr rf))))) := by rw [eV11, hv_un (by omega)]; exact r3
          have hV16 : V10 (mo + 10) = some (.inl (X.2.1 2, 100, .inl σ.2.2.1.2)) := by rw [eV11, hv_un (by omega)]; exact hTx
          have hV17 : V10 (mo + 11) = some (.inl (X.2.1 0, 12, .inl wd)) := by rw [eV11, hv_un (by omega)]; exact s1
          have hV18 : V10 (mo + 12) = some (.inl (X.2.1 0, 48, .inl td)) := by rw [eV11, hv_un (by omega)]; exact s2
          have hV19 : V10 (mo + 13) = some (.inl (X.2.1 2, 178, .inl sn)) := by rw [eV11, hv_un (by omega)]; exact s3
          have hV20 : V10 (mo + 14) = some (.inl (X.2.1 0, 3, .inl ut)) := by rw [eV11, hv_un (by omega)]; exact s4
          have hV21 : V10 (mo + 20) = some (.inl (X.2.1 0, 16, .inl kn)) := by rw [eV11, hv_un (by omega)]; exact s5
          have hV22 : V10 (mo + 15) = some (.inl (X.2.1 0, 4, .inl sf)) := by rw [eV11, hv_un (by omega)]; exact e1
          have hV23 : V10 (mo + 16) = some (.inl (X.2.1 0, 4, .inl sg9)) := by rw [eV11, hv_un (by omega)]; exact e2
          have hV24 : V10 (mo + 17) = some (.inl (X.2.1 0, 4, .inl sh)) := by rw [eV11, hv_un (by omega)]; exact e3
          have hV26 : V10 (mo + 19) = some (.inl (X.2.1 0, 8, .inl eg)) := by rw [eV11, hv_un (by omega)]; exact v2
          have hV27 : V10 (mo + 21) = some (.inl (X.2.1 0, 8, .inl bf)) := by rw [eV11, hv_un (by omega)]; exact b1
          have hV28 : V10 (mo + 22) = some (.inl (X.2.1 0, 8, .inl bg)) := by rw [eV11, hv_un (by omega)]; exact b2
          have hV29 : V10 (mo + 41) = some (.inl (X.2.1 0, 6, .inl σ.2.2.2.1)) := by rw [eV11, hv_un (by omega)]; exact t1
          have hV30 : V10 (mo + 42) = some (.inl (X.2.1 0, 6, .inl (fun j => nI (σ.2.2.2.2.1 j)))) := by rw [eV11, hv_un (by omega)]; exact t2
          have hV31 : V10 (mo + 43) = some (.inl (X.2.1 7, 6, .inr (.inr (.inr (.inr tf))))) := by rw [eV11, hv_un (by omega)]; exact t3
          have hV32 : V10 (mo + 18) = some (.inl (X.2.1 0, 8, .inl (upd ef (σ.1.2.2.1.1) k))) := by rw [eV11]; exact hv_us
          refine lv_aload_n C0.1 C0.2.1 dX7_event_52 rfl (lv_at hl 0 rfl) ?_
          refine gf_X7_51 C0 w hV12 rfl dX7_event_53 ?_
          refine lv_aload_n C0.1 C0.2.1 dX7_event_56 rfl (lv_at hl 0 rfl) ?_
          refine gf_X7_285 C0 w hV12 rfl dX7_event_57 ?_
          refine lv_iload_n C0.1 C0.2.1 dX7_event_60 rfl (lv_at hl 2 rfl) ?_
          refine hv_iast C0 w hV26 (hn_in hlt (by decide)) dX7_event_61 (fun Hq lq w => ?_)
          have hc33 : (nI σ.1.2.2.1.1).toNatClampNeg = σ.1.2.2.1.1 := nI_clamp (by omega)
          rw [hc33] at w
          obtain ⟨V34, eV35⟩ : ∃ V9, V9 = hv_up V10 (mo + 19) (.inl (X.2.1 0, 8, .inl (upd eg (σ.1.2.2.1.1) r))) := ⟨_, rfl⟩
          have w : hv_w X s V34 Hq lq := by rw [eV35]; exact w
          have hV36 : V34 mo = some (.inr (7, [.ref (mo + 1), .ref (mo + 2), .ref (mo + 3), .long ab, .long be, .ref (mo + 10), .int (nI σ.2.2.1.1), .int pl, .int cl, .ref (mo + 11), .ref (mo + 12), .ref (mo + 13), .int sg, .ref (mo + 14), .ref (mo + 15), .ref (mo + 16), .ref (mo + 17), .int (nI σ.1.2.1.1), .ref (mo + 18), .ref (mo + 19), .int (nI σ.1.2.2.1.1), .ref (mo + 20), .ref (mo + 21), .ref (mo + 22), .int (nI σ.1.2.2.2.1), .int ik, .ref (mo + 23), .ref (mo + 24), .ref (mo + 25), .ref (mo + 26), .ref (mo + 33), .ref (mo + 41), .ref (mo + 42), .ref (mo + 43)])) := by rw [eV35, hv_un (by omega)]; exact hV12
          have hV37 : V34 (mo + 1) = some (.inl (X.2.1 0, 6, .inl σ.1.1.1)) := by rw [eV35, hv_un (by omega)]; exact hV13
          have hV38 : V34 (mo + 2) = some (.inl (X.2.1 0, 6, .inl (fun j => nI (σ.1.1.2.1 j)))) := by rw [eV35, hv_un (by omega)]; exact hV14
          have hV39 : V34 (mo + 3) = some (.inl (X.2.1 6, 6, .inr (.inr (.inr (.inr rf))))) := by rw [eV35, hv_un (by omega)]; exact hV15
          have hV40 : V34 (mo + 10) = some (.inl (X.2.1 2, 100, .inl σ.2.2.1.2)) := by rw [eV35, hv_un (by omega)]; exact hV16
          have hV41 : V34 (mo + 11) = some (.inl (X.2.1 0, 12, .inl wd)) := by rw [eV35, hv_un (by omega)]; exact hV17
          have hV42 : V34 (mo + 12) = some (.inl (X.2.1 0, 48, .inl td)) := by rw [eV35, hv_un (by omega)]; exact hV18
          have hV43 : V34 (mo + 13) = some (.inl (X.2.1 2, 178, .inl sn)) := by rw [eV35, hv_un (by omega)]; exact hV19
          have hV44 : V34 (mo + 14) = some (.inl (X.2.1 0, 3, .inl ut)) := by rw [eV35, hv_un (by omega)]; exact hV20
          have hV45 : V34 (mo + 20) = some (.inl (X.2.1 0, 16, .inl kn)) := by rw [eV35, hv_un (by omega)]; exact hV21
          have hV46 : V34 (mo + 15) = some (.inl (X.2.1 0, 4, .inl sf)) := by rw [eV35, hv_un (by omega)]; exact hV22
          have hV47 : V34 (mo + 16) = some (.inl (X.2.1 0, 4, .inl sg9)) := by rw [eV35, hv_un (by omega)]; exact hV23
          have hV48 : V34 (mo + 17) = some (.inl (X.2.1 0, 4, .inl sh)) := by rw [eV35, hv_un (by omega)]; exact hV24
          have hV50 : V34 (mo + 21) = some (.inl (X.2.1 0, 8, .inl bf)) := by rw [eV35, hv_un (by omega)]; exact hV27
          have hV51 : V34 (mo + 22) = some (.inl (X.2.1 0, 8, .inl bg)) := by rw [eV35, hv_un (by omega)]; exact hV28
          have hV52 : V34 (mo + 41) = some (.inl (X.2.1 0, 6, .inl σ.2.2.2.1)) := by rw [eV35, hv_un (by omega)]; exact hV29
          have hV53 : V34 (mo + 42) = some (.inl (X.2.1 0, 6, .inl (fun j => nI (σ.2.2.2.2.1 j)))) := by rw [eV35, hv_un (by omega)]; exact hV30
          have hV54 : V34 (mo + 43) = some (.inl (X.2.1 7, 6, .inr (.inr (.inr (.inr tf))))) := by rw [eV35, hv_un (by omega)]; exact hV31
          have hV55 : V34 (mo + 18) = some (.inl (X.2.1 0, 8, .inl (upd ef (σ.1.2.2.1.1) k))) := by rw [eV35, hv_un (by omega)]; exact hV32
          have hV56 : V34 (mo + 19) = some (.inl (X.2.1 0, 8, .inl (upd eg (σ.1.2.2.1.1) r))) := by rw [eV35]; exact hv_us
          refine lv_aload_n C0.1 C0.2.1 dX7_event_62 rfl (lv_at hl 0 rfl) ?_
          refine lv_dup C0.1 C0.2.1 dX7_event_63 rfl ?_
          refine gf_X7_285 C0 w hV36 rfl dX7_event_64 ?_
          refine lv_iconst (v := 1) C0.1 C0.2.1 dX7_event_67 (by decide) ?_
          refine lv_iadd C0.1 C0.2.1 dX7_event_68 ?_
          rw [nI_1]
          refine pf_X7_285 C0 w hV36 (by simp) dX7_event_69 (fun Hq lq w => ?_)
          obtain ⟨V57, eV58⟩ : ∃ V9, V9 = hv_up V34 mo (.inr (7, [.ref (mo + 1), .ref (mo + 2), .ref (mo + 3), .long ab, .long be, .ref (mo + 10), .int (nI σ.2.2.1.1), .int pl, .int cl, .ref (mo + 11), .ref (mo + 12), .ref (mo + 13), .int sg, .ref (mo + 14), .ref (mo + 15), .ref (mo + 16), .ref (mo + 17), .int (nI σ.1.2.1.1), .ref (mo + 18), .ref (mo + 19), .int (nI (σ.1.2.2.1.1 + 1)), .ref (mo + 20), .ref (mo + 21), .ref (mo + 22), .int (nI σ.1.2.2.2.1), .int ik, .ref (mo + 23), .ref (mo + 24), .ref (mo + 25), .ref (mo + 26), .ref (mo + 33), .ref (mo + 41), .ref (mo + 42), .ref (mo + 43)])) := ⟨_, rfl⟩
          have w : hv_w X s V57 Hq lq := by rw [eV58]; exact w
          have hV60 : V57 (mo + 1) = some (.inl (X.2.1 0, 6, .inl σ.1.1.1)) := by rw [eV58, hv_un (by omega)]; exact hV37
          have hV61 : V57 (mo + 2) = some (.inl (X.2.1 0, 6, .inl (fun j => nI (σ.1.1.2.1 j)))) := by rw [eV58, hv_un (by omega)]; exact hV38
          have hV62 : V57 (mo + 3) = some (.inl (X.2.1 6, 6, .inr (.inr (.inr (.inr rf))))) := by rw [eV58, hv_un (by omega)]; exact hV39
          have hV63 : V57 (mo + 10) = some (.inl (X.2.1 2, 100, .inl σ.2.2.1.2)) := by rw [eV58, hv_un (by omega)]; exact hV40
          have hV64 : V57 (mo + 11) = some (.inl (X.2.1 0, 12, .inl wd)) := by rw [eV58, hv_un (by omega)]; exact hV41
          have hV65 : V57 (mo + 12) = some (.inl (X.2.1 0, 48, .inl td)) := by rw [eV58, hv_un (by omega)]; exact hV42
          have hV66 : V57 (mo + 13) = some (.inl (X.2.1 2, 178, .inl sn)) := by rw [eV58, hv_un (by omega)]; exact hV43
          have hV67 : V57 (mo + 14) = some (.inl (X.2.1 0, 3, .inl ut)) := by rw [eV58, hv_un (by omega)]; exact hV44
          have hV68 : V57 (mo + 20) = some (.inl (X.2.1 0, 16, .inl kn)) := by rw [eV58, hv_un (by omega)]; exact hV45
          have hV69 : V57 (mo + 15) = some (.inl (X.2.1 0, 4, .inl sf)) := by rw [eV58, hv_un (by omega)]; exact hV46
          have hV70 : V57 (mo + 16) = some (.inl (X.2.1 0, 4, .inl sg9)) := by rw [eV58, hv_un (by omega)]; exact hV47
          have hV71 : V57 (mo + 17) = some (.inl (X.2.1 0, 4, .inl sh)) := by rw [eV58, hv_un (by omega)]; exact hV48
          have hV72 : V57 (mo + 21) = some (.inl (X.2.1 0, 8, .inl bf)) := by rw [eV58, hv_un (by omega)]; exact hV50
          have hV73 : V57 (mo + 22) = some (.inl (X.2.1 0, 8, .inl bg)) := by rw [eV58, hv_un (by omega)]; exact hV51
          have hV74 : V57 (mo + 41) = some (.inl (X.2.1 0, 6, .inl σ.2.2.2.1)) := by rw [eV58, hv_un (by omega)]; exact hV52
          have hV75 : V57 (mo + 42) = some (.inl (X.2.1 0, 6, .inl (fun j => nI (σ.2.2.2.2.1 j)))) := by rw [eV58, hv_un (by omega)]; exact hV53
          have hV76 : V57 (mo + 43) = some (.inl (X.2.1 7, 6, .inr (.inr (.inr (.inr tf))))) := by rw [eV58, hv_un (by omega)]; exact hV54
          have hV77 : V57 (mo + 18) = some (.inl (X.2.1 0, 8, .inl (upd ef (σ.1.2.2.1.1) k))) := by rw [eV58, hv_un (by omega)]; exact hV55
          have hV78 : V57 (mo + 19) = some (.inl (X.2.1 0, 8, .inl (upd eg (σ.1.2.2.1.1) r))) := by rw [eV58, hv_un (by omega)]; exact hV56
          have hV79 : V57 mo = some (.inr (7, [.ref (mo + 1), .ref (mo + 2), .ref (mo + 3), .long ab, .long be, .ref (mo + 10), .int (nI σ.2.2.1.1), .int pl, .int cl, .ref (mo + 11), .ref (mo + 12), .ref (mo + 13), .int sg, .ref (mo + 14), .ref (mo + 15), .ref (mo + 16), .ref (mo + 17), .int (nI σ.1.2.1.1), .ref (mo + 18), .ref (mo + 19), .int (nI (σ.1.2.2.1.1 + 1)), .ref (mo + 20), .ref (mo + 21), .ref (mo + 22), .int (nI σ.1.2.2.2.1), .int ik, .ref (mo + 23), .ref (mo + 24), .ref (mo + 25), .ref (mo + 26), .ref (mo + 33), .ref (mo + 41), .ref (mo + 42), .ref (mo + 43)])) := by rw [eV58]; exact hv_us
          refine lv_aload_n C0.1 C0.2.1 dX7_event_72 rfl (lv_at hl 0 rfl) ?_
          refine gf_X7_285 C0 w hV79 rfl dX7_event_73 ?_
          exact hv_iret C0 w hr hlk (by rw [sp_event, if_neg c_2, if_pos ⟨hb4, hb8⟩, if_pos hlt]; exact ⟨rfl, ⟨ab, be, pl, cl, sg, ik, (by rw [eV58]; exact hv_us), hRw.fr (fun q h7 h8 => by rw [eV58, hv_un (by omega), eV35, hv_un (by omega), eV11, hv_un (by omega)]), (by rw [eV58, hv_un (by omega), eV35, hv_un (by omega), eV11, hv_un (by omega)] : _ = V (mo + 10)).trans hTx, hSc.fr (fun q h7 h8 => by rw [eV58, hv_un (by omega), eV35, hv_un (by omega), eV11, hv_un (by omega)]) (fun q h7 h8 => by rw [eV58, hv_un (by omega), eV35, hv_un (by omega), eV11, hv_un (by omega)]), hSe.fr (fun q h7 h8 => by rw [eV58, hv_un (by omega), eV35, hv_un (by omega), eV11, hv_un (by omega)]), om_two.put (by rw [eV58, hv_un (by omega), eV35, hv_un (by omega), eV11]; exact hv_us) (by rw [eV58, hv_un (by omega), eV35]; exact hv_us) va, hBk.fr (by rw [eV58, hv_un (by omega), eV35, hv_un (by omega), eV11, hv_un (by omega)]) (by rw [eV58, hv_un (by omega), eV35, hv_un (by omega), eV11, hv_un (by omega)]), hIm.fr (fun q h7 h8 => by rw [eV58, hv_un (by omega), eV35, hv_un (by omega), eV11, hv_un (by omega)]), hTp.fr (fun q h7 h8 => by rw [eV58, hv_un (by omega), eV35, hv_un (by omega), eV11, hv_un (by omega)])⟩, (fun q h7 => by rw [eV58, hv_un (by omega), eV35, hv_un (by omega), eV11, hv_un (by omega)])⟩) dX7_event_76
        · skip
          refine lv_bipush (v := -4) C0.1 C0.2.1 dX7_event_39 (by decide) ?_
          exact hv_iret C0 w hr hlk (by rw [sp_event, if_neg c_2, if_pos ⟨hb4, hb8⟩, if_neg (fun h9 => by have h8 := (nI_eq (a := σ.1.2.2.1.1) (b := 8) (by omega) (by omega)).mp c_36; omega)]; exact ⟨rfl, hM, hv_out.rf⟩) dX7_event_41
      · skip
        refine lv_if_ne (tgt := 30) C0.1 C0.2.1 dX7_event_25 (by decide) (fun h9 => absurd h9 (by decide)) (fun _ => ?_)
        refine lv_iconst (v := -1) C0.1 C0.2.1 dX7_event_28 (by decide) ?_
        exact hv_iret C0 w hr hlk (by rw [sp_event, if_neg c_2, if_neg (fun h9 => hb8 h9.2)]; exact ⟨rfl, hM, hv_out.rf⟩) dX7_event_29
    · skip
      refine lv_if_eq (tgt := 28) C0.1 C0.2.1 dX7_event_18 (by decide) (fun _ => ?_) (fun h9 => absurd h9 (by decide))
      refine lv_iconst (v := -1) C0.1 C0.2.1 dX7_event_28 (by decide) ?_
      exact hv_iret C0 w hr hlk (by rw [sp_event, if_neg c_2, if_neg (fun h9 => hb4 h9.1)]; exact ⟨rfl, hM, hv_out.rf⟩) dX7_event_29
  · skip
    refine lv_aload_n C0.1 C0.2.1 dX7_event_5 rfl (lv_at hl 0 rfl) ?_
    refine lv_iconst (v := 0) C0.1 C0.2.1 dX7_event_6 (by decide) ?_
    refine pf_X7_285 C0 w hO (by simp) dX7_event_7 (fun Hq lq w => ?_)
    obtain ⟨V80, eV81⟩ : ∃ V9, V9 = hv_up V mo (.inr (7, [.ref (mo + 1), .ref (mo + 2), .ref (mo + 3), .long ab, .long be, .ref (mo + 10), .int (nI σ.2.2.1.1), .int pl, .int cl, .ref (mo + 11), .ref (mo + 12), .ref (mo + 13), .int sg, .ref (mo + 14), .ref (mo + 15), .ref (mo + 16), .ref (mo + 17), .int (nI σ.1.2.1.1), .ref (mo + 18), .ref (mo + 19), .int 0, .ref (mo + 20), .ref (mo + 21), .ref (mo + 22), .int (nI σ.1.2.2.2.1), .int ik, .ref (mo + 23), .ref (mo + 24), .ref (mo + 25), .ref (mo + 26), .ref (mo + 33), .ref (mo + 41), .ref (mo + 42), .ref (mo + 43)])) := ⟨_, rfl⟩
    have w : hv_w X s V80 Hq lq := by rw [eV81]; exact w
    have hV83 : V80 (mo + 1) = some (.inl (X.2.1 0, 6, .inl σ.1.1.1)) := by rw [eV81, hv_un (by omega)]; exact r1
    have hV84 : V80 (mo + 2) = some (.inl (X.2.1 0, 6, .inl (fun j => nI (σ.1.1.2.1 j)))) := by rw [eV81, hv_un (by omega)]; exact r2
    have hV85 : V80 (mo + 3) = some (.inl (X.2.1 6, 6, .inr (.inr (.inr (.inr rf))))) := by rw [eV81, hv_un (by omega)]; exact r3
    have hV86 : V80 (mo + 10) = some (.inl (X.2.1 2, 100, .inl σ.2.2.1.2)) := by rw [eV81, hv_un (by omega)]; exact hTx
    have hV87 : V80 (mo + 11) = some (.inl (X.2.1 0, 12, .inl wd)) := by rw [eV81, hv_un (by omega)]; exact s1
    have hV88 : V80 (mo + 12) = some (.inl (X.2.1 0, 48, .inl td)) := by rw [eV81, hv_un (by omega)]; exact s2
    have hV89 : V80 (mo + 13) = some (.inl (X.2.1 2, 178, .inl sn)) := by rw [eV81, hv_un (by omega)]; exact s3
    have hV90 : V80 (mo + 14) = some (.inl (X.2.1 0, 3, .inl ut)) := by rw [eV81, hv_un (by omega)]; exact s4
    have hV91 : V80 (mo + 20) = some (.inl (X.2.1 0, 16, .inl kn)) := by rw [eV81, hv_un (by omega)]; exact s5
    have hV92 : V80 (mo + 15) = some (.inl (X.2.1 0, 4, .inl sf)) := by rw [eV81, hv_un (by omega)]; exact e1
    have hV93 : V80 (mo + 16) = some (.inl (X.2.1 0, 4, .inl sg9)) := by rw [eV81, hv_un (by omega)]; exact e2
    have hV94 : V80 (mo + 17) = some (.inl (X.2.1 0, 4, .inl sh)) := by rw [eV81, hv_un (by omega)]; exact e3
    have hV95 : V80 (mo + 18) = some (.inl (X.2.1 0, 8, .inl ef)) := by rw [eV81, hv_un (by omega)]; exact v1
    have hV96 : V80 (mo + 19) = some (.inl (X.2.1 0, 8, .inl eg)) := by rw [eV81, hv_un (by omega)]; exact v2
    have hV97 : V80 (mo + 21) = some (.inl (X.2.1 0, 8, .inl bf)) := by rw [eV81, hv_un (by omega)]; exact b1
    have hV98 : V80 (mo + 22) = some (.inl (X.2.1 0, 8, .inl bg)) := by rw [eV81, hv_un (by omega)]; exact b2
    have hV99 : V80 (mo + 41) = some (.inl (X.2.1 0, 6, .inl σ.2.2.2.1)) := by rw [eV81, hv_un (by omega)]; exact t1
    have hV100 : V80 (mo + 42) = some (.inl (X.2.1 0, 6, .inl (fun j => nI (σ.2.2.2.2.1 j)))) := by rw [eV81, hv_un (by omega)]; exact t2
    have hV101 : V80 (mo + 43) = some (.inl (X.2.1 7, 6, .inr (.inr (.inr (.inr tf))))) := by rw [eV81, hv_un (by omega)]; exact t3
    have hV102 : V80 mo = some (.inr (7, [.ref (mo + 1), .ref (mo + 2), .ref (mo + 3), .long ab, .long be, .ref (mo + 10), .int (nI σ.2.2.1.1), .int pl, .int cl, .ref (mo + 11), .ref (mo + 12), .ref (mo + 13), .int sg, .ref (mo + 14), .ref (mo + 15), .ref (mo + 16), .ref (mo + 17), .int (nI σ.1.2.1.1), .ref (mo + 18), .ref (mo + 19), .int 0, .ref (mo + 20), .ref (mo + 21), .ref (mo + 22), .int (nI σ.1.2.2.2.1), .int ik, .ref (mo + 23), .ref (mo + 24), .ref (mo + 25), .ref (mo + 26), .ref (mo + 33), .ref (mo + 41), .ref (mo + 42), .ref (mo + 43)])) := by rw [eV81]; exact hv_us
    refine lv_iconst (v := 0) C0.1 C0.2.1 dX7_event_10 (by decide) ?_
    exact hv_iret C0 w hr hlk (by rw [sp_event, if_pos c_2]; exact ⟨rfl, ⟨ab, be, pl, cl, sg, ik, (by rw [eV81]; exact hv_us), hRw.fr (fun q h7 h8 => by rw [eV81, hv_un (by omega)]), (by rw [eV81, hv_un (by omega)] : _ = V (mo + 10)).trans hTx, hSc.fr (fun q h7 h8 => by rw [eV81, hv_un (by omega)]) (fun q h7 h8 => by rw [eV81, hv_un (by omega)]), hSe.fr (fun q h7 h8 => by rw [eV81, hv_un (by omega)]), om_two.nil ((by rw [eV81, hv_un (by omega)] : _ = V (mo + 18)).trans v1) ((by rw [eV81, hv_un (by omega)] : _ = V (mo + 19)).trans v2), hBk.fr (by rw [eV81, hv_un (by omega)]) (by rw [eV81, hv_un (by omega)]), hIm.fr (fun q h7 h8 => by rw [eV81, hv_un (by omega)]), hTp.fr (fun q h7 h8 => by rw [eV81, hv_un (by omega)])⟩, (fun q h7 => by rw [eV81, hv_un (by omega)])⟩) dX7_event_11

set_option maxHeartbeats 4000000 in
set_option maxRecDepth 100000 in
theorem c_X7_isSpot {l : Launch} {X : hv_X} {V : hv_V} {mo : Nat} {σ : hs_S} (hM : okM X V mo σ) (hB : hs_b σ) {p9 : Int32} : hv_Mi l X 2 yX7_isSpot cX7_isSpot 2 .boolean V [.ref mo, .int p9] (fun y V1 => V1 = V ∧ hv_B (sp_spot σ p9) y) := by
  refine hv_enter (by decide) (Nat.le_of_ble_eq_true rfl) ?_
  intro p e s m below meth c ls C0 hr hlk hnm w hl
  have hl : lv_has ls 2 [(0, .ref mo), (1, .int p9)] := hl
  obtain ⟨ab, be, pl, cl, sg, ik, hO, hRw, hTx, hSc, hSe, hEv, hBk, hIm, hTp⟩ := id hM
  obtain ⟨r1, r2, ⟨rf, r3, r4⟩, r5⟩ := id hRw
  obtain ⟨⟨wd, s1⟩, ⟨td, s2⟩, ⟨sn, s3⟩, ⟨ut, s4⟩, kn, s5⟩ := id hSc
  obtain ⟨sf, sg9, sh, e1, e2, e3, ea⟩ := id hSe
  obtain ⟨ef, eg, v1, v2, va⟩ := id hEv
  obtain ⟨bf, bg, b1, b2, ba⟩ := id hBk
  obtain ⟨t1, t2, ⟨tf, t3, t4⟩, t5⟩ := id hTp
  have hbR := hB.1.1
  refine lv_iload_n C0.1 C0.2.1 dX7_isSpot_0 rfl (lv_at hl 1 rfl) ?_
  refine lv_if_lt (tgt := 34) C0.1 C0.2.1 dX7_isSpot_1 (by decide) (fun c_1 => ?_) (fun c_1 => ?_)
  · skip
    refine lv_iconst (v := 0) C0.1 C0.2.1 dX7_isSpot_34 (by decide) ?_
    exact hv_zret C0 w hr hlk (by decide) (⟨rfl, Or.inr ⟨rfl, fun h9 => absurd c_1 (Int32.not_lt.mpr h9.1)⟩⟩) dX7_isSpot_35
  · skip
    refine lv_iload_n C0.1 C0.2.1 dX7_isSpot_4 rfl (lv_at hl 1 rfl) ?_
    refine lv_bipush (v := 100) C0.1 C0.2.1 dX7_isSpot_5 (by decide) ?_
    refine lv_idiv C0.1 C0.2.1 dX7_isSpot_7 (by decide) ?_
    refine hv_cSi (As := [.int (p9 / 100)]) C0 w kl_X7_135 ks_X7_isRow (c_X7_isRow) (by decide) (by decide) rfl hl.1 rfl (Nat.le_of_ble_eq_true rfl) dX7_isSpot_8 ⟨Nat.le_refl _, Nat.le_refl _⟩ (fun x1 V2 Hq lq hp3 w => ?_)
    obtain ⟨e9, hz9⟩ := hp3
    rw [e9] at w; clear e9
    rcases hz9 with ⟨rfl, hb4⟩ | ⟨rfl, hb4⟩
    · skip
      obtain ⟨j1, hj1, ej⟩ := sp_inN (k := 5) (by decide) hb4
      have kj1 : (nI j1).toNatClampNeg = j1 := nI_clamp (by omega)
      have hN_j1 : V (mo + 4 + j1) = some (nE X (σ.1.1.2.2 j1)) := r5 j1 hj1
      have hn_j1 : σ.1.1.2.1 j1 ≤ 16 := (hbR j1 hj1).2.1
      refine lv_if_eq (tgt := 34) C0.1 C0.2.1 dX7_isSpot_11 (by decide) (fun h9 => absurd h9 (by decide)) (fun _ => ?_)
      refine lv_iload_n C0.1 C0.2.1 dX7_isSpot_14 rfl (lv_at hl 1 rfl) ?_
      refine lv_bipush (v := 100) C0.1 C0.2.1 dX7_isSpot_15 (by decide) ?_
      refine lv_irem C0.1 C0.2.1 dX7_isSpot_17 (by decide) ?_
      refine lv_aload_n C0.1 C0.2.1 dX7_isSpot_18 rfl (lv_at hl 0 rfl) ?_
      refine gf_X7_15 C0 w hO rfl dX7_isSpot_19 ?_
      refine lv_iload_n C0.1 C0.2.1 dX7_isSpot_22 rfl (lv_at hl 1 rfl) ?_
      refine lv_bipush (v := 100) C0.1 C0.2.1 dX7_isSpot_23 (by decide) ?_
      refine lv_idiv C0.1 C0.2.1 dX7_isSpot_25 (by decide) ?_
      refine hv_iald C0 w r2 (by rw [ej]; exact hn_in hj1 (by decide)) dX7_isSpot_26 ?_
      refine lv_icmp_ge (tgt := 34) C0.1 C0.2.1 dX7_isSpot_27 (by decide) (fun c_27 => ?_) (fun c_27 => ?_)
      · skip
        refine lv_iconst (v := 0) C0.1 C0.2.1 dX7_isSpot_34 (by decide) ?_
        exact hv_zret C0 w hr hlk (by decide) (⟨rfl, Or.inr ⟨rfl, fun h9 => absurd c_27 (Int32.not_le.mpr h9.2.2)⟩⟩) dX7_isSpot_35
      · skip
        refine lv_iconst (v := 1) C0.1 C0.2.1 dX7_isSpot_30 (by decide) ?_
        refine lv_goto (tgt := 35) C0.1 C0.2.1 dX7_isSpot_31 (by decide) ?_
        exact hv_zret C0 w hr hlk (by decide) (⟨rfl, Or.inl ⟨rfl, Int32.not_lt.mp c_1, hb4, Int32.not_le.mp c_27⟩⟩) dX7_isSpot_35
    · skip
      refine lv_if_eq (tgt := 34) C0.1 C0.2.1 dX7_isSpot_11 (by decide) (fun _ => ?_) (fun h9 => absurd h9 (by decide))
      refine lv_iconst (v := 0) C0.1 C0.2.1 dX7_isSpot_34 (by decide) ?_
      exact hv_zret C0 w hr hlk (by decide) (⟨rfl, Or.inr ⟨rfl, fun h9 => hb4 h9.2.1⟩⟩) dX7_isSpot_35

set_option maxHeartbeats 4000000 in
set_option maxRecDepth 100000 in
theorem m_X7_book {l : Launch} {X : hv_X} {V : hv_V} {mo : Nat} {σ : hs_S} (hM : okM X V mo σ) (hB : hs_b σ) {p9 v : Int32} : hv_Mi l X 220 yX7_book cX7_book 3 .int V [.ref mo, .int p9, .int v] (fun y V1 => y = (sp_book σ p9 v).1 ∧ okM X V1 mo (sp_book σ p9 v).2 ∧ hv_out V V1 mo (mo + 50)) := by
  refine hv_enter (by decide) (Nat.le_of_ble_eq_true rfl) ?_
  intro p e s m below meth c ls C0 hr hlk hnm w hl
  have hl : lv_has ls 3 [(0, .ref mo), (1, .int p9), (2, .int v)] := hl
  obtain ⟨ab, be, pl, cl, sg, ik, hO, hRw, hTx, hSc, hSe, hEv, hBk, hIm, hTp⟩ := id hM
  obtain ⟨r1, r2, ⟨rf, r3, r4⟩, r5⟩ := id hRw
  obtain ⟨⟨wd, s1⟩, ⟨td, s2⟩, ⟨sn, s3⟩, ⟨ut, s4⟩, kn, s5⟩ := id hSc
  obtain ⟨sf, sg9, sh, e1, e2, e3, ea⟩ := id hSe
  obtain ⟨ef, eg, v1, v2, va⟩ := id hEv
  obtain ⟨bf, bg, b1, b2, ba⟩ := id hBk
  obtain ⟨t1, t2, ⟨tf, t3, t4⟩, t5⟩ := id hTp
  have hbR := hB.1.1
  have hbn := hB.1.2.2.2.1
  refine lv_iload_n C0.1 C0.2.1 dX7_book_0 rfl (lv_at hl 1 rfl) ?_
  refine lv_iconst (v := -1) C0.1 C0.2.1 dX7_book_1 (by decide) ?_
  refine lv_icmp_ne (tgt := 12) C0.1 C0.2.1 dX7_book_2 (by decide) (fun c_2 => ?_) (fun c_2 => ?_)
  · skip
    refine lv_aload_n C0.1 C0.2.1 dX7_book_12 rfl (lv_at hl 0 rfl) ?_
    refine lv_iload_n C0.1 C0.2.1 dX7_book_13 rfl (lv_at hl 1 rfl) ?_
    refine hv_cVi C0 w kl_X7_300 kv_X7_isSpot rfl hO (c_X7_isSpot hM hB) (by decide) (by decide) rfl hl.1 rfl (Nat.le_of_ble_eq_true rfl) dX7_book_14 ⟨Nat.le_refl _, Nat.le_refl _⟩ (fun x1 V2 Hq lq hp3 w => ?_)
    obtain ⟨e9, hz9⟩ := hp3
    rw [e9] at w; clear e9
    rcases hz9 with ⟨rfl, hb4⟩ | ⟨rfl, hb4⟩
    · skip
      refine lv_if_ne (tgt := 22) C0.1 C0.2.1 dX7_book_17 (by decide) (fun _ => ?_) (fun h9 => absurd h9 (by decide))
      refine lv_iload_n C0.1 C0.2.1 dX7_book_22 rfl (lv_at hl 2 rfl) ?_
      refine lv_iconst (v := 0) C0.1 C0.2.1 dX7_book_23 (by decide) ?_
      refine lv_ldc C0.1 C0.2.1 C0.2.2.2.1 (C0.2.2.2.2.1 _ kk_X7_147) dX7_book_24 ?_
      refine hv_cSi (As := [.int v, .int 0, .int 1000000000]) C0 w kl_X7_89 ks_X7_in (c_X7_in) (by decide) (by decide) rfl hl.1 rfl (Nat.le_of_ble_eq_true rfl) dX7_book_26 ⟨Nat.le_refl _, Nat.le_refl _⟩ (fun x5 V6 Hq lq hp7 w => ?_)
      obtain ⟨e9, hz9⟩ := hp7
      rw [e9] at w; clear e9
      rcases hz9 with ⟨rfl, hb8⟩ | ⟨rfl, hb8⟩
      · skip
        refine lv_if_ne (tgt := 35) C0.1 C0.2.1 dX7_book_29 (by decide) (fun _ => ?_) (fun h9 => absurd h9 (by decide))
        refine lv_aload_n C0.1 C0.2.1 dX7_book_35 rfl (lv_at hl 0 rfl) ?_
        refine gf_X7_297 C0 w hO rfl dX7_book_36 ?_
        refine lv_bipush (v := 8) C0.1 C0.2.1 dX7_book_39 (by decide) ?_
        refine lv_icmp_ne (tgt := 47) C0.1 C0.2.1 dX7_book_41 (by decide) (fun c_41 => ?_) (fun c_41 => ?_)
        · skip
          have hlt : σ.1.2.2.2.1 < 8 := by
            rcases Nat.lt_or_ge (σ.1.2.2.2.1) 8 with h9 | h9
            · exact h9
            · exact absurd (show nI (σ.1.2.2.2.1) = nI 8 from by rw [show σ.1.2.2.2.1 = 8 by omega]) c_41
          refine lv_aload_n C0.1 C0.2.1 dX7_book_47 rfl (lv_at hl 0 rfl) ?_
          refine gf_X7_57 C0 w hO rfl dX7_book_48 ?_
          refine lv_aload_n C0.1 C0.2.1 dX7_book_51 rfl (lv_at hl 0 rfl) ?_
          refine gf_X7_297 C0 w hO rfl dX7_book_52 ?_
          refine lv_iload_n C0.1 C0.2.1 dX7_book_55 rfl (lv_at hl 1 rfl) ?_
          refine hv_iast C0 w b1 (hn_in hlt (by decide)) dX7_book_56 (fun Hq lq w => ?_)
          have hc9 : (nI σ.1.2.2.2.1).toNatClampNeg = σ.1.2.2.2.1 := nI_clamp (by omega)
          rw [hc9] at w
          obtain ⟨V10, eV11⟩ : ∃ V9, V9 = hv_up V (mo + 21) (.inl (X.2.1 0, 8, .inl (upd bf (σ.1.2.2.2.1) p9))) := ⟨_, rfl⟩
          have w : hv_w X s V10 Hq lq := by rw [eV11]; exact w
          have hV12 : V10 mo = some (.inr (7, [.ref (mo + 1), .ref (mo + 2), .ref (mo + 3), .long ab, .long be, .ref (mo + 10), .int (nI σ.2.2.1.1), .int pl, .int cl, .ref (mo + 11), .ref (mo + 12), .ref (mo + 13), .int sg, .ref (mo + 14), .ref (mo + 15), .ref (mo + 16), .ref (mo + 17), .int (nI σ.1.2.1.1), .ref (mo + 18), .ref (mo + 19), .int (nI σ.1.2.2.1.1), .ref (mo + 20), .ref (mo + 21), .ref (mo + 22), .int (nI σ.1.2.2.2.1), .int ik, .ref (mo + 23), .ref (mo + 24), .ref (mo + 25), .ref (mo + 26), .ref (mo + 33), .ref (mo + 41), .ref (mo + 42), .ref (mo + 43)])) := by rw [eV11, hv_un (by omega)]; exact hO
          have hV13 : V10 (mo + 1) = some (.inl (X.2.1 0, 6, .inl σ.1.1.1)) := by rw [eV11, hv_un (by omega)]; exact r1
          have hV14 : V10 (mo + 2) = some (.inl (X.2.1 0, 6, .inl (fun j => nI (σ.1.1.2.1 j)))) := by rw [eV11, hv_un (by omega)]; exact r2
          have hV15 : V10 (mo + 3) = some (.inl (X.2.1 6, 6, .inr (.inr (.inr (.inr rf))))) := by rw [eV11, hv_un (by omega)]; exact r3
          have hV16 : V10 (mo + 10) = some (.inl (X.2.1 2, 100, .inl σ.2.2.1.2)) := by rw [eV11, hv_un (by omega)]; exact hTx
          have hV17 : V10 (mo + 11) = some (.inl (X.2.1 0, 12, .inl wd)) := by rw [eV11, hv_un (by omega)]; exact s1
          have hV18 : V10 (mo + 12) = some (.inl (X.2.1 0, 48, .inl td)) := by rw [eV11, hv_un (by omega)]; exact s2
          have hV19 : V10 (mo + 13) = some (.inl (X.2.1 2, 178, .inl sn)) := by rw [eV11, hv_un (by omega)]; exact s3
          have hV20 : V10 (mo + 14) = some (.inl (X.2.1 0, 3, .inl ut)) := by rw [eV11, hv_un (by omega)]; exact s4
          have hV21 : V10 (mo + 20) = some (.inl (X.2.1 0, 16, .inl kn)) := by rw [eV11, hv_un (by omega)]; exact s5
          have hV22 : V10 (mo + 15) = some (.inl (X.2.1 0, 4, .inl sf)) := by rw [eV11, hv_un (by omega)]; exact e1
          have hV23 : V10 (mo + 16) = some (.inl (X.2.1 0, 4, .inl sg9)) := by rw [eV11, hv_un (by omega)]; exact e2
          have hV24 : V10 (mo + 17) = some (.inl (X.2.1 0, 4, .inl sh)) := by rw [eV11, hv_un (by omega)]; exact e3
          have hV25 : V10 (mo + 18) = some (.inl (X.2.1 0, 8, .inl ef)) := by rw [eV11, hv_un (by omega)]; exact v1
          have hV26 : V10 (mo + 19) = some (.inl (X.2.1 0, 8, .inl eg)) := by rw [eV11, hv_un (by omega)]; exact v2
          have hV28 : V10 (mo + 22) = some (.inl (X.2.1 0, 8, .inl bg)) := by rw [eV11, hv_un (by omega)]; exact b2
          have hV29 : V10 (mo + 41) = some (.inl (X.2.1 0, 6, .inl σ.2.2.2.1)) := by rw [eV11, hv_un (by omega)]; exact t1
          have hV30 : V10 (mo + 42) = some (.inl (X.2.1 0, 6, .inl (fun j => nI (σ.2.2.2.2.1 j)))) := by rw [eV11, hv_un (by omega)]; exact t2
          have hV31 : V10 (mo + 43) = some (.inl (X.2.1 7, 6, .inr (.inr (.inr (.inr tf))))) := by rw [eV11, hv_un (by omega)]; exact t3
          have hV32 : V10 (mo + 21) = some (.inl (X.2.1 0, 8, .inl (upd bf (σ.1.2.2.2.1) p9))) := by rw [eV11]; exact hv_us
          refine lv_aload_n C0.1 C0.2.1 dX7_book_57 rfl (lv_at hl 0 rfl) ?_
          refine gf_X7_60 C0 w hV12 rfl dX7_book_58 ?_
          refine lv_aload_n C0.1 C0.2.1 dX7_book_61 rfl (lv_at hl 0 rfl) ?_
          refine gf_X7_297 C0 w hV12 rfl dX7_book_62 ?_
          refine lv_iload_n C0.1 C0.2.1 dX7_book_65 rfl (lv_at hl 2 rfl) ?_
          refine hv_iast C0 w hV28 (hn_in hlt (by decide)) dX7_book_66 (fun Hq lq w => ?_)
          have hc33 : (nI σ.1.2.2.2.1).toNatClampNeg = σ.1.2.2.2.1 := nI_clamp (by omega)
          rw [hc33] at w
          obtain ⟨V34, eV35⟩ : ∃ V9, V9 = hv_up V10 (mo + 22) (.inl (X.2.1 0, 8, .inl (upd bg (σ.1.2.2.2.1) v))) := ⟨_, rfl⟩
          have w : hv_w X s V34 Hq lq := by rw [eV35]; exact w
          have hV36 : V34 mo = some (.inr (7, [.ref (mo + 1), .ref (mo + 2), .ref (mo + 3), .long ab, .long be, .ref (mo + 10), .int (nI σ.2.2.1.1), .int pl, .int cl, .ref (mo + 11), .ref (mo + 12), .ref (mo + 13), .int sg, .ref (mo + 14), .ref (mo + 15), .ref (mo + 16), .ref (mo + 17), .int (nI σ.1.2.1.1), .ref (mo + 18), .ref (mo + 19), .int (nI σ.1.2.2.1.1), .ref (mo + 20), .ref (mo + 21), .ref (mo + 22), .int (nI σ.1.2.2.2.1), .int ik, .ref (mo + 23), .ref (mo + 24), .ref (mo + 25), .ref (mo + 26), .ref (mo + 33), .ref (mo + 41), .ref (mo + 42), .ref (mo + 43)])) := by rw [eV35, hv_un (by omega)]; exact hV12
          have hV37 : V34 (mo + 1) = some (.inl (X.2.1 0, 6, .inl σ.1.1.1)) := by rw [eV35, hv_un (by omega)]; exact hV13
          have hV38 : V34 (mo + 2) = some (.inl (X.2.1 0, 6, .inl (fun j => nI (σ.1.1.2.1 j)))) := by rw [eV35, hv_un (by omega)]; exact hV14
          have hV39 : V34 (mo + 3) = some (.inl (X.2.1 6, 6, .inr (.inr (.inr (.inr rf))))) := by rw [eV35, hv_un (by omega)]; exact hV15
          have hV40 : V34 (mo + 10) = some (.inl (X.2.1 2, 100, .inl σ.2.2.1.2)) := by rw [eV35, hv_un (by omega)]; exact hV16
          have hV41 : V34 (mo + 11) = some (.inl (X.2.1 0, 12, .inl wd)) := by rw [eV35, hv_un (by omega)]; exact hV17
          have hV42 : V34 (mo + 12) = some (.inl (X.2.1 0, 48, .inl td)) := by rw [eV35, hv_un (by omega)]; exact hV18
          have hV43 : V34 (mo + 13) = some (.inl (X.2.1 2, 178, .inl sn)) := by rw [eV35, hv_un (by omega)]; exact hV19
          have hV44 : V34 (mo + 14) = some (.inl (X.2.1 0, 3, .inl ut)) := by rw [eV35, hv_un (by omega)]; exact hV20
          have hV45 : V34 (mo + 20) = some (.inl (X.2.1 0, 16, .inl kn)) := by rw [eV35, hv_un (by omega)]; exact hV21
          have hV46 : V34 (mo + 15) = some (.inl (X.2.1 0, 4, .inl sf)) := by rw [eV35, hv_un (by omega)]; exact hV22
          have hV47 : V34 (mo + 16) = some (.inl (X.2.1 0, 4, .inl sg9)) := by rw [eV35, hv_un (by omega)]; exact hV23
          have hV48 : V34 (mo + 17) = some (.inl (X.2.1 0, 4, .inl sh)) := by rw [eV35, hv_un (by omega)]; exact hV24
          have hV49 : V34 (mo + 18) = some (.inl (X.2.1 0, 8, .inl ef)) := by rw [eV35, hv_un (by omega)]; exact hV25
          have hV50 : V34 (mo + 19) = some (.inl (X.2.1 0, 8, .inl eg)) := by rw [eV35, hv_un (by omega)]; exact hV26
          have hV52 : V34 (mo + 41) = some (.inl (X.2.1 0, 6, .inl σ.2.2.2.1)) := by rw [eV35, hv_un (by omega)]; exact hV29
          have hV53 : V34 (mo + 42) = some (.inl (X.2.1 0, 6, .inl (fun j => nI (σ.2.2.2.2.1 j)))) := by rw [eV35, hv_un (by omega)]; exact hV30
          have hV54 : V34 (mo + 43) = some (.inl (X.2.1 7, 6, .inr (.inr (.inr (.inr tf))))) := by rw [eV35, hv_un (by omega)]; exact hV31
          have hV55 : V34 (mo + 21) = some (.inl (X.2.1 0, 8, .inl (upd bf (σ.1.2.2.2.1) p9))) := by rw [eV35, hv_un (by omega)]; exact hV32
          have hV56 : V34 (mo + 22) = some (.inl (X.2.1 0, 8, .inl (upd bg (σ.1.2.2.2.1) v))) := by rw [eV35]; exact hv_us
          refine lv_aload_n C0.1 C0.2.1 dX7_book_67 rfl (lv_at hl 0 rfl) ?_
          refine lv_dup C0.1 C0.2.1 dX7_book_68 rfl ?_
          refine gf_X7_297 C0 w hV36 rfl dX7_book_69 ?_
          refine lv_iconst (v := 1) C0.1 C0.2.1 dX7_book_72 (by decide) ?_
          refine lv_iadd C0.1 C0.2.1 dX7_book_73 ?_
          rw [nI_1]
          refine pf_X7_297 C0 w hV36 (by simp) dX7_book_74 (fun Hq lq w => ?_)
          obtain ⟨V57, eV58⟩ : ∃ V9, V9 = hv_up V34 mo (.inr (7, [.ref (mo + 1), .ref (mo + 2), .ref (mo + 3), .long ab, .long be, .ref (mo + 10), .int (nI σ.2.2.1.1), .int pl, .int cl, .ref (mo + 11), .ref (mo + 12), .ref (mo + 13), .int sg, .ref (mo + 14), .ref (mo + 15), .ref (mo + 16), .ref (mo + 17), .int (nI σ.1.2.1.1), .ref (mo + 18), .ref (mo + 19), .int (nI σ.1.2.2.1.1), .ref (mo + 20), .ref (mo + 21), .ref (mo + 22), .int (nI (σ.1.2.2.2.1 + 1)), .int ik, .ref (mo + 23), .ref (mo + 24), .ref (mo + 25), .ref (mo + 26), .ref (mo + 33), .ref (mo + 41), .ref (mo + 42), .ref (mo + 43)])) := ⟨_, rfl⟩
          have w : hv_w X s V57 Hq lq := by rw [eV58]; exact w
          have hV60 : V57 (mo + 1) = some (.inl (X.2.1 0, 6, .inl σ.1.1.1)) := by rw [eV58, hv_un (by omega)]; exact hV37
          have hV61 : V57 (mo + 2) = some (.inl (X.2.1 0, 6, .inl (fun j => nI (σ.1.1.2.1 j)))) := by rw [eV58, hv_un (by omega)]; exact hV38
          have hV62 : V57 (mo + 3) = some (.inl (X.2.1 6, 6, .inr (.inr (.inr (.inr rf))))) := by rw [eV58, hv_un (by omega)]; exact hV39
          have hV63 : V57 (mo + 10) = some (.inl (X.2.1 2, 100, .inl σ.2.2.1.2)) := by rw [eV58, hv_un (by omega)]; exact hV40
          have hV64 : V57 (mo + 11) = some (.inl (X.2.1 0, 12, .inl wd)) := by rw [eV58, hv_un (by omega)]; exact hV41
          have hV65 : V57 (mo + 12) = some (.inl (X.2.1 0, 48, .inl td)) := by rw [eV58, hv_un (by omega)]; exact hV42
          have hV66 : V57 (mo + 13) = some (.inl (X.2.1 2, 178, .inl sn)) := by rw [eV58, hv_un (by omega)]; exact hV43
          have hV67 : V57 (mo + 14) = some (.inl (X.2.1 0, 3, .inl ut)) := by rw [eV58, hv_un (by omega)]; exact hV44
          have hV68 : V57 (mo + 20) = some (.inl (X.2.1 0, 16, .inl kn)) := by rw [eV58, hv_un (by omega)]; exact hV45
          have hV69 : V57 (mo + 15) = some (.inl (X.2.1 0, 4, .inl sf)) := by rw [eV58, hv_un (by omega)]; exact hV46
          have hV70 : V57 (mo + 16) = some (.inl (X.2.1 0, 4, .inl sg9)) := by rw [eV58, hv_un (by omega)]; exact hV47
          have hV71 : V57 (mo + 17) = some (.inl (X.2.1 0, 4, .inl sh)) := by rw [eV58, hv_un (by omega)]; exact hV48
          have hV72 : V57 (mo + 18) = some (.inl (X.2.1 0, 8, .inl ef)) := by rw [eV58, hv_un (by omega)]; exact hV49
          have hV73 : V57 (mo + 19) = some (.inl (X.2.1 0, 8, .inl eg)) := by rw [eV58, hv_un (by omega)]; exact hV50
          have hV74 : V57 (mo + 41) = some (.inl (X.2.1 0, 6, .inl σ.2.2.2.1)) := by rw [eV58, hv_un (by omega)]; exact hV52
          have hV75 : V57 (mo + 42) = some (.inl (X.2.1 0, 6, .inl (fun j => nI (σ.2.2.2.2.1 j)))) := by rw [eV58, hv_un (by omega)]; exact hV53
          have hV76 : V57 (mo + 43) = some (.inl (X.2.1 7, 6, .inr (.inr (.inr (.inr tf))))) := by rw [eV58, hv_un (by omega)]; exact hV54
          have hV77 : V57 (mo + 21) = some (.inl (X.2.1 0, 8, .inl (upd bf (σ.1.2.2.2.1) p9))) := by rw [eV58, hv_un (by omega)]; exact hV55
          have hV78 : V57 (mo + 22) = some (.inl (X.2.1 0, 8, .inl (upd bg (σ.1.2.2.2.1) v))) := by rw [eV58, hv_un (by omega)]; exact hV56
          have hV79 : V57 mo = some (.inr (7, [.ref (mo + 1), .ref (mo + 2), .ref (mo + 3), .long ab, .long be, .ref (mo + 10), .int (nI σ.2.2.1.1), .int pl, .int cl, .ref (mo + 11), .ref (mo + 12), .ref (mo + 13), .int sg, .ref (mo + 14), .ref (mo + 15), .ref (mo + 16), .ref (mo + 17), .int (nI σ.1.2.1.1), .ref (mo + 18), .ref (mo + 19), .int (nI σ.1.2.2.1.1), .ref (mo + 20), .ref (mo + 21), .ref (mo + 22), .int (nI (σ.1.2.2.2.1 + 1)), .int ik, .ref (mo + 23), .ref (mo + 24), .ref (mo + 25), .ref (mo + 26), .ref (mo + 33), .ref (mo + 41), .ref (mo + 42), .ref (mo + 43)])) := by rw [eV58]; exact hv_us
          refine lv_aload_n C0.1 C0.2.1 dX7_book_77 rfl (lv_at hl 0 rfl) ?_
          refine gf_X7_297 C0 w hV79 rfl dX7_book_78 ?_
          exact hv_iret C0 w hr hlk (by rw [sp_book, if_neg c_2, if_pos hb4, if_pos hb8, if_pos hlt]; exact ⟨rfl, ⟨ab, be, pl, cl, sg, ik, (by rw [eV58]; exact hv_us), hRw.fr (fun q h7 h8 => by rw [eV58, hv_un (by omega), eV35, hv_un (by omega), eV11, hv_un (by omega)]), (by rw [eV58, hv_un (by omega), eV35, hv_un (by omega), eV11, hv_un (by omega)] : _ = V (mo + 10)).trans hTx, hSc.fr (fun q h7 h8 => by rw [eV58, hv_un (by omega), eV35, hv_un (by omega), eV11, hv_un (by omega)]) (fun q h7 h8 => by rw [eV58, hv_un (by omega), eV35, hv_un (by omega), eV11, hv_un (by omega)]), hSe.fr (fun q h7 h8 => by rw [eV58, hv_un (by omega), eV35, hv_un (by omega), eV11, hv_un (by omega)]), hEv.fr (by rw [eV58, hv_un (by omega), eV35, hv_un (by omega), eV11, hv_un (by omega)]) (by rw [eV58, hv_un (by omega), eV35, hv_un (by omega), eV11, hv_un (by omega)]), om_two.put (by rw [eV58, hv_un (by omega), eV35, hv_un (by omega), eV11]; exact hv_us) (by rw [eV58, hv_un (by omega), eV35]; exact hv_us) ba, hIm.fr (fun q h7 h8 => by rw [eV58, hv_un (by omega), eV35, hv_un (by omega), eV11, hv_un (by omega)]), hTp.fr (fun q h7 h8 => by rw [eV58, hv_un (by omega), eV35, hv_un (by omega), eV11, hv_un (by omega)])⟩, (fun q h7 => by rw [eV58, hv_un (by omega), eV35, hv_un (by omega), eV11, hv_un (by omega)])⟩) dX7_book_81
        · skip
          refine lv_bipush (v := -4) C0.1 C0.2.1 dX7_book_44 (by decide) ?_
          exact hv_iret C0 w hr hlk (by rw [sp_book, if_neg c_2, if_pos hb4, if_pos hb8, if_neg (fun h9 => by have h8 := (nI_eq (a := σ.1.2.2.2.1) (b := 8) (by omega) (by omega)).mp c_41; omega)]; exact ⟨rfl, hM, hv_out.rf⟩) dX7_book_46
      · skip
        refine lv_if_ne (tgt := 35) C0.1 C0.2.1 dX7_book_29 (by decide) (fun h9 => absurd h9 (by decide)) (fun _ => ?_)
        refine lv_bipush (v := -2) C0.1 C0.2.1 dX7_book_32 (by decide) ?_
        exact hv_iret C0 w hr hlk (by rw [sp_book, if_neg c_2, if_pos hb4, if_neg hb8]; exact ⟨rfl, hM, hv_out.rf⟩) dX7_book_34
    · skip
      refine lv_if_ne (tgt := 22) C0.1 C0.2.1 dX7_book_17 (by decide) (fun h9 => absurd h9 (by decide)) (fun _ => ?_)
      refine lv_iconst (v := -1) C0.1 C0.2.1 dX7_book_20 (by decide) ?_
      exact hv_iret C0 w hr hlk (by rw [sp_book, if_neg c_2, if_neg hb4]; exact ⟨rfl, hM, hv_out.rf⟩) dX7_book_21
  · skip
    refine lv_aload_n C0.1 C0.2.1 dX7_book_5 rfl (lv_at hl 0 rfl) ?_
    refine lv_iconst (v := 0) C0.1 C0.2.1 dX7_book_6 (by decide) ?_
    refine pf_X7_297 C0 w hO (by simp) dX7_book_7 (fun Hq lq w => ?_)
    obtain ⟨V80, eV81⟩ : ∃ V9, V9 = hv_up V mo (.inr (7, [.ref (mo + 1), .ref (mo + 2), .ref (mo + 3), .long ab, .long be, .ref (mo + 10), .int (nI σ.2.2.1.1), .int pl, .int cl, .ref (mo + 11), .ref (mo + 12), .ref (mo + 13), .int sg, .ref (mo + 14), .ref (mo + 15), .ref (mo + 16), .ref (mo + 17), .int (nI σ.1.2.1.1), .ref (mo + 18), .ref (mo + 19), .int (nI σ.1.2.2.1.1), .ref (mo + 20), .ref (mo + 21), .ref (mo + 22), .int 0, .int ik, .ref (mo + 23), .ref (mo + 24), .ref (mo + 25), .ref (mo + 26), .ref (mo + 33), .ref (mo + 41), .ref (mo + 42), .ref (mo + 43)])) := ⟨_, rfl⟩
    have w : hv_w X s V80 Hq lq := by rw [eV81]; exact w
    have hV83 : V80 (mo + 1) = some (.inl (X.2.1 0, 6, .inl σ.1.1.1)) := by rw [eV81, hv_un (by omega)]; exact r1
    have hV84 : V80 (mo + 2) = some (.inl (X.2.1 0, 6, .inl (fun j => nI (σ.1.1.2.1 j)))) := by rw [eV81, hv_un (by omega)]; exact r2
    have hV85 : V80 (mo + 3) = some (.inl (X.2.1 6, 6, .inr (.inr (.inr (.inr rf))))) := by rw [eV81, hv_un (by omega)]; exact r3
    have hV86 : V80 (mo + 10) = some (.inl (X.2.1 2, 100, .inl σ.2.2.1.2)) := by rw [eV81, hv_un (by omega)]; exact hTx
    have hV87 : V80 (mo + 11) = some (.inl (X.2.1 0, 12, .inl wd)) := by rw [eV81, hv_un (by omega)]; exact s1
    have hV88 : V80 (mo + 12) = some (.inl (X.2.1 0, 48, .inl td)) := by rw [eV81, hv_un (by omega)]; exact s2
    have hV89 : V80 (mo + 13) = some (.inl (X.2.1 2, 178, .inl sn)) := by rw [eV81, hv_un (by omega)]; exact s3
    have hV90 : V80 (mo + 14) = some (.inl (X.2.1 0, 3, .inl ut)) := by rw [eV81, hv_un (by omega)]; exact s4
    have hV91 : V80 (mo + 20) = some (.inl (X.2.1 0, 16, .inl kn)) := by rw [eV81, hv_un (by omega)]; exact s5
    have hV92 : V80 (mo + 15) = some (.inl (X.2.1 0, 4, .inl sf)) := by rw [eV81, hv_un (by omega)]; exact e1
    have hV93 : V80 (mo + 16) = some (.inl (X.2.1 0, 4, .inl sg9)) := by rw [eV81, hv_un (by omega)]; exact e2
    have hV94 : V80 (mo + 17) = some (.inl (X.2.1 0, 4, .inl sh)) := by rw [eV81, hv_un (by omega)]; exact e3
    have hV95 : V80 (mo + 18) = some (.inl (X.2.1 0, 8, .inl ef)) := by rw [eV81, hv_un (by omega)]; exact v1
    have hV96 : V80 (mo + 19) = some (.inl (X.2.1 0, 8, .inl eg)) := by rw [eV81, hv_un (by omega)]; exact v2
    have hV97 : V80 (mo + 21) = some (.inl (X.2.1 0, 8, .inl bf)) := by rw [eV81, hv_un (by omega)]; exact b1
    have hV98 : V80 (mo + 22) = some (.inl (X.2.1 0, 8, .inl bg)) := by rw [eV81, hv_un (by omega)]; exact b2
    have hV99 : V80 (mo + 41) = some (.inl (X.2.1 0, 6, .inl σ.2.2.2.1)) := by rw [eV81, hv_un (by omega)]; exact t1
    have hV100 : V80 (mo + 42) = some (.inl (X.2.1 0, 6, .inl (fun j => nI (σ.2.2.2.2.1 j)))) := by rw [eV81, hv_un (by omega)]; exact t2
    have hV101 : V80 (mo + 43) = some (.inl (X.2.1 7, 6, .inr (.inr (.inr (.inr tf))))) := by rw [eV81, hv_un (by omega)]; exact t3
    have hV102 : V80 mo = some (.inr (7, [.ref (mo + 1), .ref (mo + 2), .ref (mo + 3), .long ab, .long be, .ref (mo + 10), .int (nI σ.2.2.1.1), .int pl, .int cl, .ref (mo + 11), .ref (mo + 12), .ref (mo + 13), .int sg, .ref (mo + 14), .ref (mo + 15), .ref (mo + 16), .ref (mo + 17), .int (nI σ.1.2.1.1), .ref (mo + 18), .ref (mo + 19), .int (nI σ.1.2.2.1.1), .ref (mo + 20), .ref (mo + 21), .ref (mo + 22), .int 0, .int ik, .ref (mo + 23), .ref (mo + 24), .ref (mo + 25), .ref (mo + 26), .ref (mo + 33), .ref (mo + 41), .ref (mo + 42), .ref (mo + 43)])) := by rw [eV81]; exact hv_us
    refine lv_iconst (v := 0) C0.1 C0.2.1 dX7_book_10 (by decide) ?_
    exact hv_iret C0 w hr hlk (by rw [sp_book, if_pos c_2]; exact ⟨rfl, ⟨ab, be, pl, cl, sg, ik, (by rw [eV81]; exact hv_us), hRw.fr (fun q h7 h8 => by rw [eV81, hv_un (by omega)]), (by rw [eV81, hv_un (by omega)] : _ = V (mo + 10)).trans hTx, hSc.fr (fun q h7 h8 => by rw [eV81, hv_un (by omega)]) (fun q h7 h8 => by rw [eV81, hv_un (by omega)]), hSe.fr (fun q h7 h8 => by rw [eV81, hv_un (by omega)]), hEv.fr (by rw [eV81, hv_un (by omega)]) (by rw [eV81, hv_un (by omega)]), om_two.nil ((by rw [eV81, hv_un (by omega)] : _ = V (mo + 21)).trans b1) ((by rw [eV81, hv_un (by omega)] : _ = V (mo + 22)).trans b2), hIm.fr (fun q h7 h8 => by rw [eV81, hv_un (by omega)]), hTp.fr (fun q h7 h8 => by rw [eV81, hv_un (by omega)])⟩, (fun q h7 => by rw [eV81, hv_un (by omega)])⟩) dX7_book_11

set_option maxHeartbeats 4000000 in
set_option maxRecDepth 100000 in
theorem c_X7_asItem {l : Launch} {X : hv_X} {V : hv_V} {so : Int32} {v : Int64} (hso : ¬ so = 0 → ¬ so = 1 → ¬ so = 2 → ¬ so = 3 → so = 4) : hv_Ml l X 0 yX7_asItem cX7_asItem 3 V [.int so, .long v] (fun x V1 => V1 = V ∧ x = sp_item so v) := by
  refine hv_enter (by decide) (Nat.le_of_ble_eq_true rfl) ?_
  intro p e s m below meth c ls C0 hr hlk hnm w hl
  have hl : lv_has ls 3 [(0, .int so), (1, .long v)] := hl
  refine lv_iload_n C0.1 C0.2.1 dX7_asItem_0 rfl (lv_at hl 0 rfl) ?_
  by_cases c_1_0 : so = 0
  · refine lv_tableIn (off := 31) (tgt := 32) C0.1 C0.2.1 dX7_asItem_1 (by rw [c_1_0]; decide) (by rw [c_1_0]; decide) (by rw [c_1_0]; rfl) (by decide) ?_
    refine lv_lload_n C0.1 C0.2.1 dX7_asItem_32 rfl (lv_at hl 1 rfl) ?_
    refine lv_l2i (v := v.toInt32) C0.1 C0.2.1 dX7_asItem_33 rfl ?_
    refine lv_i2b (v := (v.toInt32).toInt8.toInt32) C0.1 C0.2.1 dX7_asItem_34 rfl ?_
    refine lv_i2l (v := ((v.toInt32).toInt8.toInt32).toInt64) C0.1 C0.2.1 dX7_asItem_35 rfl ?_
    exact hv_lret C0 w hr hlk (⟨rfl, by rw [sp_item, if_pos c_1_0]⟩) dX7_asItem_36
  by_cases c_1_1 : so = 1
  · refine lv_tableIn (off := 36) (tgt := 37) C0.1 C0.2.1 dX7_asItem_1 (by rw [c_1_1]; decide) (by rw [c_1_1]; decide) (by rw [c_1_1]; rfl) (by decide) ?_
    refine lv_lload_n C0.1 C0.2.1 dX7_asItem_37 rfl (lv_at hl 1 rfl) ?_
    refine lv_l2i (v := v.toInt32) C0.1 C0.2.1 dX7_asItem_38 rfl ?_
    refine lv_i2s (v := (v.toInt32).toInt16.toInt32) C0.1 C0.2.1 dX7_asItem_39 rfl ?_
    refine lv_i2l (v := ((v.toInt32).toInt16.toInt32).toInt64) C0.1 C0.2.1 dX7_asItem_40 rfl ?_
    exact hv_lret C0 w hr hlk (⟨rfl, by rw [sp_item, if_neg (by rw [c_1_1]; decide), if_pos c_1_1]⟩) dX7_asItem_41
  by_cases c_1_2 : so = 2
  · refine lv_tableIn (off := 41) (tgt := 42) C0.1 C0.2.1 dX7_asItem_1 (by rw [c_1_2]; decide) (by rw [c_1_2]; decide) (by rw [c_1_2]; rfl) (by decide) ?_
    refine lv_lload_n C0.1 C0.2.1 dX7_asItem_42 rfl (lv_at hl 1 rfl) ?_
    refine lv_l2i (v := v.toInt32) C0.1 C0.2.1 dX7_asItem_43 rfl ?_
    refine lv_i2l (v := (v.toInt32).toInt64) C0.1 C0.2.1 dX7_asItem_44 rfl ?_
    exact hv_lret C0 w hr hlk (⟨rfl, by rw [sp_item, if_neg (by rw [c_1_2]; decide), if_neg (by rw [c_1_2]; decide), if_pos c_1_2]⟩) dX7_asItem_45
  by_cases c_1_3 : so = 3
  · refine lv_tableIn (off := 45) (tgt := 46) C0.1 C0.2.1 dX7_asItem_1 (by rw [c_1_3]; decide) (by rw [c_1_3]; decide) (by rw [c_1_3]; rfl) (by decide) ?_
    refine lv_lload_n C0.1 C0.2.1 dX7_asItem_46 rfl (lv_at hl 1 rfl) ?_
    exact hv_lret C0 w hr hlk (⟨rfl, by rw [sp_item, if_neg (by rw [c_1_3]; decide), if_neg (by rw [c_1_3]; decide), if_neg (by rw [c_1_3]; decide), if_pos c_1_3]⟩) dX7_asItem_47
  have tc_1_0 : so.toInt ≠ 0 := fun h9 => c_1_0 (Int32.toInt_inj.mp (h9.trans (by decide)))
  have tc_1_1 : so.toInt ≠ 1 := fun h9 => c_1_1 (Int32.toInt_inj.mp (h9.trans (by decide)))
  have tc_1_2 : so.toInt ≠ 2 := fun h9 => c_1_2 (Int32.toInt_inj.mp (h9.trans (by decide)))
  have tc_1_3 : so.toInt ≠ 3 := fun h9 => c_1_3 (Int32.toInt_inj.mp (h9.trans (by decide)))
  refine lv_tableOut (tgt := 48) C0.1 C0.2.1 dX7_asItem_1 (by omega) (by decide) ?_
  have h4 : so = 4 := hso c_1_0 c_1_1 c_1_2 c_1_3
  refine lv_lload_n C0.1 C0.2.1 dX7_asItem_48 rfl (lv_at hl 1 rfl) ?_
  refine lv_lconst (v := 0) C0.1 C0.2.1 dX7_asItem_49 (by decide) ?_
  refine hv_lc_eq (tgt := 58) C0.1 C0.2.1 dX7_asItem_50 dX7_asItem_51 (by decide) (fun c_50 => ?_) (fun c_50 => ?_)
  · skip
    refine lv_lconst (v := 0) C0.1 C0.2.1 dX7_asItem_58 (by decide) ?_
    exact hv_lret C0 w hr hlk (⟨rfl, by rw [sp_item, if_neg c_1_0, if_neg c_1_1, if_neg c_1_2, if_neg c_1_3, if_pos h4, if_pos c_50]⟩) dX7_asItem_59
  · skip
    refine lv_lconst (v := 1) C0.1 C0.2.1 dX7_asItem_54 (by decide) ?_
    refine lv_goto (tgt := 59) C0.1 C0.2.1 dX7_asItem_55 (by decide) ?_
    exact hv_lret C0 w hr hlk (⟨rfl, by rw [sp_item, if_neg c_1_0, if_neg c_1_1, if_neg c_1_2, if_neg c_1_3, if_pos h4, if_neg c_50]⟩) dX7_asItem_59

theorem hs_so4 {x : Int32} (h0 : 0 ≤ x) (h4 : x ≤ 4) (a : ¬ x = 0) (b : ¬ x = 1) (c : ¬ x = 2) (d : ¬ x = 3) : x = 4 := by
  obtain ⟨j, hj, rfl⟩ := sp_inN (k := 4) (by decide) ⟨h0, h4⟩
  rcases (show j = 0 ∨ j = 1 ∨ j = 2 ∨ j = 3 ∨ j = 4 by omega) with rfl | rfl | rfl | rfl | rfl
  · exact absurd rfl a
  · exact absurd rfl b
  · exact absurd rfl c
  · exact absurd rfl d
  · rfl
set_option maxHeartbeats 4000000 in
set_option maxRecDepth 100000 in
theorem m_X7_item {l : Launch} {X : hv_X} {V : hv_V} {mo : Nat} {σ : hs_S} (hM : okM X V mo σ) (hB : hs_b σ) {t i : Int32} {v : Int64} : hv_Mi l X 220 yX7_item cX7_item 5 .int V [.ref mo, .int t, .int i, .long v] (fun y V1 => y = (sp_itm σ t i v).1 ∧ okM X V1 mo (sp_itm σ t i v).2 ∧ hv_out V V1 mo (mo + 50)) := by
  refine hv_enter (by decide) (Nat.le_of_ble_eq_true rfl) ?_
  intro p e s m below meth c ls C0 hr hlk hnm w hl
  have hl : lv_has ls 5 [(0, .ref mo), (1, .int t), (2, .int i), (3, .long v)] := hl
  obtain ⟨ab, be, pl, cl, sg, ik, hO, hRw, hTx, hSc, hSe, hEv, hBk, hIm, hTp⟩ := id hM
  obtain ⟨r1, r2, ⟨rf, r3, r4⟩, r5⟩ := id hRw
  obtain ⟨⟨wd, s1⟩, ⟨td, s2⟩, ⟨sn, s3⟩, ⟨ut, s4⟩, kn, s5⟩ := id hSc
  obtain ⟨sf, sg9, sh, e1, e2, e3, ea⟩ := id hSe
  obtain ⟨ef, eg, v1, v2, va⟩ := id hEv
  obtain ⟨bf, bg, b1, b2, ba⟩ := id hBk
  obtain ⟨t1, t2, ⟨tf, t3, t4⟩, t5⟩ := id hTp
  have hbR := hB.1.1
  refine lv_iload_n C0.1 C0.2.1 dX7_item_0 rfl (lv_at hl 1 rfl) ?_
  refine hv_cSi (As := [.int t]) C0 w kl_X7_303 ks_X7_isTape (c_X7_isTape) (by decide) (by decide) rfl hl.1 rfl (Nat.le_of_ble_eq_true rfl) dX7_item_1 ⟨Nat.le_refl _, Nat.le_refl _⟩ (fun x1 V2 Hq lq hp3 w => ?_)
  obtain ⟨e9, hz9⟩ := hp3
  rw [e9] at w; clear e9
  rcases hz9 with ⟨rfl, hb4⟩ | ⟨rfl, hb4⟩
  · skip
    have ihb4 := hb4
    obtain ⟨j1, hj1, rfl⟩ := sp_inN (k := 5) (by decide) hb4
    have kj1 : (nI j1).toNatClampNeg = j1 := nI_clamp (by omega)
    have hI_j1 : V (mo + 44 + j1) = some (jE X (σ.2.2.2.2.2 j1)) := t5 j1 hj1
    have hz_j1 : σ.2.2.2.2.1 j1 ≤ 60 := (hB.2.2.2.2 j1 hj1).2.1
    refine lv_if_ne (tgt := 9) C0.1 C0.2.1 dX7_item_4 (by decide) (fun _ => ?_) (fun h9 => absurd h9 (by decide))
    refine lv_aload_n C0.1 C0.2.1 dX7_item_9 rfl (lv_at hl 0 rfl) ?_
    refine gf_X7_78 C0 w hO rfl dX7_item_10 ?_
    refine lv_iload_n C0.1 C0.2.1 dX7_item_13 rfl (lv_at hl 1 rfl) ?_
    refine hv_iald C0 w t1 (hn_in hj1 (by decide)) dX7_item_14 ?_
    have hc5 : (nI j1).toNatClampNeg = j1 := nI_clamp (by omega)
    rw [hc5]
    refine lv_if_ge (tgt := 21) C0.1 C0.2.1 dX7_item_15 (by decide) (fun c_15 => ?_) (fun c_15 => ?_)
    · skip
      refine lv_iload_n C0.1 C0.2.1 dX7_item_21 rfl (lv_at hl 2 rfl) ?_
      refine lv_iconst (v := 0) C0.1 C0.2.1 dX7_item_22 (by decide) ?_
      refine lv_aload_n C0.1 C0.2.1 dX7_item_23 rfl (lv_at hl 0 rfl) ?_
      refine gf_X7_81 C0 w hO rfl dX7_item_24 ?_
      refine lv_iload_n C0.1 C0.2.1 dX7_item_27 rfl (lv_at hl 1 rfl) ?_
      refine hv_iald C0 w t2 (hn_in hj1 (by decide)) dX7_item_28 ?_
      have hc6 : (nI j1).toNatClampNeg = j1 := nI_clamp (by omega)
      rw [hc6]
      refine lv_iconst (v := 1) C0.1 C0.2.1 dX7_item_29 (by decide) ?_
      refine lv_isub C0.1 C0.2.1 dX7_item_30 ?_
      refine hv_cSi (As := [.int i, .int 0, .int ((nI (σ.2.2.2.2.1 j1)) - 1)]) C0 w kl_X7_89 ks_X7_in (c_X7_in) (by decide) (by decide) rfl hl.1 rfl (Nat.le_of_ble_eq_true rfl) dX7_item_31 ⟨Nat.le_refl _, Nat.le_refl _⟩ (fun x7 V8 Hq lq hp9 w => ?_)
      obtain ⟨e9, hz9⟩ := hp9
      rw [e9] at w; clear e9
      rcases hz9 with ⟨rfl, hb10⟩ | ⟨rfl, hb10⟩
      · skip
        refine lv_if_ne (tgt := 40) C0.1 C0.2.1 dX7_item_34 (by decide) (fun _ => ?_) (fun h9 => absurd h9 (by decide))
        have hb10x := hb10
        obtain ⟨i1, hi1, rfl⟩ := vp_in_of ((hs_inm (by omega)).mp hb10) (by omega)
        have ki1 : (nI i1).toNatClampNeg = i1 := nI_clamp (by omega)
        refine lv_aload_n C0.1 C0.2.1 dX7_item_40 rfl (lv_at hl 0 rfl) ?_
        refine gf_X7_86 C0 w hO rfl dX7_item_41 ?_
        refine lv_iload_n C0.1 C0.2.1 dX7_item_44 rfl (lv_at hl 1 rfl) ?_
        refine hv_aalA 7 rfl C0 w rfl t3 (hn_in hj1 (by decide)) (by rw [kj1]; exact t4 j1 hj1) dX7_item_45 ?_
        refine lv_iload_n C0.1 C0.2.1 dX7_item_46 rfl (lv_at hl 2 rfl) ?_
        refine lv_aload_n C0.1 C0.2.1 dX7_item_47 rfl (lv_at hl 0 rfl) ?_
        refine gf_X7_78 C0 w hO rfl dX7_item_48 ?_
        refine lv_iload_n C0.1 C0.2.1 dX7_item_51 rfl (lv_at hl 1 rfl) ?_
        refine hv_iald C0 w t1 (hn_in hj1 (by decide)) dX7_item_52 ?_
        have hc11 : (nI j1).toNatClampNeg = j1 := nI_clamp (by omega)
        rw [hc11]
        refine lv_lload_n C0.1 C0.2.1 dX7_item_53 rfl (lv_at hl 3 rfl) ?_
        refine hv_cSl (As := [.int ((σ.2.2.2.1) j1), .long v]) C0 w kl_X7_317 ks_X7_asItem (c_X7_asItem (hs_so4 c_15 (hB.2.2.2.2 j1 hj1).1.2)) (by decide) (by decide) rfl hl.1 rfl (Nat.le_of_ble_eq_true rfl) dX7_item_54 ⟨Nat.le_refl _, Nat.le_refl _⟩ (fun x12 V13 Hq lq hp14 w => ?_)
        obtain ⟨e9, e8⟩ := hp14
        rw [e9] at w; rw [e8]; clear e9 e8
        refine hv_last C0 w hI_j1 (hn_in (by omega) (by decide)) dX7_item_57 (fun Hq lq w => ?_)
        have hc15 : (nI i1).toNatClampNeg = i1 := nI_clamp (by omega)
        rw [hc15] at w
        obtain ⟨V16, eV17⟩ : ∃ V9, V9 = hv_up V (mo + 44 + j1) (.inl (X.2.1 1, 60, .inr (.inl (vp_updL (σ.2.2.2.2.2 j1) i1 (sp_item (σ.2.2.2.1 j1) v))))) := ⟨_, rfl⟩
        have w : hv_w X s V16 Hq lq := by rw [eV17]; exact w
        have hV18 : V16 mo = some (.inr (7, [.ref (mo + 1), .ref (mo + 2), .ref (mo + 3), .long ab, .long be, .ref (mo + 10), .int (nI σ.2.2.1.1), .int pl, .int cl, .ref (mo + 11), .ref (mo + 12), .ref (mo + 13), .int sg, .ref (mo + 14), .ref (mo + 15), .ref (mo + 16), .ref (mo + 17), .int (nI σ.1.2.1.1), .ref (mo + 18), .ref (mo + 19), .int (nI σ.1.2.2.1.1), .ref (mo + 20), .ref (mo + 21), .ref (mo + 22), .int (nI σ.1.2.2.2.1), .int ik, .ref (mo + 23), .ref (mo + 24), .ref (mo + 25), .ref (mo + 26), .ref (mo + 33), .ref (mo + 41), .ref (mo + 42), .ref (mo + 43)])) := by rw [eV17, hv_un (by omega)]; exact hO
        have hV19 : V16 (mo + 1) = some (.inl (X.2.1 0, 6, .inl σ.1.1.1)) := by rw [eV17, hv_un (by omega)]; exact r1
        have hV20 : V16 (mo + 2) = some (.inl (X.2.1 0, 6, .inl (fun j => nI (σ.1.1.2.1 j)))) := by rw [eV17, hv_un (by omega)]; exact r2
        have hV21 : V16 (mo + 3) = some (.inl (X.2.1 6, 6, .inr (.inr (.inr (.inr rf))))) := by rw [eV17, hv_un (by omega)]; exact r3
        have hV22 : V16 (mo + 10) = some (.inl (X.2.1 2, 100, .inl σ.2.2.1.2)) := by rw [eV17, hv_un (by omega)]; exact hTx
        have hV23 : V16 (mo + 11) = some (.inl (X.2.1 0, 12, .inl wd)) := by rw [eV17, hv_un (by omega)]; exact s1
        have hV24 : V16 (mo + 12) = some (.inl (X.2.1 0, 48, .inl td)) := by rw [eV17, hv_un (by omega)]; exact s2
        have hV25 : V16 (mo + 13) = some (.inl (X.2.1 2, 178, .inl sn)) := by rw [eV17, hv_un (by omega)]; exact s3
        have hV26 : V16 (mo + 14) = some (.inl (X.2.1 0, 3, .inl ut)) := by rw [eV17, hv_un (by omega)]; exact s4
        have hV27 : V16 (mo + 20) = some (.inl (X.2.1 0, 16, .inl kn)) := by rw [eV17, hv_un (by omega)]; exact s5
        have hV28 : V16 (mo + 15) = some (.inl (X.2.1 0, 4, .inl sf)) := by rw [eV17, hv_un (by omega)]; exact e1
        have hV29 : V16 (mo + 16) = some (.inl (X.2.1 0, 4, .inl sg9)) := by rw [eV17, hv_un (by omega)]; exact e2
        have hV30 : V16 (mo + 17) = some (.inl (X.2.1 0, 4, .inl sh)) := by rw [eV17, hv_un (by omega)]; exact e3
        have hV31 : V16 (mo + 18) = some (.inl (X.2.1 0, 8, .inl ef)) := by rw [eV17, hv_un (by omega)]; exact v1
        have hV32 : V16 (mo + 19) = some (.inl (X.2.1 0, 8, .inl eg)) := by rw [eV17, hv_un (by omega)]; exact v2
        have hV33 : V16 (mo + 21) = some (.inl (X.2.1 0, 8, .inl bf)) := by rw [eV17, hv_un (by omega)]; exact b1
        have hV34 : V16 (mo + 22) = some (.inl (X.2.1 0, 8, .inl bg)) := by rw [eV17, hv_un (by omega)]; exact b2
        have hV35 : V16 (mo + 41) = some (.inl (X.2.1 0, 6, .inl σ.2.2.2.1)) := by rw [eV17, hv_un (by omega)]; exact t1
        have hV36 : V16 (mo + 42) = some (.inl (X.2.1 0, 6, .inl (fun j => nI (σ.2.2.2.2.1 j)))) := by rw [eV17, hv_un (by omega)]; exact t2
        have hV37 : V16 (mo + 43) = some (.inl (X.2.1 7, 6, .inr (.inr (.inr (.inr tf))))) := by rw [eV17, hv_un (by omega)]; exact t3
        have hV39 : V16 (mo + 44 + j1) = some (.inl (X.2.1 1, 60, .inr (.inl (vp_updL (σ.2.2.2.2.2 j1) i1 (sp_item (σ.2.2.2.1 j1) v))))) := by rw [eV17]; exact hv_us
        refine lv_iconst (v := 1) C0.1 C0.2.1 dX7_item_58 (by decide) ?_
        exact hv_iret C0 w hr hlk (by rw [sp_itm, if_pos ihb4, kj1, if_neg ((hs_so hB hj1).mp c_15), if_pos (show ¬ (_ ∨ _) from (hs_inm (by omega)).mp hb10x), ki1]; exact ⟨rfl, ⟨ab, be, pl, cl, sg, ik, ((by rw [eV17, hv_un (by omega)] : _ = V mo).trans hO), hRw.fr (fun q h7 h8 => by rw [eV17, hv_un (by omega)]), (by rw [eV17, hv_un (by omega)] : _ = V (mo + 10)).trans hTx, hSc.fr (fun q h7 h8 => by rw [eV17, hv_un (by omega)]) (fun q h7 h8 => by rw [eV17, hv_un (by omega)]), hSe.fr (fun q h7 h8 => by rw [eV17, hv_un (by omega)]), hEv.fr (by rw [eV17, hv_un (by omega)]) (by rw [eV17, hv_un (by omega)]), hBk.fr (by rw [eV17, hv_un (by omega)]) (by rw [eV17, hv_un (by omega)]), hIm.fr (fun q h7 h8 => by rw [eV17, hv_un (by omega)]), hTp.set hj1 (by rw [hs_uid, eV17, hv_un (by omega)]; exact t1) (by rw [hs_uid (fun i => nI (σ.2.2.2.2.1 i)), eV17, hv_un (by omega)]; exact t2) (by rw [eV17]; exact hv_us) (by rw [eV17, hv_un (by omega)]) (fun i9 hi9 hne9 => by rw [eV17, hv_un (by omega)])⟩, (fun q h7 => by rw [eV17, hv_un (by omega)])⟩) dX7_item_59
      · skip
        refine lv_if_ne (tgt := 40) C0.1 C0.2.1 dX7_item_34 (by decide) (fun h9 => absurd h9 (by decide)) (fun _ => ?_)
        refine lv_bipush (v := -13) C0.1 C0.2.1 dX7_item_37 (by decide) ?_
        exact hv_iret C0 w hr hlk (by rw [sp_itm, if_pos ihb4, kj1, if_neg ((hs_so hB hj1).mp c_15), if_neg (show ¬ ¬ (_ ∨ _) from fun h9 => hb10 ((hs_inm (by omega)).mpr h9))]; exact ⟨rfl, hM, hv_out.rf⟩) dX7_item_39
    · skip
      refine lv_bipush (v := -11) C0.1 C0.2.1 dX7_item_18 (by decide) ?_
      exact hv_iret C0 w hr hlk (by rw [sp_itm, if_pos ihb4, kj1, if_pos (Classical.byContradiction (fun h8 => c_15 ((hs_so hB hj1).mpr h8)))]; exact ⟨rfl, hM, hv_out.rf⟩) dX7_item_20
  · skip
    refine lv_if_ne (tgt := 9) C0.1 C0.2.1 dX7_item_4 (by decide) (fun h9 => absurd h9 (by decide)) (fun _ => ?_)
    refine lv_iconst (v := -1) C0.1 C0.2.1 dX7_item_7 (by decide) ?_
    exact hv_iret C0 w hr hlk (by rw [sp_itm, if_neg hb4]; exact ⟨rfl, hM, hv_out.rf⟩) dX7_item_8

theorem hs_rem {p9 : Int32} (h : 0 ≤ p9) : (0 : Int32) ≤ p9 - p9 / 100 * 100 := by
  have h0 := Int32.le_iff_toInt_le.mp h
  have h0 : 0 ≤ p9.toInt := h0
  have e : (100 : Int32).toInt = 100 := by decide
  have a2 := Int32.toInt_lt p9
  have hd : (p9 / 100).toInt = p9.toInt / 100 := by
    rw [Int32.toInt_div, e, Int.tdiv_eq_ediv_of_nonneg h0]
    apply Int.bmod_eq_of_le <;> omega
  have hm : (p9 / 100 * 100).toInt = p9.toInt / 100 * 100 := by
    rw [Int32.toInt_mul, hd, e]
    apply Int.bmod_eq_of_le <;> omega
  rw [Int32.le_iff_toInt_le, Int32.toInt_sub, hm]
  show 0 ≤ _
  rw [Int.bmod_eq_of_le (by omega) (by omega)]
  omega
set_option maxHeartbeats 4000000 in
set_option maxRecDepth 100000 in
theorem m_X7_looked {l : Launch} {X : hv_X} {V : hv_V} {mo : Nat} {σ : hs_S} (hM : okM X V mo σ) (hB : hs_b σ)  : hv_Mi l X 220 yX7_looked cX7_looked 2 .int V [.ref mo] (fun y V1 => y = sp_looked σ ∧ okM X V1 mo σ ∧ hv_out V V1 mo (mo + 50)) := by
  refine hv_enter (by decide) (Nat.le_of_ble_eq_true rfl) ?_
  intro p e s m below meth c ls C0 hr hlk hnm w hl
  have hl : lv_has ls 2 [(0, .ref mo)] := hl
  obtain ⟨ab, be, pl, cl, sg, ik, hO, hRw, hTx, hSc, hSe, hEv, hBk, hIm, hTp⟩ := id hM
  obtain ⟨r1, r2, ⟨rf, r3, r4⟩, r5⟩ := id hRw
  obtain ⟨⟨wd, s1⟩, ⟨td, s2⟩, ⟨sn, s3⟩, ⟨ut, s4⟩, kn, s5⟩ := id hSc
  obtain ⟨sf, sg9, sh, e1, e2, e3, ea⟩ := id hSe
  obtain ⟨ef, eg, v1, v2, va⟩ := id hEv
  obtain ⟨bf, bg, b1, b2, ba⟩ := id hBk
  obtain ⟨t1, t2, ⟨tf, t3, t4⟩, t5⟩ := id hTp
  have hbR := hB.1.1
  have hk8 := hB.1.2.2.2.1
  have loop : ∀ (m9 k : Nat) (Hq : Heap) (lq : List Loc) (ls : Array Slot), (k + m9 = σ.1.2.2.2.1) → (sp_lk σ m9 k = sp_looked σ) → hv_w X s (V) Hq lq → lv_has ls 2 [(0, .ref mo), (1, .int (nI k))] → W p l e (hv_rm 220 0 0) s m ([.ref mo] : List Value).toArray below meth c Hq lq 0 0 (MQ below (hv_Qi X (fun y V1 => y = sp_looked σ ∧ okM X V1 mo σ ∧ hv_out V V1 mo (mo + 50))) ([.ref mo] : List Value).toArray s 0 0 X.2.2.1) (F0 m 2 ls []) := by
    intro m9
    induction m9 with
    | zero =>
      intro k Hq lq ls hi he w hl
      have he : (-5 : Int32) = sp_looked σ := he
      refine lv_iload_n C0.1 C0.2.1 dX7_looked_2 rfl (lv_at hl 1 rfl) ?_
      refine lv_aload_n C0.1 C0.2.1 dX7_looked_3 rfl (lv_at hl 0 rfl) ?_
      refine gf_X7_297 C0 w hO rfl dX7_looked_4 ?_
      refine lv_icmp_ge (tgt := 64) C0.1 C0.2.1 dX7_looked_7 (by decide) (fun c_7 => ?_) (fun c_7 => absurd (nI_le (by omega) (by omega)) c_7)
      refine lv_bipush (v := -5) C0.1 C0.2.1 dX7_looked_64 (by decide) ?_
      exact hv_iret C0 w hr hlk (⟨he, hM, hv_out.rf⟩) dX7_looked_66
    | succ m9 ih =>
      intro k Hq lq ls hi he w hl
      refine lv_iload_n C0.1 C0.2.1 dX7_looked_2 rfl (lv_at hl 1 rfl) ?_
      refine lv_aload_n C0.1 C0.2.1 dX7_looked_3 rfl (lv_at hl 0 rfl) ?_
      refine gf_X7_297 C0 w hO rfl dX7_looked_4 ?_
      refine lv_icmp_ge (tgt := 64) C0.1 C0.2.1 dX7_looked_7 (by decide) (fun c_7 => absurd c_7 (nI_ge (by omega) (by omega))) (fun c_7 => ?_)
      refine lv_aload_n C0.1 C0.2.1 dX7_looked_10 rfl (lv_at hl 0 rfl) ?_
      refine lv_aload_n C0.1 C0.2.1 dX7_looked_11 rfl (lv_at hl 0 rfl) ?_
      refine gf_X7_57 C0 w hO rfl dX7_looked_12 ?_
      refine lv_iload_n C0.1 C0.2.1 dX7_looked_15 rfl (lv_at hl 1 rfl) ?_
      refine hv_iald C0 w b1 (hn_in (by omega) (by decide)) dX7_looked_16 ?_
      have hc1 : (nI k).toNatClampNeg = k := nI_clamp (by omega)
      rw [hc1]
      refine hv_cVi C0 w kl_X7_300 kv_X7_isSpot rfl hO (c_X7_isSpot hM hB) (by decide) (by decide) rfl hl.1 rfl (Nat.le_of_ble_eq_true rfl) dX7_looked_17 ⟨Nat.le_refl _, Nat.le_refl _⟩ (fun x2 V3 Hq lq hp4 w => ?_)
      obtain ⟨e9, hz9⟩ := hp4
      rw [e9] at w; clear e9
      rcases hz9 with ⟨rfl, hb5⟩ | ⟨rfl, hb5⟩
      · skip
        refine lv_if_eq (tgt := 56) C0.1 C0.2.1 dX7_looked_20 (by decide) (fun h9 => absurd h9 (by decide)) (fun _ => ?_)
        obtain ⟨j1, hj1, ej⟩ := sp_inN (k := 5) (by decide) hb5.2.1
        have kj1 : (nI j1).toNatClampNeg = j1 := nI_clamp (by omega)
        have hN_j1 : V (mo + 4 + j1) = some (nE X (σ.1.1.2.2 j1)) := r5 j1 hj1
        have hn_j1 : σ.1.1.2.1 j1 ≤ 16 := (hbR j1 hj1).2.1
        have hr9 := hb5.2.2
        rw [ej, kj1, ← ej] at hr9
        have hin9 : vp_in (bf k - bf k / 100 * 100) 16 := by
          have h9 := vp_in_of (x := bf k - bf k / 100 * 100) (n := σ.1.1.2.1 j1) (fun h8 => h8.elim (fun h7 => absurd (hs_rem hb5.1) (Int32.not_le.mpr h7)) (fun h7 => absurd hr9 (hs_nlt (fun h6 => absurd (hs_rem hb5.1) (Int32.not_le.mpr h6)) (by omega) h7))) (by omega)
          obtain ⟨q9, hq9, e9⟩ := h9
          rw [e9]; exact hn_in (by omega) (by decide)
        refine lv_aload_n C0.1 C0.2.1 dX7_looked_23 rfl (lv_at hl 0 rfl) ?_
        refine gf_X7_20 C0 w hO rfl dX7_looked_24 ?_
        refine lv_aload_n C0.1 C0.2.1 dX7_looked_27 rfl (lv_at hl 0 rfl) ?_
        refine gf_X7_57 C0 w hO rfl dX7_looked_28 ?_
        refine lv_iload_n C0.1 C0.2.1 dX7_looked_31 rfl (lv_at hl 1 rfl) ?_
        refine hv_iald C0 w b1 (hn_in (by omega) (by decide)) dX7_looked_32 ?_
        have hc6 : (nI k).toNatClampNeg = k := nI_clamp (by omega)
        rw [hc6]
        refine lv_bipush (v := 100) C0.1 C0.2.1 dX7_looked_33 (by decide) ?_
        refine lv_idiv C0.1 C0.2.1 dX7_looked_35 (by decide) ?_
        refine hv_aalA 6 rfl C0 w rfl r3 (by rw [ej]; exact hn_in hj1 (by decide)) (by rw [ej, kj1]; exact r4 j1 hj1) dX7_looked_36 ?_
        refine lv_aload_n C0.1 C0.2.1 dX7_looked_37 rfl (lv_at hl 0 rfl) ?_
        refine gf_X7_57 C0 w hO rfl dX7_looked_38 ?_
        refine lv_iload_n C0.1 C0.2.1 dX7_looked_41 rfl (lv_at hl 1 rfl) ?_
        refine hv_iald C0 w b1 (hn_in (by omega) (by decide)) dX7_looked_42 ?_
        have hc7 : (nI k).toNatClampNeg = k := nI_clamp (by omega)
        rw [hc7]
        refine lv_bipush (v := 100) C0.1 C0.2.1 dX7_looked_43 (by decide) ?_
        refine lv_irem C0.1 C0.2.1 dX7_looked_45 (by decide) ?_
        refine hv_iald C0 w hN_j1 (hin9) dX7_looked_46 ?_
        refine lv_aload_n C0.1 C0.2.1 dX7_looked_47 rfl (lv_at hl 0 rfl) ?_
        refine gf_X7_60 C0 w hO rfl dX7_looked_48 ?_
        refine lv_iload_n C0.1 C0.2.1 dX7_looked_51 rfl (lv_at hl 1 rfl) ?_
        refine hv_iald C0 w b2 (hn_in (by omega) (by decide)) dX7_looked_52 ?_
        have hc8 : (nI k).toNatClampNeg = k := nI_clamp (by omega)
        rw [hc8]
        refine lv_icmp_eq (tgt := 58) C0.1 C0.2.1 dX7_looked_53 (by decide) (fun c_53 => ?_) (fun c_53 => ?_)
        · skip
          refine lv_iinc (v := (nI k) + 1) (lv' := [(1, .int ((nI k) + 1)), (0, .ref mo)]) C0.1 C0.2.1 dX7_looked_58 hl (k := 1) rfl rfl (by decide) rfl (fun ls hl => ?_)
          refine lv_goto (tgt := 2) C0.1 C0.2.1 dX7_looked_61 (by decide) ?_
          exact ih (k + 1) _ _ ls (by omega) (by rw [← he, sp_lk, if_neg (by rw [← (ba k (by omega)).1, ← (ba k (by omega)).2]; exact fun h9 => h9.elim (fun h8 => h8 hb5) (fun h8 => h8 (by rw [sp_num, ej, kj1, ← ej]; exact c_53)))]) w (by have h9 := (lv_sub (l' := [(0, .ref mo), (1, .int (nI k + 1))]) hl [1, 0] rfl); rw [nI_1] at h9; exact h9)
        · skip
          refine lv_iload_n C0.1 C0.2.1 dX7_looked_56 rfl (lv_at hl 1 rfl) ?_
          exact hv_iret C0 w hr hlk (⟨by rw [← he, sp_lk, if_pos (by rw [← (ba k (by omega)).1, ← (ba k (by omega)).2]; exact Or.inr (fun h8 => c_53 (by rw [sp_num, ej, kj1, ← ej] at h8; exact h8)))], hM, hv_out.rf⟩) dX7_looked_57
      · skip
        refine lv_if_eq (tgt := 56) C0.1 C0.2.1 dX7_looked_20 (by decide) (fun _ => ?_) (fun h9 => absurd h9 (by decide))
        refine lv_iload_n C0.1 C0.2.1 dX7_looked_56 rfl (lv_at hl 1 rfl) ?_
        exact hv_iret C0 w hr hlk (⟨by rw [← he, sp_lk, if_pos (by rw [← (ba k (by omega)).1, ← (ba k (by omega)).2]; exact Or.inl hb5)], hM, hv_out.rf⟩) dX7_looked_57
  refine lv_iconst (v := 0) C0.1 C0.2.1 dX7_looked_0 (by decide) ?_
  refine lv_istore_n (lv' := [(1, .int 0), (0, .ref mo)]) C0.1 C0.2.1 dX7_looked_1 rfl hl (by decide) rfl (fun ls hl => ?_)
  exact loop σ.1.2.2.2.1 0 _ _ ls (by omega) rfl w (lv_sub hl [1, 0] rfl)

