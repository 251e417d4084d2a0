theorem hs_m1 {x : Int32} (h : x < 0) (h2 : -1 ≤ x) : x = -1 := by
  apply Int32.toInt_inj.mp
  have a := Int32.lt_iff_toInt_lt.mp h
  have b := Int32.le_iff_toInt_le.mp h2
  have e1 : (-1 : Int32).toInt = -1 := by decide
  have e0 : (0 : Int32).toInt = 0 := by decide
  rw [e1] at b ⊢
  rw [e0] at a
  omega
theorem hs_0i {x : Int32} (h : ¬ x < 0) : ¬ x = -1 := fun e => h (by rw [e]; decide)
set_option maxHeartbeats 4000000 in
set_option maxRecDepth 100000 in
theorem c_X7_tape {l : Launch} {X : hv_X} {V : hv_V} {mo : Nat} {σ : hs_S} (hM : okM X V mo σ) (hB : hs_b σ) {j1 : Nat} {so n : Int32} (hj1 : j1 < 6) (hrj : sp_in (nI j1) 0 5) : hv_Mi l X 220 yX7_tape cX7_tape 5 .int V [.ref mo, .int (nI j1), .int so, .int n] (fun y V1 => y = (sp_tape σ (nI j1) so n).1 ∧ okM X V1 mo (sp_tape σ (nI j1) so n).2 ∧ hv_out V V1 mo (mo + 50)) := by
  refine hv_enter (by decide) (Nat.le_of_ble_eq_true rfl) ?_
  intro p e s m below meth c ls C0 hr hlk hnm w hl
  have hl : lv_has ls 5 [(0, .ref mo), (1, .int (nI j1)), (2, .int so), (3, .int n)] := hl
  obtain ⟨ab, be, pl, cl, sg, ik, hO, hRw, hTx, hSc, hSe, hEv, hBk, hIm, hTp⟩ := id hM
  obtain ⟨r1, r2, ⟨rf, r3, r4⟩, r5⟩ := id hRw
  obtain ⟨⟨wd, s1⟩, ⟨td, s2⟩, ⟨sn, s3⟩, ⟨ut, s4⟩, kn, s5⟩ := id hSc
  obtain ⟨sf, sg9, sh, e1, e2, e3, ea⟩ := id hSe
  obtain ⟨ef, eg, v1, v2, va⟩ := id hEv
  obtain ⟨bf, bg, b1, b2, ba⟩ := id hBk
  obtain ⟨t1, t2, ⟨tf, t3, t4⟩, t5⟩ := id hTp
  have hbR := hB.1.1
  have kj1 : (nI j1).toNatClampNeg = j1 := nI_clamp (by omega)
  have hI_j1 : V (mo + 44 + j1) = some (jE X (σ.2.2.2.2.2 j1)) := t5 j1 hj1
  have loop : ∀ (n2 : Nat) (hsp : sp_tape σ (nI j1) so n = (1, (σ.1, σ.2.1, σ.2.2.1, hs_tape σ.2.2.2 j1 so n2 (sp_cp (σ.2.2.2.2.2 j1) (fun _ => 0) 60)))) (m9 i : Nat) (Hq : Heap) (lq : List Loc) (ls : Array Slot), (i + m9 = 60) → hv_w X s (hv_up (hv_up (hv_up V (mo + 41) (iE X 6 (upd σ.2.2.2.1 j1 so))) (mo + 42) (iE X 6 (upd (fun j => nI (σ.2.2.2.2.1 j)) j1 (nI n2)))) (mo + 44 + j1) (jE X (sp_cp (σ.2.2.2.2.2 j1) (fun _ => 0) i))) Hq lq → lv_has ls 5 [(0, .ref mo), (1, .int (nI j1)), (4, .int (nI i))] → W p l e (hv_rm 220 0 0) s m ([.ref mo, .int (nI j1), .int so, .int n] : List Value).toArray below meth c Hq lq 0 0 (MQ below (hv_Qi X (fun y V1 => y = (sp_tape σ (nI j1) so n).1 ∧ okM X V1 mo (sp_tape σ (nI j1) so n).2 ∧ hv_out V V1 mo (mo + 50))) ([.ref mo, .int (nI j1), .int so, .int n] : List Value).toArray s 0 0 X.2.2.1) (F0 m 67 ls []) := by
    intro n2 hsp m9
    induction m9 with
    | zero =>
      intro i Hq lq ls hi w hl
      have hi : i = 60 := hi
      obtain ⟨V8, e8⟩ : ∃ V8, V8 = hv_up (hv_up (hv_up V (mo + 41) (iE X 6 (upd σ.2.2.2.1 j1 so))) (mo + 42) (iE X 6 (upd (fun j => nI (σ.2.2.2.2.1 j)) j1 (nI n2)))) (mo + 44 + j1) (jE X (sp_cp (σ.2.2.2.2.2 j1) (fun _ => 0) i)) := ⟨_, rfl⟩
      rw [← e8] at w
      have q0 : V8 mo = some (.inr (7, [.ref (mo + 1), .ref (mo + 2), .ref (mo + 3), .long ab, .long be, .ref (mo + 10), .int (nI σ.2.2.1.1), .int pl, .int cl, .ref (mo + 11), .ref (mo + 12), .ref (mo + 13), .int sg, .ref (mo + 14), .ref (mo + 15), .ref (mo + 16), .ref (mo + 17), .int (nI σ.1.2.1.1), .ref (mo + 18), .ref (mo + 19), .int (nI σ.1.2.2.1.1), .ref (mo + 20), .ref (mo + 21), .ref (mo + 22), .int (nI σ.1.2.2.2.1), .int ik, .ref (mo + 23), .ref (mo + 24), .ref (mo + 25), .ref (mo + 26), .ref (mo + 33), .ref (mo + 41), .ref (mo + 42), .ref (mo + 43)])) := by rw [e8, hv_un (by omega), hv_un (by omega), hv_un (by omega)]; exact hO
      have q1 : V8 (mo + 43) = some (qE X 7 6 tf) := by rw [e8, hv_un (by omega), hv_un (by omega), hv_un (by omega)]; exact t3
      have q2 : V8 (mo + 44 + j1) = some (jE X (sp_cp (σ.2.2.2.2.2 j1) (fun _ => 0) i)) := by rw [e8]; exact hv_us
      refine lv_iload C0.1 C0.2.1 dX7_tape_67 (lv_at hl 2 rfl) ?_
      refine lv_bipush (v := 60) C0.1 C0.2.1 dX7_tape_69 (by decide) ?_
      refine lv_icmp_ge (tgt := 90) C0.1 C0.2.1 dX7_tape_71 (by decide) (fun c_71 => ?_) (fun c_71 => absurd (show nI 60 ≤ nI i from nI_le (by omega) (by omega)) c_71)
      refine lv_iconst (v := 1) C0.1 C0.2.1 dX7_tape_90 (by decide) ?_
      exact hv_iret C0 w hr hlk (by rw [hsp]; exact ⟨rfl, ⟨ab, be, pl, cl, sg, ik, ((by rw [e8, hv_un (by omega), hv_un (by omega), hv_un (by omega)] : _ = V mo).trans hO), hRw.fr (fun q h7 h8 => by rw [e8, hv_un (by omega), hv_un (by omega), hv_un (by omega)]), (by rw [e8, hv_un (by omega), hv_un (by omega), hv_un (by omega)] : _ = V (mo + 10)).trans hTx, hSc.fr (fun q h7 h8 => by rw [e8, hv_un (by omega), hv_un (by omega), hv_un (by omega)]) (fun q h7 h8 => by rw [e8, hv_un (by omega), hv_un (by omega), hv_un (by omega)]), hSe.fr (fun q h7 h8 => by rw [e8, hv_un (by omega), hv_un (by omega), hv_un (by omega)]), hEv.fr (by rw [e8, hv_un (by omega), hv_un (by omega), hv_un (by omega)]) (by rw [e8, hv_un (by omega), hv_un (by omega), hv_un (by omega)]), hBk.fr (by rw [e8, hv_un (by omega), hv_un (by omega), hv_un (by omega)]) (by rw [e8, hv_un (by omega), hv_un (by omega), hv_un (by omega)]), hIm.fr (fun q h7 h8 => by rw [e8, hv_un (by omega), hv_un (by omega), hv_un (by omega)]), hTp.set hj1 (by rw [e8, hv_un (by omega), hv_un (by omega)]; exact hv_us) (by rw [e8, hv_un (by omega)]; exact hv_us) (by rw [e8, hi]; exact hv_us) (by rw [e8, hv_un (by omega), hv_un (by omega), hv_un (by omega)]) (fun i9 hi9 hne9 => by rw [e8, hv_un (by omega), hv_un (by omega), hv_un (by omega)])⟩, (fun q h7 => by rw [e8, hv_un (by omega), hv_un (by omega), hv_un (by omega)])⟩) dX7_tape_91
    | succ m9 ih =>
      intro i Hq lq ls hi w hl
      obtain ⟨V8, e8⟩ : ∃ V8, V8 = hv_up (hv_up (hv_up V (mo + 41) (iE X 6 (upd σ.2.2.2.1 j1 so))) (mo + 42) (iE X 6 (upd (fun j => nI (σ.2.2.2.2.1 j)) j1 (nI n2)))) (mo + 44 + j1) (jE X (sp_cp (σ.2.2.2.2.2 j1) (fun _ => 0) i)) := ⟨_, rfl⟩
      rw [← e8] at w
      have q0 : V8 mo = some (.inr (7, [.ref (mo + 1), .ref (mo + 2), .ref (mo + 3), .long ab, .long be, .ref (mo + 10), .int (nI σ.2.2.1.1), .int pl, .int cl, .ref (mo + 11), .ref (mo + 12), .ref (mo + 13), .int sg, .ref (mo + 14), .ref (mo + 15), .ref (mo + 16), .ref (mo + 17), .int (nI σ.1.2.1.1), .ref (mo + 18), .ref (mo + 19), .int (nI σ.1.2.2.1.1), .ref (mo + 20), .ref (mo + 21), .ref (mo + 22), .int (nI σ.1.2.2.2.1), .int ik, .ref (mo + 23), .ref (mo + 24), .ref (mo + 25), .ref (mo + 26), .ref (mo + 33), .ref (mo + 41), .ref (mo + 42), .ref (mo + 43)])) := by rw [e8, hv_un (by omega), hv_un (by omega), hv_un (by omega)]; exact hO
      have q1 : V8 (mo + 43) = some (qE X 7 6 tf) := by rw [e8, hv_un (by omega), hv_un (by omega), hv_un (by omega)]; exact t3
      have q2 : V8 (mo + 44 + j1) = some (jE X (sp_cp (σ.2.2.2.2.2 j1) (fun _ => 0) i)) := by rw [e8]; exact hv_us
      refine lv_iload C0.1 C0.2.1 dX7_tape_67 (lv_at hl 2 rfl) ?_
      refine lv_bipush (v := 60) C0.1 C0.2.1 dX7_tape_69 (by decide) ?_
      refine lv_icmp_ge (tgt := 90) C0.1 C0.2.1 dX7_tape_71 (by decide) (fun c_71 => absurd c_71 (show ¬ nI 60 ≤ nI i from nI_ge (by omega) (by omega))) (fun c_71 => ?_)
      refine lv_aload_n C0.1 C0.2.1 dX7_tape_74 rfl (lv_at hl 0 rfl) ?_
      refine gf_X7_86 C0 w q0 rfl dX7_tape_75 ?_
      refine lv_iload_n C0.1 C0.2.1 dX7_tape_78 rfl (lv_at hl 1 rfl) ?_
      refine hv_aalA 7 rfl C0 w rfl q1 (hn_in hj1 (by decide)) (by rw [kj1]; exact t4 j1 hj1) dX7_tape_79 ?_
      refine lv_iload C0.1 C0.2.1 dX7_tape_80 (lv_at hl 2 rfl) ?_
      refine lv_lconst (v := 0) C0.1 C0.2.1 dX7_tape_82 (by decide) ?_
      refine hv_last C0 w q2 (hn_in (by omega) (by decide)) dX7_tape_83 (fun Hq lq w => ?_)
      have hc1 : (nI i).toNatClampNeg = i := nI_clamp (by omega)
      rw [hc1] at w
      obtain ⟨V2, eV3⟩ : ∃ W9, W9 = hv_up V8 (mo + 44 + j1) (.inl (X.2.1 1, 60, .inr (.inl (vp_updL (sp_cp (σ.2.2.2.2.2 j1) (fun _ => 0) i) i 0)))) := ⟨_, rfl⟩
      have w : hv_w X s V2 Hq lq := by rw [eV3]; exact w
      have hV4 : V2 mo = some (.inr (7, [.ref (mo + 1), .ref (mo + 2), .ref (mo + 3), .long ab, .long be, .ref (mo + 10), .int (nI σ.2.2.1.1), .int pl, .int cl, .ref (mo + 11), .ref (mo + 12), .ref (mo + 13), .int sg, .ref (mo + 14), .ref (mo + 15), .ref (mo + 16), .ref (mo + 17), .int (nI σ.1.2.1.1), .ref (mo + 18), .ref (mo + 19), .int (nI σ.1.2.2.1.1), .ref (mo + 20), .ref (mo + 21), .ref (mo + 22), .int (nI σ.1.2.2.2.1), .int ik, .ref (mo + 23), .ref (mo + 24), .ref (mo + 25), .ref (mo + 26), .ref (mo + 33), .ref (mo + 41), .ref (mo + 42), .ref (mo + 43)])) := by rw [eV3, hv_un (by omega)]; exact q0
      have hV5 : V2 (mo + 43) = some (.inl (X.2.1 7, 6, .inr (.inr (.inr (.inr tf))))) := by rw [eV3, hv_un (by omega)]; exact q1
      have hV7 : V2 (mo + 44 + j1) = some (.inl (X.2.1 1, 60, .inr (.inl (vp_updL (sp_cp (σ.2.2.2.2.2 j1) (fun _ => 0) i) i 0)))) := by rw [eV3]; exact hv_us
      refine lv_iinc (v := (nI i) + 1) (lv' := [(4, .int ((nI i) + 1)), (0, .ref mo), (1, .int (nI j1))]) C0.1 C0.2.1 dX7_tape_84 hl (k := 2) rfl rfl (by decide) rfl (fun ls hl => ?_)
      refine lv_goto (tgt := 67) C0.1 C0.2.1 dX7_tape_87 (by decide) ?_
      exact ih (i + 1) _ _ ls (by omega) (by rw [eV3, e8, sp_cpz, hv_uu] at w; exact w) (by have h9 := (lv_sub (l' := [(0, .ref mo), (1, .int (nI j1)), (4, .int (nI i + 1))]) hl [1, 2, 0] rfl); rw [nI_1] at h9; exact h9)
  refine lv_iload_n C0.1 C0.2.1 dX7_tape_0 rfl (lv_at hl 1 rfl) ?_
  refine hv_cSi (As := [.int (nI j1)]) C0 w kl_X7_303 ks_X7_isTape (c_X7_isTape) (by decide) (by decide) rfl hl.1 rfl (Nat.le_of_ble_eq_true rfl) dX7_tape_1 ⟨Nat.le_refl _, Nat.le_refl _⟩ (fun x1 V2 Hq lq hp3 w => ?_)
  obtain ⟨e9, hz9⟩ := hp3
  rw [e9] at w; clear e9
  obtain ⟨ex9, -⟩ | ⟨-, hno⟩ := hz9
  rotate_left
  · exact absurd hrj hno
  rw [ex9]; clear ex9
  refine lv_if_ne (tgt := 9) C0.1 C0.2.1 dX7_tape_4 (by decide) (fun _ => ?_) (fun h9 => absurd h9 (by decide))
  refine lv_iload_n C0.1 C0.2.1 dX7_tape_9 rfl (lv_at hl 2 rfl) ?_
  refine lv_iconst (v := -1) C0.1 C0.2.1 dX7_tape_10 (by decide) ?_
  refine lv_iconst (v := 4) C0.1 C0.2.1 dX7_tape_11 (by decide) ?_
  refine hv_cSi (As := [.int so, .int (-1), .int 4]) C0 w kl_X7_89 ks_X7_in (c_X7_in) (by decide) (by decide) rfl hl.1 rfl (Nat.le_of_ble_eq_true rfl) dX7_tape_12 ⟨Nat.le_refl _, Nat.le_refl _⟩ (fun x4 V5 Hq lq hp6 w => ?_)
  obtain ⟨e9, hz9⟩ := hp6
  rw [e9] at w; clear e9
  rcases hz9 with ⟨rfl, hb7⟩ | ⟨rfl, hb7⟩
  · skip
    refine lv_if_eq (tgt := 28) C0.1 C0.2.1 dX7_tape_15 (by decide) (fun h9 => absurd h9 (by decide)) (fun _ => ?_)
    refine lv_iload_n C0.1 C0.2.1 dX7_tape_18 rfl (lv_at hl 2 rfl) ?_
    refine lv_if_lt (tgt := 31) C0.1 C0.2.1 dX7_tape_19 (by decide) (fun c_19 => ?_) (fun c_19 => ?_)
    · skip
      refine lv_iload_n C0.1 C0.2.1 dX7_tape_31 rfl (lv_at hl 2 rfl) ?_
      refine lv_if_lt (tgt := 42) C0.1 C0.2.1 dX7_tape_32 (by decide) (fun c_32 => ?_) (fun c_32 => absurd (c_19) c_32)
      refine lv_aload_n C0.1 C0.2.1 dX7_tape_42 rfl (lv_at hl 0 rfl) ?_
      refine gf_X7_78 C0 w hO rfl dX7_tape_43 ?_
      refine lv_iload_n C0.1 C0.2.1 dX7_tape_46 rfl (lv_at hl 1 rfl) ?_
      refine lv_iload_n C0.1 C0.2.1 dX7_tape_47 rfl (lv_at hl 2 rfl) ?_
      refine hv_iast C0 w t1 (hn_in hj1 (by decide)) dX7_tape_48 (fun Hq lq w => ?_)
      have hc8 : (nI j1).toNatClampNeg = j1 := nI_clamp (by omega)
      rw [hc8] at w
      obtain ⟨V9, eV10⟩ : ∃ W9, W9 = hv_up V (mo + 41) (.inl (X.2.1 0, 6, .inl (upd (σ.2.2.2.1) j1 so))) := ⟨_, rfl⟩
      have w : hv_w X s V9 Hq lq := by rw [eV10]; exact w
      have hV11 : V9 mo = some (.inr (7, [.ref (mo + 1), .ref (mo + 2), .ref (mo + 3), .long ab, .long be, .ref (mo + 10), .int (nI σ.2.2.1.1), .int pl, .int cl, .ref (mo + 11), .ref (mo + 12), .ref (mo + 13), .int sg, .ref (mo + 14), .ref (mo + 15), .ref (mo + 16), .ref (mo + 17), .int (nI σ.1.2.1.1), .ref (mo + 18), .ref (mo + 19), .int (nI σ.1.2.2.1.1), .ref (mo + 20), .ref (mo + 21), .ref (mo + 22), .int (nI σ.1.2.2.2.1), .int ik, .ref (mo + 23), .ref (mo + 24), .ref (mo + 25), .ref (mo + 26), .ref (mo + 33), .ref (mo + 41), .ref (mo + 42), .ref (mo + 43)])) := by rw [eV10, hv_un (by omega)]; exact hO
      have hV12 : V9 (mo + 1) = some (.inl (X.2.1 0, 6, .inl σ.1.1.1)) := by rw [eV10, hv_un (by omega)]; exact r1
      have hV13 : V9 (mo + 2) = some (.inl (X.2.1 0, 6, .inl (fun j => nI (σ.1.1.2.1 j)))) := by rw [eV10, hv_un (by omega)]; exact r2
      have hV14 : V9 (mo + 3) = some (.inl (X.2.1 6, 6, .inr (.inr (.inr (.inr rf))))) := by rw [eV10, hv_un (by omega)]; exact r3
      have hV15 : V9 (mo + 10) = some (.inl (X.2.1 2, 100, .inl σ.2.2.1.2)) := by rw [eV10, hv_un (by omega)]; exact hTx
      have hV16 : V9 (mo + 11) = some (.inl (X.2.1 0, 12, .inl wd)) := by rw [eV10, hv_un (by omega)]; exact s1
      have hV17 : V9 (mo + 12) = some (.inl (X.2.1 0, 48, .inl td)) := by rw [eV10, hv_un (by omega)]; exact s2
      have hV18 : V9 (mo + 13) = some (.inl (X.2.1 2, 178, .inl sn)) := by rw [eV10, hv_un (by omega)]; exact s3
      have hV19 : V9 (mo + 14) = some (.inl (X.2.1 0, 3, .inl ut)) := by rw [eV10, hv_un (by omega)]; exact s4
      have hV20 : V9 (mo + 20) = some (.inl (X.2.1 0, 16, .inl kn)) := by rw [eV10, hv_un (by omega)]; exact s5
      have hV21 : V9 (mo + 15) = some (.inl (X.2.1 0, 4, .inl sf)) := by rw [eV10, hv_un (by omega)]; exact e1
      have hV22 : V9 (mo + 16) = some (.inl (X.2.1 0, 4, .inl sg9)) := by rw [eV10, hv_un (by omega)]; exact e2
      have hV23 : V9 (mo + 17) = some (.inl (X.2.1 0, 4, .inl sh)) := by rw [eV10, hv_un (by omega)]; exact e3
      have hV24 : V9 (mo + 18) = some (.inl (X.2.1 0, 8, .inl ef)) := by rw [eV10, hv_un (by omega)]; exact v1
      have hV25 : V9 (mo + 19) = some (.inl (X.2.1 0, 8, .inl eg)) := by rw [eV10, hv_un (by omega)]; exact v2
      have hV26 : V9 (mo + 21) = some (.inl (X.2.1 0, 8, .inl bf)) := by rw [eV10, hv_un (by omega)]; exact b1
      have hV27 : V9 (mo + 22) = some (.inl (X.2.1 0, 8, .inl bg)) := by rw [eV10, hv_un (by omega)]; exact b2
      have hV29 : V9 (mo + 42) = some (.inl (X.2.1 0, 6, .inl (fun j => nI (σ.2.2.2.2.1 j)))) := by rw [eV10, hv_un (by omega)]; exact t2
      have hV30 : V9 (mo + 43) = some (.inl (X.2.1 7, 6, .inr (.inr (.inr (.inr tf))))) := by rw [eV10, hv_un (by omega)]; exact t3
      have hV31 : V9 (mo + 44 + j1) = some (.inl (X.2.1 1, 60, .inr (.inl (σ.2.2.2.2.2 j1)))) := by rw [eV10, hv_un (by omega)]; exact hI_j1
      have hV32 : V9 (mo + 41) = some (.inl (X.2.1 0, 6, .inl (upd (σ.2.2.2.1) j1 so))) := by rw [eV10]; exact hv_us
      refine lv_aload_n C0.1 C0.2.1 dX7_tape_49 rfl (lv_at hl 0 rfl) ?_
      refine gf_X7_81 C0 w hV11 rfl dX7_tape_50 ?_
      refine lv_iload_n C0.1 C0.2.1 dX7_tape_53 rfl (lv_at hl 1 rfl) ?_
      refine lv_iload_n C0.1 C0.2.1 dX7_tape_54 rfl (lv_at hl 2 rfl) ?_
      refine lv_if_ge (tgt := 62) C0.1 C0.2.1 dX7_tape_55 (by decide) (fun c_55 => absurd c_55 (Int32.not_le.mpr c_19)) (fun c_55 => ?_)
      refine lv_iconst (v := 0) C0.1 C0.2.1 dX7_tape_58 (by decide) ?_
      refine lv_goto (tgt := 63) C0.1 C0.2.1 dX7_tape_59 (by decide) ?_
      refine hv_iast C0 w hV29 (hn_in hj1 (by decide)) dX7_tape_63 (fun Hq lq w => ?_)
      have hc33 : (nI j1).toNatClampNeg = j1 := nI_clamp (by omega)
      rw [hc33] at w
      obtain ⟨V34, eV35⟩ : ∃ W9, W9 = hv_up V9 (mo + 42) (.inl (X.2.1 0, 6, .inl (upd (fun j => nI (σ.2.2.2.2.1 j)) j1 0))) := ⟨_, rfl⟩
      have w : hv_w X s V34 Hq lq := by rw [eV35]; exact w
      have hV36 : V34 mo = some (.inr (7, [.ref (mo + 1), .ref (mo + 2), .ref (mo + 3), .long ab, .long be, .ref (mo + 10), .int (nI σ.2.2.1.1), .int pl, .int cl, .ref (mo + 11), .ref (mo + 12), .ref (mo + 13), .int sg, .ref (mo + 14), .ref (mo + 15), .ref (mo + 16), .ref (mo + 17), .int (nI σ.1.2.1.1), .ref (mo + 18), .ref (mo + 19), .int (nI σ.1.2.2.1.1), .ref (mo + 20), .ref (mo + 21), .ref (mo + 22), .int (nI σ.1.2.2.2.1), .int ik, .ref (mo + 23), .ref (mo + 24), .ref (mo + 25), .ref (mo + 26), .ref (mo + 33), .ref (mo + 41), .ref (mo + 42), .ref (mo + 43)])) := by rw [eV35, hv_un (by omega)]; exact hV11
      have hV37 : V34 (mo + 1) = some (.inl (X.2.1 0, 6, .inl σ.1.1.1)) := by rw [eV35, hv_un (by omega)]; exact hV12
      have hV38 : V34 (mo + 2) = some (.inl (X.2.1 0, 6, .inl (fun j => nI (σ.1.1.2.1 j)))) := by rw [eV35, hv_un (by omega)]; exact hV13
      have hV39 : V34 (mo + 3) = some (.inl (X.2.1 6, 6, .inr (.inr (.inr (.inr rf))))) := by rw [eV35, hv_un (by omega)]; exact hV14
      have hV40 : V34 (mo + 10) = some (.inl (X.2.1 2, 100, .inl σ.2.2.1.2)) := by rw [eV35, hv_un (by omega)]; exact hV15
      have hV41 : V34 (mo + 11) = some (.inl (X.2.1 0, 12, .inl wd)) := by rw [eV35, hv_un (by omega)]; exact hV16
      have hV42 : V34 (mo + 12) = some (.inl (X.2.1 0, 48, .inl td)) := by rw [eV35, hv_un (by omega)]; exact hV17
      have hV43 : V34 (mo + 13) = some (.inl (X.2.1 2, 178, .inl sn)) := by rw [eV35, hv_un (by omega)]; exact hV18
      have hV44 : V34 (mo + 14) = some (.inl (X.2.1 0, 3, .inl ut)) := by rw [eV35, hv_un (by omega)]; exact hV19
      have hV45 : V34 (mo + 20) = some (.inl (X.2.1 0, 16, .inl kn)) := by rw [eV35, hv_un (by omega)]; exact hV20
      have hV46 : V34 (mo + 15) = some (.inl (X.2.1 0, 4, .inl sf)) := by rw [eV35, hv_un (by omega)]; exact hV21
      have hV47 : V34 (mo + 16) = some (.inl (X.2.1 0, 4, .inl sg9)) := by rw [eV35, hv_un (by omega)]; exact hV22
      have hV48 : V34 (mo + 17) = some (.inl (X.2.1 0, 4, .inl sh)) := by rw [eV35, hv_un (by omega)]; exact hV23
      have hV49 : V34 (mo + 18) = some (.inl (X.2.1 0, 8, .inl ef)) := by rw [eV35, hv_un (by omega)]; exact hV24
      have hV50 : V34 (mo + 19) = some (.inl (X.2.1 0, 8, .inl eg)) := by rw [eV35, hv_un (by omega)]; exact hV25
      have hV51 : V34 (mo + 21) = some (.inl (X.2.1 0, 8, .inl bf)) := by rw [eV35, hv_un (by omega)]; exact hV26
      have hV52 : V34 (mo + 22) = some (.inl (X.2.1 0, 8, .inl bg)) := by rw [eV35, hv_un (by omega)]; exact hV27
      have hV54 : V34 (mo + 43) = some (.inl (X.2.1 7, 6, .inr (.inr (.inr (.inr tf))))) := by rw [eV35, hv_un (by omega)]; exact hV30
      have hV55 : V34 (mo + 44 + j1) = some (.inl (X.2.1 1, 60, .inr (.inl (σ.2.2.2.2.2 j1)))) := by rw [eV35, hv_un (by omega)]; exact hV31
      have hV56 : V34 (mo + 41) = some (.inl (X.2.1 0, 6, .inl (upd (σ.2.2.2.1) j1 so))) := by rw [eV35, hv_un (by omega)]; exact hV32
      have hV57 : V34 (mo + 42) = some (.inl (X.2.1 0, 6, .inl (upd (fun j => nI (σ.2.2.2.2.1 j)) j1 0))) := by rw [eV35]; exact hv_us
      refine lv_iconst (v := 0) C0.1 C0.2.1 dX7_tape_64 (by decide) ?_
      refine lv_istore (lv' := [(4, .int 0), (0, .ref mo), (1, .int (nI j1)), (2, .int so), (3, .int n)]) C0.1 C0.2.1 dX7_tape_65 hl (by decide) rfl (fun ls hl => ?_)
      have e7 : hv_up (hv_up (hv_up V (mo + 41) (iE X 6 (upd σ.2.2.2.1 j1 so))) (mo + 42) (iE X 6 (upd (fun j => nI (σ.2.2.2.2.1 j)) j1 (nI 0)))) (mo + 44 + j1) (jE X (sp_cp (σ.2.2.2.2.2 j1) (fun _ => 0) 0)) = hv_up (hv_up V (mo + 41) (iE X 6 (upd σ.2.2.2.1 j1 so))) (mo + 42) (iE X 6 (upd (fun j => nI (σ.2.2.2.2.1 j)) j1 (nI 0))) := by rw [sp_cp0, hv_id (by rw [hv_un (by omega), hv_un (by omega)]; exact hI_j1)]
      exact loop 0 (by rw [sp_tape, if_pos hrj, if_pos (hs_m1 c_19 hb7.1), kj1, hs_m1 c_19 hb7.1]) 60 0 _ _ ls rfl (by rw [e7]; rw [eV35, eV10] at w; exact w) (lv_sub hl [1, 2, 0] rfl)
    · skip
      refine lv_iload_n C0.1 C0.2.1 dX7_tape_22 rfl (lv_at hl 3 rfl) ?_
      refine lv_bipush (v := 60) C0.1 C0.2.1 dX7_tape_23 (by decide) ?_
      refine lv_icmp_le (tgt := 31) C0.1 C0.2.1 dX7_tape_25 (by decide) (fun c_25 => ?_) (fun c_25 => ?_)
      · skip
        refine lv_iload_n C0.1 C0.2.1 dX7_tape_31 rfl (lv_at hl 2 rfl) ?_
        refine lv_if_lt (tgt := 42) C0.1 C0.2.1 dX7_tape_32 (by decide) (fun c_32 => absurd c_32 (c_19)) (fun c_32 => ?_)
        refine lv_iload_n C0.1 C0.2.1 dX7_tape_35 rfl (lv_at hl 3 rfl) ?_
        refine lv_if_ge (tgt := 42) C0.1 C0.2.1 dX7_tape_36 (by decide) (fun c_36 => ?_) (fun c_36 => ?_)
        · skip
          refine lv_aload_n C0.1 C0.2.1 dX7_tape_42 rfl (lv_at hl 0 rfl) ?_
          refine gf_X7_78 C0 w hO rfl dX7_tape_43 ?_
          refine lv_iload_n C0.1 C0.2.1 dX7_tape_46 rfl (lv_at hl 1 rfl) ?_
          refine lv_iload_n C0.1 C0.2.1 dX7_tape_47 rfl (lv_at hl 2 rfl) ?_
          refine hv_iast C0 w t1 (hn_in hj1 (by decide)) dX7_tape_48 (fun Hq lq w => ?_)
          have hc58 : (nI j1).toNatClampNeg = j1 := nI_clamp (by omega)
          rw [hc58] at w
          obtain ⟨V59, eV60⟩ : ∃ W9, W9 = hv_up V (mo + 41) (.inl (X.2.1 0, 6, .inl (upd (σ.2.2.2.1) j1 so))) := ⟨_, rfl⟩
          have w : hv_w X s V59 Hq lq := by rw [eV60]; exact w
          have hV61 : V59 mo = some (.inr (7, [.ref (mo + 1), .ref (mo + 2), .ref (mo + 3), .long ab, .long be, .ref (mo + 10), .int (nI σ.2.2.1.1), .int pl, .int cl, .ref (mo + 11), .ref (mo + 12), .ref (mo + 13), .int sg, .ref (mo + 14), .ref (mo + 15), .ref (mo + 16), .ref (mo + 17), .int (nI σ.1.2.1.1), .ref (mo + 18), .ref (mo + 19), .int (nI σ.1.2.2.1.1), .ref (mo + 20), .ref (mo + 21), .ref (mo + 22), .int (nI σ.1.2.2.2.1), .int ik, .ref (mo + 23), .ref (mo + 24), .ref (mo + 25), .ref (mo + 26), .ref (mo + 33), .ref (mo + 41), .ref (mo + 42), .ref (mo + 43)])) := by rw [eV60, hv_un (by omega)]; exact hO
          have hV62 : V59 (mo + 1) = some (.inl (X.2.1 0, 6, .inl σ.1.1.1)) := by rw [eV60, hv_un (by omega)]; exact r1
          have hV63 : V59 (mo + 2) = some (.inl (X.2.1 0, 6, .inl (fun j => nI (σ.1.1.2.1 j)))) := by rw [eV60, hv_un (by omega)]; exact r2
          have hV64 : V59 (mo + 3) = some (.inl (X.2.1 6, 6, .inr (.inr (.inr (.inr rf))))) := by rw [eV60, hv_un (by omega)]; exact r3
          have hV65 : V59 (mo + 10) = some (.inl (X.2.1 2, 100, .inl σ.2.2.1.2)) := by rw [eV60, hv_un (by omega)]; exact hTx
          have hV66 : V59 (mo + 11) = some (.inl (X.2.1 0, 12, .inl wd)) := by rw [eV60, hv_un (by omega)]; exact s1
          have hV67 : V59 (mo + 12) = some (.inl (X.2.1 0, 48, .inl td)) := by rw [eV60, hv_un (by omega)]; exact s2
          have hV68 : V59 (mo + 13) = some (.inl (X.2.1 2, 178, .inl sn)) := by rw [eV60, hv_un (by omega)]; exact s3
          have hV69 : V59 (mo + 14) = some (.inl (X.2.1 0, 3, .inl ut)) := by rw [eV60, hv_un (by omega)]; exact s4
          have hV70 : V59 (mo + 20) = some (.inl (X.2.1 0, 16, .inl kn)) := by rw [eV60, hv_un (by omega)]; exact s5
          have hV71 : V59 (mo + 15) = some (.inl (X.2.1 0, 4, .inl sf)) := by rw [eV60, hv_un (by omega)]; exact e1
          have hV72 : V59 (mo + 16) = some (.inl (X.2.1 0, 4, .inl sg9)) := by rw [eV60, hv_un (by omega)]; exact e2
          have hV73 : V59 (mo + 17) = some (.inl (X.2.1 0, 4, .inl sh)) := by rw [eV60, hv_un (by omega)]; exact e3
          have hV74 : V59 (mo + 18) = some (.inl (X.2.1 0, 8, .inl ef)) := by rw [eV60, hv_un (by omega)]; exact v1
          have hV75 : V59 (mo + 19) = some (.inl (X.2.1 0, 8, .inl eg)) := by rw [eV60, hv_un (by omega)]; exact v2
          have hV76 : V59 (mo + 21) = some (.inl (X.2.1 0, 8, .inl bf)) := by rw [eV60, hv_un (by omega)]; exact b1
          have hV77 : V59 (mo + 22) = some (.inl (X.2.1 0, 8, .inl bg)) := by rw [eV60, hv_un (by omega)]; exact b2
          have hV79 : V59 (mo + 42) = some (.inl (X.2.1 0, 6, .inl (fun j => nI (σ.2.2.2.2.1 j)))) := by rw [eV60, hv_un (by omega)]; exact t2
          have hV80 : V59 (mo + 43) = some (.inl (X.2.1 7, 6, .inr (.inr (.inr (.inr tf))))) := by rw [eV60, hv_un (by omega)]; exact t3
          have hV81 : V59 (mo + 44 + j1) = some (.inl (X.2.1 1, 60, .inr (.inl (σ.2.2.2.2.2 j1)))) := by rw [eV60, hv_un (by omega)]; exact hI_j1
          have hV82 : V59 (mo + 41) = some (.inl (X.2.1 0, 6, .inl (upd (σ.2.2.2.1) j1 so))) := by rw [eV60]; exact hv_us
          refine lv_aload_n C0.1 C0.2.1 dX7_tape_49 rfl (lv_at hl 0 rfl) ?_
          refine gf_X7_81 C0 w hV61 rfl dX7_tape_50 ?_
          refine lv_iload_n C0.1 C0.2.1 dX7_tape_53 rfl (lv_at hl 1 rfl) ?_
          refine lv_iload_n C0.1 C0.2.1 dX7_tape_54 rfl (lv_at hl 2 rfl) ?_
          refine lv_if_ge (tgt := 62) C0.1 C0.2.1 dX7_tape_55 (by decide) (fun c_55 => ?_) (fun c_55 => absurd (Int32.not_lt.mp c_19) c_55)
          obtain ⟨n1, hn1, rfl⟩ := sp_inN (k := 60) (by decide) ⟨c_36, c_25⟩
          have kn1 : (nI n1).toNatClampNeg = n1 := nI_clamp (by omega)
          refine lv_iload_n C0.1 C0.2.1 dX7_tape_62 rfl (lv_at hl 3 rfl) ?_
          refine hv_iast C0 w hV79 (hn_in hj1 (by decide)) dX7_tape_63 (fun Hq lq w => ?_)
          have hc83 : (nI j1).toNatClampNeg = j1 := nI_clamp (by omega)
          rw [hc83] at w
          obtain ⟨V84, eV85⟩ : ∃ W9, W9 = hv_up V59 (mo + 42) (.inl (X.2.1 0, 6, .inl (upd (fun j => nI (σ.2.2.2.2.1 j)) j1 (nI n1)))) := ⟨_, rfl⟩
          have w : hv_w X s V84 Hq lq := by rw [eV85]; exact w
          have hV86 : V84 mo = some (.inr (7, [.ref (mo + 1), .ref (mo + 2), .ref (mo + 3), .long ab, .long be, .ref (mo + 10), .int (nI σ.2.2.1.1), .int pl, .int cl, .ref (mo + 11), .ref (mo + 12), .ref (mo + 13), .int sg, .ref (mo + 14), .ref (mo + 15), .ref (mo + 16), .ref (mo + 17), .int (nI σ.1.2.1.1), .ref (mo + 18), .ref (mo + 19), .int (nI σ.1.2.2.1.1), .ref (mo + 20), .ref (mo + 21), .ref (mo + 22), .int (nI σ.1.2.2.2.1), .int ik, .ref (mo + 23), .ref (mo + 24), .ref (mo + 25), .ref (mo + 26), .ref (mo + 33), .ref (mo + 41), .ref (mo + 42), .ref (mo + 43)])) := by rw [eV85, hv_un (by omega)]; exact hV61
          have hV87 : V84 (mo + 1) = some (.inl (X.2.1 0, 6, .inl σ.1.1.1)) := by rw [eV85, hv_un (by omega)]; exact hV62
          have hV88 : V84 (mo + 2) = some (.inl (X.2.1 0, 6, .inl (fun j => nI (σ.1.1.2.1 j)))) := by rw [eV85, hv_un (by omega)]; exact hV63
          have hV89 : V84 (mo + 3) = some (.inl (X.2.1 6, 6, .inr (.inr (.inr (.inr rf))))) := by rw [eV85, hv_un (by omega)]; exact hV64
          have hV90 : V84 (mo + 10) = some (.inl (X.2.1 2, 100, .inl σ.2.2.1.2)) := by rw [eV85, hv_un (by omega)]; exact hV65
          have hV91 : V84 (mo + 11) = some (.inl (X.2.1 0, 12, .inl wd)) := by rw [eV85, hv_un (by omega)]; exact hV66
          have hV92 : V84 (mo + 12) = some (.inl (X.2.1 0, 48, .inl td)) := by rw [eV85, hv_un (by omega)]; exact hV67
          have hV93 : V84 (mo + 13) = some (.inl (X.2.1 2, 178, .inl sn)) := by rw [eV85, hv_un (by omega)]; exact hV68
          have hV94 : V84 (mo + 14) = some (.inl (X.2.1 0, 3, .inl ut)) := by rw [eV85, hv_un (by omega)]; exact hV69
          have hV95 : V84 (mo + 20) = some (.inl (X.2.1 0, 16, .inl kn)) := by rw [eV85, hv_un (by omega)]; exact hV70
          have hV96 : V84 (mo + 15) = some (.inl (X.2.1 0, 4, .inl sf)) := by rw [eV85, hv_un (by omega)]; exact hV71
          have hV97 : V84 (mo + 16) = some (.inl (X.2.1 0, 4, .inl sg9)) := by rw [eV85, hv_un (by omega)]; exact hV72
          have hV98 : V84 (mo + 17) = some (.inl (X.2.1 0, 4, .inl sh)) := by rw [eV85, hv_un (by omega)]; exact hV73
          have hV99 : V84 (mo + 18) = some (.inl (X.2.1 0, 8, .inl ef)) := by rw [eV85, hv_un (by omega)]; exact hV74
          have hV100 : V84 (mo + 19) = some (.inl (X.2.1 0, 8, .inl eg)) := by rw [eV85, hv_un (by omega)]; exact hV75
          have hV101 : V84 (mo + 21) = some (.inl (X.2.1 0, 8, .inl bf)) := by rw [eV85, hv_un (by omega)]; exact hV76
          have hV102 : V84 (mo + 22) = some (.inl (X.2.1 0, 8, .inl bg)) := by rw [eV85, hv_un (by omega)]; exact hV77
          have hV104 : V84 (mo + 43) = some (.inl (X.2.1 7, 6, .inr (.inr (.inr (.inr tf))))) := by rw [eV85, hv_un (by omega)]; exact hV80
          have hV105 : V84 (mo + 44 + j1) = some (.inl (X.2.1 1, 60, .inr (.inl (σ.2.2.2.2.2 j1)))) := by rw [eV85, hv_un (by omega)]; exact hV81
          have hV106 : V84 (mo + 41) = some (.inl (X.2.1 0, 6, .inl (upd (σ.2.2.2.1) j1 so))) := by rw [eV85, hv_un (by omega)]; exact hV82
          have hV107 : V84 (mo + 42) = some (.inl (X.2.1 0, 6, .inl (upd (fun j => nI (σ.2.2.2.2.1 j)) j1 (nI n1)))) := by rw [eV85]; exact hv_us
          refine lv_iconst (v := 0) C0.1 C0.2.1 dX7_tape_64 (by decide) ?_
          refine lv_istore (lv' := [(4, .int 0), (0, .ref mo), (1, .int (nI j1)), (2, .int so), (3, .int (nI n1))]) C0.1 C0.2.1 dX7_tape_65 hl (by decide) rfl (fun ls hl => ?_)
          have e7 : hv_up (hv_up (hv_up V (mo + 41) (iE X 6 (upd σ.2.2.2.1 j1 so))) (mo + 42) (iE X 6 (upd (fun j => nI (σ.2.2.2.2.1 j)) j1 (nI n1)))) (mo + 44 + j1) (jE X (sp_cp (σ.2.2.2.2.2 j1) (fun _ => 0) 0)) = hv_up (hv_up V (mo + 41) (iE X 6 (upd σ.2.2.2.1 j1 so))) (mo + 42) (iE X 6 (upd (fun j => nI (σ.2.2.2.2.1 j)) j1 (nI n1))) := by rw [sp_cp0, hv_id (by rw [hv_un (by omega), hv_un (by omega)]; exact hI_j1)]
          exact loop n1 (by rw [sp_tape, if_pos hrj, if_neg (hs_0i c_19), if_pos ⟨⟨Int32.not_lt.mp c_19, hb7.2⟩, c_25⟩, if_neg (Int32.not_lt.mpr c_36), kj1, kn1]) 60 0 _ _ ls rfl (by rw [e7]; rw [eV85, eV60] at w; exact w) (lv_sub hl [1, 2, 0] rfl)
        · skip
          refine lv_bipush (v := -14) C0.1 C0.2.1 dX7_tape_39 (by decide) ?_
          exact hv_iret C0 w hr hlk (by rw [sp_tape, if_pos hrj, if_neg (hs_0i c_19), if_pos ⟨⟨Int32.not_lt.mp c_19, hb7.2⟩, c_25⟩, if_pos (Int32.not_le.mp c_36)]; exact ⟨rfl, hM, hv_out.rf⟩) dX7_tape_41
      · skip
        refine lv_bipush (v := -2) C0.1 C0.2.1 dX7_tape_28 (by decide) ?_
        exact hv_iret C0 w hr hlk (by rw [sp_tape, if_pos hrj, if_neg (hs_0i c_19), if_neg (fun h9 => c_25 h9.2)]; exact ⟨rfl, hM, hv_out.rf⟩) dX7_tape_30
  · skip
    refine lv_if_eq (tgt := 28) C0.1 C0.2.1 dX7_tape_15 (by decide) (fun _ => ?_) (fun h9 => absurd h9 (by decide))
    refine lv_bipush (v := -2) C0.1 C0.2.1 dX7_tape_28 (by decide) ?_
    exact hv_iret C0 w hr hlk (by rw [sp_tape, if_pos hrj, if_neg (fun h9 => hb7 (by rw [h9]; exact ⟨by decide, by decide⟩)), if_neg (fun h9 => hb7 ⟨Int32.le_trans (by decide) h9.1.1, h9.1.2⟩)]; exact ⟨rfl, hM, hv_out.rf⟩) dX7_tape_30

set_option maxHeartbeats 4000000 in
set_option maxRecDepth 100000 in
theorem n_X7_tape {l : Launch} {X : hv_X} {V : hv_V} {mo : Nat} {σ : hs_S} (hM : okM X V mo σ) (hB : hs_b σ) {t so n : Int32} (hno : ¬ (sp_in t 0 5)) : hv_Mi l X 220 yX7_tape cX7_tape 5 .int V [.ref mo, .int t, .int so, .int n] (fun y V1 => y = (sp_tape σ t so n).1 ∧ okM X V1 mo (sp_tape σ t so n).2 ∧ hv_out V V1 mo (mo + 50)) := by
  refine hv_enter (by decide) (Nat.le_of_ble_eq_true rfl) ?_
  intro p e s m below meth c ls C0 hr hlk hnm w hl
  have hl : lv_has ls 5 [(0, .ref mo), (1, .int t), (2, .int so), (3, .int n)] := hl
  obtain ⟨ab, be, pl, cl, sg, ik, hO, hRw, hTx, hSc, hSe, hEv, hBk, hIm, hTp⟩ := id hM
  obtain ⟨r1, r2, ⟨rf, r3, r4⟩, r5⟩ := id hRw
  obtain ⟨⟨wd, s1⟩, ⟨td, s2⟩, ⟨sn, s3⟩, ⟨ut, s4⟩, kn, s5⟩ := id hSc
  obtain ⟨sf, sg9, sh, e1, e2, e3, ea⟩ := id hSe
  obtain ⟨ef, eg, v1, v2, va⟩ := id hEv
  obtain ⟨bf, bg, b1, b2, ba⟩ := id hBk
  obtain ⟨t1, t2, ⟨tf, t3, t4⟩, t5⟩ := id hTp
  have hbR := hB.1.1
  refine lv_iload_n C0.1 C0.2.1 dX7_tape_0 rfl (lv_at hl 1 rfl) ?_
  refine hv_cSi (As := [.int t]) C0 w kl_X7_303 ks_X7_isTape (c_X7_isTape) (by decide) (by decide) rfl hl.1 rfl (Nat.le_of_ble_eq_true rfl) dX7_tape_1 ⟨Nat.le_refl _, Nat.le_refl _⟩ (fun x1 V2 Hq lq hp3 w => ?_)
  obtain ⟨e9, hz9⟩ := hp3
  rw [e9] at w; clear e9
  rcases hz9 with ⟨rfl, hb4⟩ | ⟨rfl, hb4⟩
  · skip
    have ihb4 := hb4
    obtain ⟨j1, hj1, rfl⟩ := sp_inN (k := 5) (by decide) hb4
    have kj1 : (nI j1).toNatClampNeg = j1 := nI_clamp (by omega)
    have hI_j1 : V (mo + 44 + j1) = some (jE X (σ.2.2.2.2.2 j1)) := t5 j1 hj1
    have hz_j1 : σ.2.2.2.2.1 j1 ≤ 60 := (hB.2.2.2.2 j1 hj1).2.1
    refine lv_if_ne (tgt := 9) C0.1 C0.2.1 dX7_tape_4 (by decide) (fun _ => ?_) (fun h9 => absurd h9 (by decide))
    exact absurd ihb4 hno
  · skip
    refine lv_if_ne (tgt := 9) C0.1 C0.2.1 dX7_tape_4 (by decide) (fun h9 => absurd h9 (by decide)) (fun _ => ?_)
    refine lv_iconst (v := -1) C0.1 C0.2.1 dX7_tape_7 (by decide) ?_
    exact hv_iret C0 w hr hlk (by rw [sp_tape, if_neg hno]; exact ⟨rfl, hM, hv_out.rf⟩) dX7_tape_8

theorem m_X7_tape {l : Launch} {X : hv_X} {V : hv_V} {mo : Nat} {σ : hs_S} (hM : okM X V mo σ) (hB : hs_b σ) {t so n : Int32} : hv_Mi l X 220 yX7_tape cX7_tape 5 .int V [.ref mo, .int t, .int so, .int n] (fun y V1 => y = (sp_tape σ t so n).1 ∧ okM X V1 mo (sp_tape σ t so n).2 ∧ hv_out V V1 mo (mo + 50)) := by
  by_cases h : sp_in t 0 5
  · obtain ⟨j1, hj1, rfl⟩ := sp_inN (k := 5) (by decide) h
    exact c_X7_tape hM hB hj1 h
  · exact n_X7_tape hM hB h
theorem hs_wi {i n : Int32} {k : Nat} (hk : k ≤ 60) (hn : 0 ≤ n) : (0 ≤ i ∧ i ≤ nI k - n) ↔ sp_hold i n k := by
  have e0 : (0 : Int32).toInt = 0 := by decide
  have h1 := Int32.le_iff_toInt_le.mp hn
  rw [e0] at h1
  have a2 := Int32.toInt_lt n
  have hs : (nI k - n).toInt = (k : Int) - n.toInt := by
    rw [Int32.toInt_sub, nI_toInt (by omega)]
    apply Int.bmod_eq_of_le <;> omega
  show _ ↔ (0 ≤ i ∧ 0 ≤ n ∧ _)
  rw [Int32.le_iff_toInt_le (x := i), hs]
  constructor
  · intro h; exact ⟨h.1, hn, by omega⟩
  · intro h; exact ⟨h.1, by have := h.2.2; omega⟩
set_option maxHeartbeats 4000000 in
set_option maxRecDepth 100000 in
theorem c_X7_isWithin {l : Launch} {X : hv_X} {V : hv_V} {mo : Nat} {σ : hs_S} (hM : okM X V mo σ) (hB : hs_b σ) {j1 : Nat} {i n : Int32} (hj1 : j1 < 6) (hn : 0 ≤ n) : hv_Mi l X 0 yX7_isWithin cX7_isWithin 4 .boolean V [.ref mo, .int (nI j1), .int i, .int n] (fun y V1 => V1 = V ∧ hv_B (sp_hold i n (σ.2.2.2.2.1 j1)) y) := by
  refine hv_enter (by decide) (Nat.le_of_ble_eq_true rfl) ?_
  intro p e s m below meth c ls C0 hr hlk hnm w hl
  have hl : lv_has ls 4 [(0, .ref mo), (1, .int (nI j1)), (2, .int i), (3, .int n)] := hl
  obtain ⟨ab, be, pl, cl, sg, ik, hO, hRw, hTx, hSc, hSe, hEv, hBk, hIm, hTp⟩ := id hM
  obtain ⟨r1, r2, ⟨rf, r3, r4⟩, r5⟩ := id hRw
  obtain ⟨⟨wd, s1⟩, ⟨td, s2⟩, ⟨sn, s3⟩, ⟨ut, s4⟩, kn, s5⟩ := id hSc
  obtain ⟨sf, sg9, sh, e1, e2, e3, ea⟩ := id hSe
  obtain ⟨ef, eg, v1, v2, va⟩ := id hEv
  obtain ⟨bf, bg, b1, b2, ba⟩ := id hBk
  obtain ⟨t1, t2, ⟨tf, t3, t4⟩, t5⟩ := id hTp
  have hbR := hB.1.1
  have hz := (hB.2.2.2.2 j1 hj1).2.1
  refine lv_iload_n C0.1 C0.2.1 dX7_isWithin_0 rfl (lv_at hl 2 rfl) ?_
  refine lv_if_lt (tgt := 20) C0.1 C0.2.1 dX7_isWithin_1 (by decide) (fun c_1 => ?_) (fun c_1 => ?_)
  · skip
    refine lv_iconst (v := 0) C0.1 C0.2.1 dX7_isWithin_20 (by decide) ?_
    exact hv_zret C0 w hr hlk (by decide) (⟨rfl, Or.inr ⟨rfl, fun h9 => by have h8 := (hs_wi (by omega) hn).mpr h9; exact absurd c_1 (Int32.not_lt.mpr h8.1)⟩⟩) dX7_isWithin_21
  · skip
    refine lv_iload_n C0.1 C0.2.1 dX7_isWithin_4 rfl (lv_at hl 2 rfl) ?_
    refine lv_aload_n C0.1 C0.2.1 dX7_isWithin_5 rfl (lv_at hl 0 rfl) ?_
    refine gf_X7_81 C0 w hO rfl dX7_isWithin_6 ?_
    refine lv_iload_n C0.1 C0.2.1 dX7_isWithin_9 rfl (lv_at hl 1 rfl) ?_
    refine hv_iald C0 w t2 (hn_in hj1 (by decide)) dX7_isWithin_10 ?_
    have hc1 : (nI j1).toNatClampNeg = j1 := nI_clamp (by omega)
    rw [hc1]
    refine lv_iload_n C0.1 C0.2.1 dX7_isWithin_11 rfl (lv_at hl 3 rfl) ?_
    refine lv_isub C0.1 C0.2.1 dX7_isWithin_12 ?_
    refine lv_icmp_gt (tgt := 20) C0.1 C0.2.1 dX7_isWithin_13 (by decide) (fun c_13 => ?_) (fun c_13 => ?_)
    · skip
      refine lv_iconst (v := 0) C0.1 C0.2.1 dX7_isWithin_20 (by decide) ?_
      exact hv_zret C0 w hr hlk (by decide) (⟨rfl, Or.inr ⟨rfl, fun h9 => by have h8 := (hs_wi (by omega) hn).mpr h9; exact absurd c_13 (Int32.not_lt.mpr h8.2)⟩⟩) dX7_isWithin_21
    · skip
      refine lv_iconst (v := 1) C0.1 C0.2.1 dX7_isWithin_16 (by decide) ?_
      refine lv_goto (tgt := 21) C0.1 C0.2.1 dX7_isWithin_17 (by decide) ?_
      exact hv_zret C0 w hr hlk (by decide) (⟨rfl, Or.inl ⟨rfl, (hs_wi (by omega) hn).mp ⟨Int32.not_lt.mp c_1, Int32.not_lt.mp c_13⟩⟩⟩) dX7_isWithin_21

set_option maxHeartbeats 4000000 in
set_option maxRecDepth 100000 in
theorem m_X7_shift {l : Launch} {X : hv_X} {V : hv_V} {mo : Nat} {σ : hs_S} (hM : okM X V mo σ) (hB : hs_b σ) {t i o j n : Int32} : hv_Mi l X 220 yX7_shift cX7_shift 6 .int V [.ref mo, .int t, .int i, .int o, .int j, .int n] (fun y V1 => y = (sp_shift σ t i o j n).1 ∧ okM X V1 mo (sp_shift σ t i o j n).2 ∧ hv_out V V1 mo (mo + 50)) := by
  refine hv_enter (by decide) (Nat.le_of_ble_eq_true rfl) ?_
  intro p e s m below meth c ls C0 hr hlk hnm w hl
  have hl : lv_has ls 6 [(0, .ref mo), (1, .int t), (2, .int i), (3, .int o), (4, .int j), (5, .int n)] := hl
  obtain ⟨ab, be, pl, cl, sg, ik, hO, hRw, hTx, hSc, hSe, hEv, hBk, hIm, hTp⟩ := id hM
  obtain ⟨r1, r2, ⟨rf, r3, r4⟩, r5⟩ := id hRw
  obtain ⟨⟨wd, s1⟩, ⟨td, s2⟩, ⟨sn, s3⟩, ⟨ut, s4⟩, kn, s5⟩ := id hSc
  obtain ⟨sf, sg9, sh, e1, e2, e3, ea⟩ := id hSe
  obtain ⟨ef, eg, v1, v2, va⟩ := id hEv
  obtain ⟨bf, bg, b1, b2, ba⟩ := id hBk
  obtain ⟨t1, t2, ⟨tf, t3, t4⟩, t5⟩ := id hTp
  have hbR := hB.1.1
  refine lv_iload_n C0.1 C0.2.1 dX7_shift_0 rfl (lv_at hl 1 rfl) ?_
  refine hv_cSi (As := [.int t]) C0 w kl_X7_303 ks_X7_isTape (c_X7_isTape) (by decide) (by decide) rfl hl.1 rfl (Nat.le_of_ble_eq_true rfl) dX7_shift_1 ⟨Nat.le_refl _, Nat.le_refl _⟩ (fun x1 V2 Hq lq hp3 w => ?_)
  obtain ⟨e9, hz9⟩ := hp3
  rw [e9] at w; clear e9
  rcases hz9 with ⟨rfl, hb4⟩ | ⟨rfl, hb4⟩
  · skip
    have ihb4 := hb4
    obtain ⟨j1, hj1, rfl⟩ := sp_inN (k := 5) (by decide) hb4
    have kj1 : (nI j1).toNatClampNeg = j1 := nI_clamp (by omega)
    have hI_j1 : V (mo + 44 + j1) = some (jE X (σ.2.2.2.2.2 j1)) := t5 j1 hj1
    have hz_j1 : σ.2.2.2.2.1 j1 ≤ 60 := (hB.2.2.2.2 j1 hj1).2.1
    refine lv_if_eq (tgt := 14) C0.1 C0.2.1 dX7_shift_4 (by decide) (fun h9 => absurd h9 (by decide)) (fun _ => ?_)
    refine lv_iload_n C0.1 C0.2.1 dX7_shift_7 rfl (lv_at hl 3 rfl) ?_
    refine hv_cSi (As := [.int o]) C0 w kl_X7_303 ks_X7_isTape (c_X7_isTape) (by decide) (by decide) rfl hl.1 rfl (Nat.le_of_ble_eq_true rfl) dX7_shift_8 ⟨Nat.le_refl _, Nat.le_refl _⟩ (fun x5 V6 Hq lq hp7 w => ?_)
    obtain ⟨e9, hz9⟩ := hp7
    rw [e9] at w; clear e9
    rcases hz9 with ⟨rfl, hb8⟩ | ⟨rfl, hb8⟩
    · skip
      have ihb8 := hb8
      obtain ⟨j2, hj2, rfl⟩ := sp_inN (k := 5) (by decide) hb8
      have kj2 : (nI j2).toNatClampNeg = j2 := nI_clamp (by omega)
      have hI_j2 : V (mo + 44 + j2) = some (jE X (σ.2.2.2.2.2 j2)) := t5 j2 hj2
      have hz_j2 : σ.2.2.2.2.1 j2 ≤ 60 := (hB.2.2.2.2 j2 hj2).2.1
      refine lv_if_ne (tgt := 16) C0.1 C0.2.1 dX7_shift_11 (by decide) (fun _ => ?_) (fun h9 => absurd h9 (by decide))
      refine lv_aload_n C0.1 C0.2.1 dX7_shift_16 rfl (lv_at hl 0 rfl) ?_
      refine gf_X7_78 C0 w hO rfl dX7_shift_17 ?_
      refine lv_iload_n C0.1 C0.2.1 dX7_shift_20 rfl (lv_at hl 1 rfl) ?_
      refine hv_iald C0 w t1 (hn_in hj1 (by decide)) dX7_shift_21 ?_
      have hc9 : (nI j1).toNatClampNeg = j1 := nI_clamp (by omega)
      rw [hc9]
      refine lv_if_lt (tgt := 34) C0.1 C0.2.1 dX7_shift_22 (by decide) (fun c_22 => ?_) (fun c_22 => ?_)
      · skip
        refine lv_bipush (v := -11) C0.1 C0.2.1 dX7_shift_34 (by decide) ?_
        exact hv_iret C0 w hr hlk (by rw [sp_shift, if_pos ⟨ihb4, ihb8⟩, kj1, kj2, if_pos (Or.inl (Classical.byContradiction (fun h8 => absurd ((hs_so hB hj1).mpr h8) (Int32.not_le.mpr c_22))))]; exact ⟨rfl, hM, hv_out.rf⟩) dX7_shift_36
      · skip
        refine lv_aload_n C0.1 C0.2.1 dX7_shift_25 rfl (lv_at hl 0 rfl) ?_
        refine gf_X7_78 C0 w hO rfl dX7_shift_26 ?_
        refine lv_iload_n C0.1 C0.2.1 dX7_shift_29 rfl (lv_at hl 3 rfl) ?_
        refine hv_iald C0 w t1 (hn_in hj2 (by decide)) dX7_shift_30 ?_
        have hc10 : (nI j2).toNatClampNeg = j2 := nI_clamp (by omega)
        rw [hc10]
        refine lv_if_ge (tgt := 37) C0.1 C0.2.1 dX7_shift_31 (by decide) (fun c_31 => ?_) (fun c_31 => ?_)
        · skip
          refine lv_aload_n C0.1 C0.2.1 dX7_shift_37 rfl (lv_at hl 0 rfl) ?_
          refine gf_X7_78 C0 w hO rfl dX7_shift_38 ?_
          refine lv_iload_n C0.1 C0.2.1 dX7_shift_41 rfl (lv_at hl 1 rfl) ?_
          refine hv_iald C0 w t1 (hn_in hj1 (by decide)) dX7_shift_42 ?_
          have hc11 : (nI j1).toNatClampNeg = j1 := nI_clamp (by omega)
          rw [hc11]
          refine lv_aload_n C0.1 C0.2.1 dX7_shift_43 rfl (lv_at hl 0 rfl) ?_
          refine gf_X7_78 C0 w hO rfl dX7_shift_44 ?_
          refine lv_iload_n C0.1 C0.2.1 dX7_shift_47 rfl (lv_at hl 3 rfl) ?_
          refine hv_iald C0 w t1 (hn_in hj2 (by decide)) dX7_shift_48 ?_
          have hc12 : (nI j2).toNatClampNeg = j2 := nI_clamp (by omega)
          rw [hc12]
          refine lv_icmp_eq (tgt := 55) C0.1 C0.2.1 dX7_shift_49 (by decide) (fun c_49 => ?_) (fun c_49 => ?_)
          · skip
            refine lv_iload C0.1 C0.2.1 dX7_shift_55 (lv_at hl 5 rfl) ?_
            refine lv_if_lt (tgt := 83) C0.1 C0.2.1 dX7_shift_57 (by decide) (fun c_57 => ?_) (fun c_57 => ?_)
            · skip
              refine lv_bipush (v := -13) C0.1 C0.2.1 dX7_shift_83 (by decide) ?_
              exact hv_iret C0 w hr hlk (by rw [sp_shift, if_pos ⟨ihb4, ihb8⟩, kj1, kj2, if_neg (fun h9 => h9.elim ((hs_so hB hj1).mp (Int32.not_lt.mp c_22)) ((hs_so hB hj2).mp c_31)), if_pos c_49, if_neg (fun h9 => absurd c_57 (Int32.not_lt.mpr h9.1.2.1))]; exact ⟨rfl, hM, hv_out.rf⟩) dX7_shift_85
            · skip
              refine lv_aload_n C0.1 C0.2.1 dX7_shift_60 rfl (lv_at hl 0 rfl) ?_
              refine lv_iload_n C0.1 C0.2.1 dX7_shift_61 rfl (lv_at hl 1 rfl) ?_
              refine lv_iload_n C0.1 C0.2.1 dX7_shift_62 rfl (lv_at hl 2 rfl) ?_
              refine lv_iload C0.1 C0.2.1 dX7_shift_63 (lv_at hl 5 rfl) ?_
              refine hv_cVi C0 w kl_X7_321 kv_X7_isWithin rfl hO (c_X7_isWithin hM hB hj1 (Int32.not_lt.mp c_57)) (by decide) (by decide) rfl hl.1 rfl (Nat.le_of_ble_eq_true rfl) dX7_shift_65 ⟨Nat.le_refl _, Nat.le_refl _⟩ (fun x13 V14 Hq lq hp15 w => ?_)
              obtain ⟨e9, hz9⟩ := hp15
              rw [e9] at w; clear e9
              rcases hz9 with ⟨rfl, ho16⟩ | ⟨rfl, ho16⟩
              · skip
                refine lv_if_eq (tgt := 83) C0.1 C0.2.1 dX7_shift_68 (by decide) (fun h9 => absurd h9 (by decide)) (fun _ => ?_)
                refine lv_aload_n C0.1 C0.2.1 dX7_shift_71 rfl (lv_at hl 0 rfl) ?_
                refine lv_iload_n C0.1 C0.2.1 dX7_shift_72 rfl (lv_at hl 3 rfl) ?_
                refine lv_iload C0.1 C0.2.1 dX7_shift_73 (lv_at hl 4 rfl) ?_
                refine lv_iload C0.1 C0.2.1 dX7_shift_75 (lv_at hl 5 rfl) ?_
                refine hv_cVi C0 w kl_X7_321 kv_X7_isWithin rfl hO (c_X7_isWithin hM hB hj2 (Int32.not_lt.mp c_57)) (by decide) (by decide) rfl hl.1 rfl (Nat.le_of_ble_eq_true rfl) dX7_shift_77 ⟨Nat.le_refl _, Nat.le_refl _⟩ (fun x17 V18 Hq lq hp19 w => ?_)
                obtain ⟨e9, hz9⟩ := hp19
                rw [e9] at w; clear e9
                rcases hz9 with ⟨rfl, ho20⟩ | ⟨rfl, ho20⟩
                · skip
                  refine lv_if_ne (tgt := 86) C0.1 C0.2.1 dX7_shift_80 (by decide) (fun _ => ?_) (fun h9 => absurd h9 (by decide))
                  refine lv_aload_n C0.1 C0.2.1 dX7_shift_86 rfl (lv_at hl 0 rfl) ?_
                  refine gf_X7_86 C0 w hO rfl dX7_shift_87 ?_
                  refine lv_iload_n C0.1 C0.2.1 dX7_shift_90 rfl (lv_at hl 1 rfl) ?_
                  refine hv_aalA 7 rfl C0 w rfl t3 (hn_in hj1 (by decide)) (by rw [kj1]; exact t4 j1 hj1) dX7_shift_91 ?_
                  refine lv_iload_n C0.1 C0.2.1 dX7_shift_92 rfl (lv_at hl 2 rfl) ?_
                  refine lv_aload_n C0.1 C0.2.1 dX7_shift_93 rfl (lv_at hl 0 rfl) ?_
                  refine gf_X7_86 C0 w hO rfl dX7_shift_94 ?_
                  refine lv_iload_n C0.1 C0.2.1 dX7_shift_97 rfl (lv_at hl 3 rfl) ?_
                  refine hv_aalA 7 rfl C0 w rfl t3 (hn_in hj2 (by decide)) (by rw [kj2]; exact t4 j2 hj2) dX7_shift_98 ?_
                  refine lv_iload C0.1 C0.2.1 dX7_shift_99 (lv_at hl 4 rfl) ?_
                  refine lv_iload C0.1 C0.2.1 dX7_shift_101 (lv_at hl 5 rfl) ?_
                  obtain ⟨a1, a2, a3⟩ := id ho16
                  obtain ⟨b1x, b2x, b3⟩ := id ho20
                  have qi : ¬ i < 0 := Int32.not_lt.mpr a1
                  have qn : ¬ n < 0 := Int32.not_lt.mpr a2
                  have qj : ¬ j < 0 := Int32.not_lt.mpr b1x
                  rw [hs_nn qi, hs_nn qn] at a3
                  rw [hs_nn qj, hs_nn qn] at b3
                  refine hv_copyl C0 w hl.1 kj_X7_148 hI_j1 hI_j2 qi qj qn (by omega) (by omega) (by decide) (Nat.le_of_ble_eq_true rfl) dX7_shift_103 (fun Hq lq w => ?_)
                  obtain ⟨V9, eV9⟩ : ∃ W9, W9 = hv_up V (mo + 44 + j2) (jE X (va_cpy (σ.2.2.2.2.2 j1) (σ.2.2.2.2.2 j2) i.toNatClampNeg j.toNatClampNeg n.toNatClampNeg)) := ⟨_, rfl⟩
                  have w : hv_w X s V9 Hq lq := by rw [eV9]; exact w
                  refine lv_iload C0.1 C0.2.1 dX7_shift_106 (lv_at hl 5 rfl) ?_
                  exact hv_iret C0 w hr hlk (by rw [sp_shift, if_pos ⟨ihb4, ihb8⟩, kj1, kj2, if_neg (fun h9 => h9.elim ((hs_so hB hj1).mp (Int32.not_lt.mp c_22)) ((hs_so hB hj2).mp c_31)), if_pos c_49, if_pos ⟨ho16, ho20⟩]; exact ⟨rfl, ⟨ab, be, pl, cl, sg, ik, ((by rw [eV9, hv_un (by omega)] : _ = V mo).trans hO), hRw.fr (fun q h7 h8 => by rw [eV9, hv_un (by omega)]), (by rw [eV9, hv_un (by omega)] : _ = V (mo + 10)).trans hTx, hSc.fr (fun q h7 h8 => by rw [eV9, hv_un (by omega)]) (fun q h7 h8 => by rw [eV9, hv_un (by omega)]), hSe.fr (fun q h7 h8 => by rw [eV9, hv_un (by omega)]), hEv.fr (by rw [eV9, hv_un (by omega)]) (by rw [eV9, hv_un (by omega)]), hBk.fr (by rw [eV9, hv_un (by omega)]) (by rw [eV9, hv_un (by omega)]), hIm.fr (fun q h7 h8 => by rw [eV9, hv_un (by omega)]), hTp.set hj2 (by rw [hs_uid, eV9, hv_un (by omega)]; exact t1) (by rw [hs_uid (fun i => nI (σ.2.2.2.2.1 i)), eV9, hv_un (by omega)]; exact t2) (by rw [eV9]; exact hv_us) (by rw [eV9, hv_un (by omega)]) (fun i9 hi9 hne9 => by rw [eV9, hv_un (by omega)])⟩, (fun q h7 => by rw [eV9, hv_un (by omega)])⟩) dX7_shift_108
                · skip
                  refine lv_if_ne (tgt := 86) C0.1 C0.2.1 dX7_shift_80 (by decide) (fun h9 => absurd h9 (by decide)) (fun _ => ?_)
                  refine lv_bipush (v := -13) C0.1 C0.2.1 dX7_shift_83 (by decide) ?_
                  exact hv_iret C0 w hr hlk (by rw [sp_shift, if_pos ⟨ihb4, ihb8⟩, kj1, kj2, if_neg (fun h9 => h9.elim ((hs_so hB hj1).mp (Int32.not_lt.mp c_22)) ((hs_so hB hj2).mp c_31)), if_pos c_49, if_neg (fun h9 => ho20 h9.2)]; exact ⟨rfl, hM, hv_out.rf⟩) dX7_shift_85
              · skip
                refine lv_if_eq (tgt := 83) C0.1 C0.2.1 dX7_shift_68 (by decide) (fun _ => ?_) (fun h9 => absurd h9 (by decide))
                refine lv_bipush (v := -13) C0.1 C0.2.1 dX7_shift_83 (by decide) ?_
                exact hv_iret C0 w hr hlk (by rw [sp_shift, if_pos ⟨ihb4, ihb8⟩, kj1, kj2, if_neg (fun h9 => h9.elim ((hs_so hB hj1).mp (Int32.not_lt.mp c_22)) ((hs_so hB hj2).mp c_31)), if_pos c_49, if_neg (fun h9 => ho16 h9.1)]; exact ⟨rfl, hM, hv_out.rf⟩) dX7_shift_85
          · skip
            refine lv_bipush (v := -12) C0.1 C0.2.1 dX7_shift_52 (by decide) ?_
            exact hv_iret C0 w hr hlk (by rw [sp_shift, if_pos ⟨ihb4, ihb8⟩, kj1, kj2, if_neg (fun h9 => h9.elim ((hs_so hB hj1).mp (Int32.not_lt.mp c_22)) ((hs_so hB hj2).mp c_31)), if_neg c_49]; exact ⟨rfl, hM, hv_out.rf⟩) dX7_shift_54
        · skip
          refine lv_bipush (v := -11) C0.1 C0.2.1 dX7_shift_34 (by decide) ?_
          exact hv_iret C0 w hr hlk (by rw [sp_shift, if_pos ⟨ihb4, ihb8⟩, kj1, kj2, if_pos (Or.inr (Classical.byContradiction (fun h8 => c_31 ((hs_so hB hj2).mpr h8))))]; exact ⟨rfl, hM, hv_out.rf⟩) dX7_shift_36
    · skip
      refine lv_if_ne (tgt := 16) C0.1 C0.2.1 dX7_shift_11 (by decide) (fun h9 => absurd h9 (by decide)) (fun _ => ?_)
      refine lv_iconst (v := -1) C0.1 C0.2.1 dX7_shift_14 (by decide) ?_
      exact hv_iret C0 w hr hlk (by rw [sp_shift, if_neg (fun h9 => hb8 h9.2)]; exact ⟨rfl, hM, hv_out.rf⟩) dX7_shift_15
  · skip
    refine lv_if_eq (tgt := 14) C0.1 C0.2.1 dX7_shift_4 (by decide) (fun _ => ?_) (fun h9 => absurd h9 (by decide))
    refine lv_iconst (v := -1) C0.1 C0.2.1 dX7_shift_14 (by decide) ?_
    exact hv_iret C0 w hr hlk (by rw [sp_shift, if_neg (fun h9 => hb4 h9.1)]; exact ⟨rfl, hM, hv_out.rf⟩) dX7_shift_15

set_option maxHeartbeats 4000000 in
set_option maxRecDepth 100000 in
theorem c_X7_together {l : Launch} {X : hv_X} {V : hv_V} {mo : Nat} {ab be : Int64} {tx se ev bk : Nat} {pl cl sg ik : Int32} (hO : V mo = some (mE mo ab be tx pl cl sg se ev bk ik)) {P : hs_P} (r2 : V (mo + 2) = some (iE X 6 (fun j => nI (P.1.2.1 j)))) : hv_Mi l X 0 yX7_together cX7_together 3 .int V [.ref mo] (fun y V1 => V1 = V ∧ y = sp_tot P) := by
  refine hv_enter (by decide) (Nat.le_of_ble_eq_true rfl) ?_
  intro p e s m below meth c ls C0 hr hlk hnm w hl
  have hl : lv_has ls 3 [(0, .ref mo)] := hl
  have loop : ∀ (m9 k : Nat) (a9 : Int32) (Hq : Heap) (lq : List Loc) (ls : Array Slot), (k + m9 = 6) → (sp_sum P m9 k a9 = sp_tot P) → hv_w X s (V) Hq lq → lv_has ls 3 [(0, .ref mo), (1, .int a9), (2, .int (nI k))] → W p l e (hv_rm 0 0 0) s m ([.ref mo] : List Value).toArray below meth c Hq lq 0 0 (MQ below (hv_Qi X (fun y V1 => V1 = V ∧ y = sp_tot P)) ([.ref mo] : List Value).toArray s 0 0 X.2.2.1) (F0 m 4 ls []) := by
    intro m9
    induction m9 with
    | zero =>
      intro k a9 Hq lq ls hi he w hl
      have he : a9 = sp_tot P := he
      refine lv_iload_n C0.1 C0.2.1 dX7_together_4 rfl (lv_at hl 2 rfl) ?_
      refine lv_bipush (v := 6) C0.1 C0.2.1 dX7_together_5 (by decide) ?_
      refine lv_icmp_ge (tgt := 25) C0.1 C0.2.1 dX7_together_7 (by decide) (fun c_7 => ?_) (fun c_7 => absurd (show nI 6 ≤ nI k from nI_le (by omega) (by omega)) c_7)
      refine lv_iload_n C0.1 C0.2.1 dX7_together_25 rfl (lv_at hl 1 rfl) ?_
      exact hv_iret C0 w hr hlk (⟨rfl, he⟩) dX7_together_26
    | succ m9 ih =>
      intro k a9 Hq lq ls hi he w hl
      refine lv_iload_n C0.1 C0.2.1 dX7_together_4 rfl (lv_at hl 2 rfl) ?_
      refine lv_bipush (v := 6) C0.1 C0.2.1 dX7_together_5 (by decide) ?_
      refine lv_icmp_ge (tgt := 25) C0.1 C0.2.1 dX7_together_7 (by decide) (fun c_7 => absurd c_7 (show ¬ nI 6 ≤ nI k from nI_ge (by omega) (by omega))) (fun c_7 => ?_)
      refine lv_iload_n C0.1 C0.2.1 dX7_together_10 rfl (lv_at hl 1 rfl) ?_
      refine lv_aload_n C0.1 C0.2.1 dX7_together_11 rfl (lv_at hl 0 rfl) ?_
      refine gf_X7_15 C0 w hO rfl dX7_together_12 ?_
      refine lv_iload_n C0.1 C0.2.1 dX7_together_15 rfl (lv_at hl 2 rfl) ?_
      refine hv_iald C0 w r2 (hn_in (by omega) (by decide)) dX7_together_16 ?_
      have hc1 : (nI k).toNatClampNeg = k := nI_clamp (by omega)
      rw [hc1]
      refine lv_iadd C0.1 C0.2.1 dX7_together_17 ?_
      refine lv_istore_n (lv' := [(1, .int (a9 + (nI (P.1.2.1 k)))), (0, .ref mo), (2, .int (nI k))]) C0.1 C0.2.1 dX7_together_18 rfl hl (by decide) rfl (fun ls hl => ?_)
      refine lv_iinc (v := (nI k) + 1) (lv' := [(2, .int ((nI k) + 1)), (1, .int (a9 + (nI (P.1.2.1 k)))), (0, .ref mo)]) C0.1 C0.2.1 dX7_together_19 hl (k := 2) rfl rfl (by decide) rfl (fun ls hl => ?_)
      refine lv_goto (tgt := 4) C0.1 C0.2.1 dX7_together_22 (by decide) ?_
      exact ih (k + 1) _ _ _ ls (by omega) (by rw [← he, sp_sum]) w (by have h9 := (lv_sub (l' := [(0, .ref mo), (1, .int (a9 + nI (P.1.2.1 k))), (2, .int (nI k + 1))]) hl [2, 1, 0] rfl); rw [nI_1] at h9; exact h9)
  refine lv_iconst (v := 0) C0.1 C0.2.1 dX7_together_0 (by decide) ?_
  refine lv_istore_n (lv' := [(1, .int 0), (0, .ref mo)]) C0.1 C0.2.1 dX7_together_1 rfl hl (by decide) rfl (fun ls hl => ?_)
  refine lv_iconst (v := 0) C0.1 C0.2.1 dX7_together_2 (by decide) ?_
  refine lv_istore_n (lv' := [(2, .int 0), (1, .int 0), (0, .ref mo)]) C0.1 C0.2.1 dX7_together_3 rfl hl (by decide) rfl (fun ls hl => ?_)
  exact loop 6 0 0 _ _ ls rfl rfl w (lv_sub hl [2, 1, 0] rfl)

