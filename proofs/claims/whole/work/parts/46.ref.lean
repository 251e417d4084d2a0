theorem sp_mn_no {σ : hs_S} : ∀ (m j : Nat) (F : fx_F) (c : Int32), F.2.2 = 0 → (sp_mn σ m j F c).1.2.2 = 0
  | 0, _, _, _, h => h
  | m + 1, j, F, c, h => by
    show (if _ then _ else _ : fx_F × Int32).1.2.2 = 0
    split
    · exact sp_mn_no m (j + 1) F c h
    · exact sp_mn_no m (j + 1) _ (c + 1) (fx_no0 h)
theorem fx_add_c {F G : fx_F} (hF : ¬ F.2.2 = 0) (hG : ¬ G.2.2 = 0) : fx_addOn G F.1 F.2.1 = fx_addOn F G.1 G.2.1 := by
  unfold fx_addOn
  rw [if_neg hF, if_neg hG, Int64.add_comm, Int64.mul_comm G.2.1]
theorem fx_part_no {F : fx_F} {k : Int32} (h : F.2.2 = 0) : fx_part F k = -9223372036854775808 := by unfold fx_part; rw [if_pos h]
theorem fx_divBy_no {F : fx_F} {d : Int64} (h : F.2.2 = 0) : (fx_divBy F d).2.2 = 0 := by unfold fx_divBy; rw [if_pos h]; exact h
theorem fx_divBy_0 (F : fx_F) : (fx_divBy F 0).2.2 = 0 := by
  by_cases h : F.2.2 = 0
  · exact fx_divBy_no h
  · unfold fx_divBy fx_become
    rw [if_neg h, Int64.mul_zero (a := F.2.1), show ∀ x : Int64, fx_div x 0 = 0 from fun x => if_neg (by decide), if_pos (by decide)]
    rfl
theorem fx_ok.in {F : fx_F} (h : fx_ok F) : i64_in F.1 ∧ i64_ip F.2.1 := ⟨h.1, by have := h.2.1; omega, h.2.2⟩
set_option maxHeartbeats 4000000 in
set_option maxRecDepth 100000 in
theorem m_X7_mean {l : Launch} {X : hv_X} {V : hv_V} {mo : Nat} {σ : hs_S} (hM : okM X V mo σ) (hB : hs_b σ) {k : Int32} : hv_Ml l X 220 yX7_mean cX7_mean 8 V [.ref mo, .int k] (fun y V1 => y = sp_mean σ k ∧ okM X V1 mo σ ∧ hv_out V V1 mo (mo + 50)) := by
  refine hv_enter (by decide) (Nat.le_of_ble_eq_true rfl) ?_
  intro p e s m below meth c ls C0 hr hlk hnm w hl
  have hl : lv_has ls 8 [(0, .ref mo), (1, .int k)] := hl
  obtain ⟨ab, be, pl, cl, sg, ik, hO, hRw, hTx, hSc, hSe, hEv, hBk, hIm, hTp⟩ := id hM
  obtain ⟨r1, r2, ⟨rf, r3, r4⟩, r5⟩ := id hRw
  obtain ⟨⟨wd, s1⟩, ⟨td, s2⟩, ⟨sn, s3⟩, ⟨ut, s4⟩, kn, s5⟩ := id hSc
  obtain ⟨sf, sg9, sh, e1, e2, e3, ea⟩ := id hSe
  obtain ⟨ef, eg, v1, v2, va⟩ := id hEv
  obtain ⟨bf, bg, b1, b2, ba⟩ := id hBk
  obtain ⟨t1, t2, ⟨tf, t3, t4⟩, t5⟩ := id hTp
  have hbR := hB.1.1
  have loop : ∀ (hsp : sp_mean σ k = fx_part (fx_divBy (sp_mn σ 6 0 (fx_become 0 1) 0).1 (sp_mn σ 6 0 (fx_become 0 1) 0).2.toInt64) k) (m9 i c9 : Nat) (F : fx_F) (ab2 be2 : Int64) (Hq : Heap) (lq : List Loc) (ls : Array Slot), (i + m9 = 6) → (c9 ≤ i) → (F.2.2 = 1 ∧ fx_ok F) → (sp_mn σ m9 i F (nI c9) = sp_mn σ 6 0 (fx_become 0 1) 0) → hv_w X s (hv_up V mo (mE mo ab2 be2 σ.2.2.1.1 pl cl sg σ.1.2.1.1 σ.1.2.2.1.1 σ.1.2.2.2.1 ik)) Hq lq → lv_has ls 8 [(0, .ref mo), (1, .int k), (2, .long F.1), (4, .long F.2.1), (6, .int (nI c9)), (7, .int (nI i))] → W p l e (hv_rm 220 0 0) s m ([.ref mo, .int k] : List Value).toArray below meth c Hq lq 0 0 (MQ below (hv_Ql X (fun y V1 => y = sp_mean σ k ∧ okM X V1 mo σ ∧ hv_out V V1 mo (mo + 50))) ([.ref mo, .int k] : List Value).toArray s 0 0 X.2.2.1) (F0 m 22 ls []) := by
    intro hsp m9
    induction m9 with
    | zero =>
      intro i c9 F ab2 be2 Hq lq ls hi hc hF he w hl
      obtain ⟨V8, e8⟩ : ∃ W9, W9 = hv_up V mo (mE mo ab2 be2 σ.2.2.1.1 pl cl sg σ.1.2.1.1 σ.1.2.2.1.1 σ.1.2.2.2.1 ik) := ⟨_, rfl⟩
      rw [← e8] at w
      have hOv : V8 mo = some (.inr (7, [.ref (mo + 1), .ref (mo + 2), .ref (mo + 3), .long ab2, .long be2, .ref (mo + 10), .int (nI σ.2.2.1.1), .int pl, .int cl, .ref (mo + 11), .ref (mo + 12), .ref (mo + 13), .int sg, .ref (mo + 14), .ref (mo + 15), .ref (mo + 16), .ref (mo + 17), .int (nI σ.1.2.1.1), .ref (mo + 18), .ref (mo + 19), .int (nI σ.1.2.2.1.1), .ref (mo + 20), .ref (mo + 21), .ref (mo + 22), .int (nI σ.1.2.2.2.1), .int ik, .ref (mo + 23), .ref (mo + 24), .ref (mo + 25), .ref (mo + 26), .ref (mo + 33), .ref (mo + 41), .ref (mo + 42), .ref (mo + 43)])) := by rw [e8]; exact hv_us
      have r1v : V8 (mo + 1) = some (.inl (X.2.1 0, 6, .inl σ.1.1.1)) := by rw [e8, hv_un (by omega)]; exact r1
      have r2v : V8 (mo + 2) = some (.inl (X.2.1 0, 6, .inl (fun j => nI (σ.1.1.2.1 j)))) := by rw [e8, hv_un (by omega)]; exact r2
      have r3v : V8 (mo + 3) = some (.inl (X.2.1 6, 6, .inr (.inr (.inr (.inr rf))))) := by rw [e8, hv_un (by omega)]; exact r3
      have nF9 : ¬ F.2.2 = 0 := by rw [hF.1]; decide
      refine lv_iload C0.1 C0.2.1 dX7_mean_22 (lv_at hl 5 rfl) ?_
      refine lv_bipush (v := 6) C0.1 C0.2.1 dX7_mean_24 (by decide) ?_
      refine lv_icmp_ge (tgt := 79) C0.1 C0.2.1 dX7_mean_26 (by decide) (fun c_26 => ?_) (fun c_26 => absurd (show nI 6 ≤ nI i from nI_le (by omega) (by omega)) c_26)
      refine lv_iload C0.1 C0.2.1 dX7_mean_79 (lv_at hl 4 rfl) ?_
      refine lv_if_ne (tgt := 88) C0.1 C0.2.1 dX7_mean_81 (by decide) (fun c_81 => ?_) (fun c_81 => ?_)
      · skip
        refine lv_aload_n C0.1 C0.2.1 dX7_mean_88 rfl (lv_at hl 0 rfl) ?_
        refine lv_lload_n C0.1 C0.2.1 dX7_mean_89 rfl (lv_at hl 2 rfl) ?_
        refine lv_lload C0.1 C0.2.1 dX7_mean_90 (lv_at hl 3 rfl) ?_
        refine lv_iload C0.1 C0.2.1 dX7_mean_92 (lv_at hl 4 rfl) ?_
        refine lv_i2l (v := (nI c9).toInt64) C0.1 C0.2.1 dX7_mean_94 rfl ?_
        refine lv_lmul C0.1 C0.2.1 dX7_mean_95 ?_
        refine hv_cVv C0 w kl_X7_116 kv_X7_lay rfl hOv (c_X7_lay hOv (a := F.1) (b := F.2.1 * ((nI c9).toInt64)) (by have h9 := hF.2.1.1; omega) (i64_mpos (fx_ok.in hF.2).2 (i64_nI (by omega))).2.1) (by decide) (by decide) rfl hl.1 rfl (Nat.le_of_ble_eq_true rfl) dX7_mean_96 ⟨Nat.le_refl _, Nat.le_refl _⟩ (fun V2 Hq lq hp3 w => ?_)
        have hV4 : V2 (mo + 1) = some (.inl (X.2.1 0, 6, .inl σ.1.1.1)) := by rw [hp3, hv_un (by omega)]; exact r1v
        have hV5 : V2 (mo + 2) = some (.inl (X.2.1 0, 6, .inl (fun j => nI (σ.1.1.2.1 j)))) := by rw [hp3, hv_un (by omega)]; exact r2v
        have hV6 : V2 (mo + 3) = some (.inl (X.2.1 6, 6, .inr (.inr (.inr (.inr rf))))) := by rw [hp3, hv_un (by omega)]; exact r3v
        have hV8 : V2 mo = some (.inr (7, [.ref (mo + 1), .ref (mo + 2), .ref (mo + 3), .long (fl_a F.1 (F.2.1 * ((nI c9).toInt64))), .long (fl_b F.1 (F.2.1 * ((nI c9).toInt64))), .ref (mo + 10), .int (nI σ.2.2.1.1), .int pl, .int cl, .ref (mo + 11), .ref (mo + 12), .ref (mo + 13), .int sg, .ref (mo + 14), .ref (mo + 15), .ref (mo + 16), .ref (mo + 17), .int (nI σ.1.2.1.1), .ref (mo + 18), .ref (mo + 19), .int (nI σ.1.2.2.1.1), .ref (mo + 20), .ref (mo + 21), .ref (mo + 22), .int (nI σ.1.2.2.2.1), .int ik, .ref (mo + 23), .ref (mo + 24), .ref (mo + 25), .ref (mo + 26), .ref (mo + 33), .ref (mo + 41), .ref (mo + 42), .ref (mo + 43)])) := by rw [hp3]; exact hv_us
        refine lv_aload_n C0.1 C0.2.1 dX7_mean_99 rfl (lv_at hl 0 rfl) ?_
        refine lv_iload_n C0.1 C0.2.1 dX7_mean_100 rfl (lv_at hl 1 rfl) ?_
        refine hv_cVl C0 w kl_X7_248 kv_X7_partOf rfl hV8 (c_X7_partOf hV8) (by decide) (by decide) rfl hl.1 rfl (Nat.le_of_ble_eq_true rfl) dX7_mean_101 ⟨Nat.le_refl _, Nat.le_refl _⟩ (fun x9 V10 Hq lq hp11 w => ?_)
        obtain ⟨e9, e8⟩ := hp11
        rw [e9] at w; rw [e8]; clear e9 e8
        exact hv_lret C0 w hr hlk (⟨by rw [hsp, ← he, (fx_become_ok (a := F.1) (b := F.2.1 * ((nI c9).toInt64)) (by have h9 := hF.2.1.1; omega) (i64_mpos (fx_ok.in hF.2).2 (i64_nI (by omega))).2.1).part k]; show _ = fx_part (fx_divBy F (nI c9).toInt64) k; unfold fx_divBy; rw [if_neg nF9], ⟨(fl_a F.1 (F.2.1 * ((nI c9).toInt64))), (fl_b F.1 (F.2.1 * ((nI c9).toInt64))), pl, cl, sg, ik, (by rw [hp3]; exact hv_us), hRw.fr (fun q h7 h8 => by rw [hp3, hv_un (by omega), e8, hv_un (by omega)]), (by rw [hp3, hv_un (by omega), e8, hv_un (by omega)] : _ = V (mo + 10)).trans hTx, hSc.fr (fun q h7 h8 => by rw [hp3, hv_un (by omega), e8, hv_un (by omega)]) (fun q h7 h8 => by rw [hp3, hv_un (by omega), e8, hv_un (by omega)]), hSe.fr (fun q h7 h8 => by rw [hp3, hv_un (by omega), e8, hv_un (by omega)]), hEv.fr (by rw [hp3, hv_un (by omega), e8, hv_un (by omega)]) (by rw [hp3, hv_un (by omega), e8, hv_un (by omega)]), hBk.fr (by rw [hp3, hv_un (by omega), e8, hv_un (by omega)]) (by rw [hp3, hv_un (by omega), e8, hv_un (by omega)]), hIm.fr (fun q h7 h8 => by rw [hp3, hv_un (by omega), e8, hv_un (by omega)]), hTp.fr (fun q h7 h8 => by rw [hp3, hv_un (by omega), e8, hv_un (by omega)])⟩, (fun q h7 => by rw [hp3, hv_un (by omega), e8, hv_un (by omega)])⟩) dX7_mean_104
      · skip
        refine lv_ldc2 C0.1 C0.2.1 C0.2.2.2.1 (C0.2.2.2.2.1 _ kk_X7_243) dX7_mean_84 ?_
        exact hv_lret C0 w hr hlk (⟨by rw [hsp, ← he]; show _ = fx_part (fx_divBy F (nI c9).toInt64) k; rw [c_81]; exact (fx_part_no (fx_divBy_0 F)).symm, ⟨ab2, be2, pl, cl, sg, ik, (by rw [e8]; exact hv_us), hRw.fr (fun q h7 h8 => by rw [e8, hv_un (by omega)]), (by rw [e8, hv_un (by omega)] : _ = V (mo + 10)).trans hTx, hSc.fr (fun q h7 h8 => by rw [e8, hv_un (by omega)]) (fun q h7 h8 => by rw [e8, hv_un (by omega)]), hSe.fr (fun q h7 h8 => by rw [e8, hv_un (by omega)]), hEv.fr (by rw [e8, hv_un (by omega)]) (by rw [e8, hv_un (by omega)]), hBk.fr (by rw [e8, hv_un (by omega)]) (by rw [e8, hv_un (by omega)]), hIm.fr (fun q h7 h8 => by rw [e8, hv_un (by omega)]), hTp.fr (fun q h7 h8 => by rw [e8, hv_un (by omega)])⟩, (fun q h7 => by rw [e8, hv_un (by omega)])⟩) dX7_mean_87
    | succ m9 ih =>
      intro i c9 F ab2 be2 Hq lq ls hi hc hF he w hl
      obtain ⟨V8, e8⟩ : ∃ W9, W9 = hv_up V mo (mE mo ab2 be2 σ.2.2.1.1 pl cl sg σ.1.2.1.1 σ.1.2.2.1.1 σ.1.2.2.2.1 ik) := ⟨_, rfl⟩
      rw [← e8] at w
      have hOv : V8 mo = some (.inr (7, [.ref (mo + 1), .ref (mo + 2), .ref (mo + 3), .long ab2, .long be2, .ref (mo + 10), .int (nI σ.2.2.1.1), .int pl, .int cl, .ref (mo + 11), .ref (mo + 12), .ref (mo + 13), .int sg, .ref (mo + 14), .ref (mo + 15), .ref (mo + 16), .ref (mo + 17), .int (nI σ.1.2.1.1), .ref (mo + 18), .ref (mo + 19), .int (nI σ.1.2.2.1.1), .ref (mo + 20), .ref (mo + 21), .ref (mo + 22), .int (nI σ.1.2.2.2.1), .int ik, .ref (mo + 23), .ref (mo + 24), .ref (mo + 25), .ref (mo + 26), .ref (mo + 33), .ref (mo + 41), .ref (mo + 42), .ref (mo + 43)])) := by rw [e8]; exact hv_us
      have r1v : V8 (mo + 1) = some (.inl (X.2.1 0, 6, .inl σ.1.1.1)) := by rw [e8, hv_un (by omega)]; exact r1
      have r2v : V8 (mo + 2) = some (.inl (X.2.1 0, 6, .inl (fun j => nI (σ.1.1.2.1 j)))) := by rw [e8, hv_un (by omega)]; exact r2
      have r3v : V8 (mo + 3) = some (.inl (X.2.1 6, 6, .inr (.inr (.inr (.inr rf))))) := by rw [e8, hv_un (by omega)]; exact r3
      have nF9 : ¬ F.2.2 = 0 := by rw [hF.1]; decide
      refine lv_iload C0.1 C0.2.1 dX7_mean_22 (lv_at hl 5 rfl) ?_
      refine lv_bipush (v := 6) C0.1 C0.2.1 dX7_mean_24 (by decide) ?_
      refine lv_icmp_ge (tgt := 79) C0.1 C0.2.1 dX7_mean_26 (by decide) (fun c_26 => absurd c_26 (show ¬ nI 6 ≤ nI i from nI_ge (by omega) (by omega))) (fun c_26 => ?_)
      have hi : i < 6 := by omega
      have hn_i : σ.1.1.2.1 i ≤ 16 := (hbR i hi).2.1
      have hN_iv : V8 (mo + 4 + i) = some (nE X (σ.1.1.2.2 i)) := by rw [e8, hv_un (by omega)]; exact r5 i hi
      refine lv_aload_n C0.1 C0.2.1 dX7_mean_29 rfl (lv_at hl 0 rfl) ?_
      refine lv_iload C0.1 C0.2.1 dX7_mean_30 (lv_at hl 5 rfl) ?_
      refine hv_cVi C0 w kl_X7_240 kv_X7_hasWorth rfl hOv (c_X7_hasWorth (n := σ.1.1.2.1 i) hOv r1v r2v rfl r3v (r4 i hi) hi hN_iv (by omega) (fun i9 => (hbR i hi).2.2 i9)) (by decide) (by decide) rfl hl.1 rfl (Nat.le_of_ble_eq_true rfl) dX7_mean_32 ⟨Nat.le_refl _, Nat.le_refl _⟩ (fun x1 V2 Hq lq hp3 w => ?_)
      obtain ⟨ab4, be5, eV6, fm7, hz9⟩ := hp3
      have hV9 : V2 (mo + 1) = some (.inl (X.2.1 0, 6, .inl σ.1.1.1)) := by rw [eV6, hv_un (by omega)]; exact r1v
      have hV10 : V2 (mo + 2) = some (.inl (X.2.1 0, 6, .inl (fun j => nI (σ.1.1.2.1 j)))) := by rw [eV6, hv_un (by omega)]; exact r2v
      have hV11 : V2 (mo + 3) = some (.inl (X.2.1 6, 6, .inr (.inr (.inr (.inr rf))))) := by rw [eV6, hv_un (by omega)]; exact r3v
      have hV13 : V2 (mo + 4 + i) = some (.inl (X.2.1 0, 16, .inl (σ.1.1.2.2 i))) := by rw [eV6, hv_un (by omega)]; exact hN_iv
      have hV14 : V2 mo = some (.inr (7, [.ref (mo + 1), .ref (mo + 2), .ref (mo + 3), .long ab4, .long be5, .ref (mo + 10), .int (nI σ.2.2.1.1), .int pl, .int cl, .ref (mo + 11), .ref (mo + 12), .ref (mo + 13), .int sg, .ref (mo + 14), .ref (mo + 15), .ref (mo + 16), .ref (mo + 17), .int (nI σ.1.2.1.1), .ref (mo + 18), .ref (mo + 19), .int (nI σ.1.2.2.1.1), .ref (mo + 20), .ref (mo + 21), .ref (mo + 22), .int (nI σ.1.2.2.2.1), .int ik, .ref (mo + 23), .ref (mo + 24), .ref (mo + 25), .ref (mo + 26), .ref (mo + 33), .ref (mo + 41), .ref (mo + 42), .ref (mo + 43)])) := by rw [eV6]; exact hv_us
      rcases hz9 with ⟨rfl, hw8⟩ | ⟨rfl, hw8⟩
      · skip
        refine lv_if_ne (tgt := 41) C0.1 C0.2.1 dX7_mean_35 (by decide) (fun _ => ?_) (fun h9 => absurd h9 (by decide))
        refine lv_iinc (v := (nI c9) + 1) (lv' := [(6, .int ((nI c9) + 1)), (0, .ref mo), (1, .int k), (2, .long F.1), (4, .long F.2.1), (7, .int (nI i))]) C0.1 C0.2.1 dX7_mean_41 hl (k := 4) rfl rfl (by decide) rfl (fun ls hl => ?_)
        refine lv_aload_n C0.1 C0.2.1 dX7_mean_44 rfl (lv_at hl 1 rfl) ?_
        refine lv_lload_n C0.1 C0.2.1 dX7_mean_45 rfl (lv_at hl 3 rfl) ?_
        refine lv_lload C0.1 C0.2.1 dX7_mean_46 (lv_at hl 4 rfl) ?_
        refine hv_cVv C0 w kl_X7_120 kv_X7_plus rfl hV14 (c_X7_plus hV14 fm7 (fx_ok.in hF.2).1 (fx_ok.in hF.2).2) (by decide) (by decide) rfl hl.1 rfl (Nat.le_of_ble_eq_true rfl) dX7_mean_48 ⟨Nat.le_refl _, Nat.le_refl _⟩ (fun V16 Hq lq hp17 w => ?_)
        obtain ⟨ab18, be19, eV20, fm21⟩ := hp17
        have hV22 : V16 (mo + 1) = some (.inl (X.2.1 0, 6, .inl σ.1.1.1)) := by rw [eV20, hv_un (by omega)]; exact hV9
        have hV23 : V16 (mo + 2) = some (.inl (X.2.1 0, 6, .inl (fun j => nI (σ.1.1.2.1 j)))) := by rw [eV20, hv_un (by omega)]; exact hV10
        have hV24 : V16 (mo + 3) = some (.inl (X.2.1 6, 6, .inr (.inr (.inr (.inr rf))))) := by rw [eV20, hv_un (by omega)]; exact hV11
        have hV25 : V16 (mo + 4 + i) = some (.inl (X.2.1 0, 16, .inl (σ.1.1.2.2 i))) := by rw [eV20, hv_un (by omega)]; exact hV13
        have hV27 : V16 mo = some (.inr (7, [.ref (mo + 1), .ref (mo + 2), .ref (mo + 3), .long ab18, .long be19, .ref (mo + 10), .int (nI σ.2.2.1.1), .int pl, .int cl, .ref (mo + 11), .ref (mo + 12), .ref (mo + 13), .int sg, .ref (mo + 14), .ref (mo + 15), .ref (mo + 16), .ref (mo + 17), .int (nI σ.1.2.1.1), .ref (mo + 18), .ref (mo + 19), .int (nI σ.1.2.2.1.1), .ref (mo + 20), .ref (mo + 21), .ref (mo + 22), .int (nI σ.1.2.2.2.1), .int ik, .ref (mo + 23), .ref (mo + 24), .ref (mo + 25), .ref (mo + 26), .ref (mo + 33), .ref (mo + 41), .ref (mo + 42), .ref (mo + 43)])) := by rw [eV20]; exact hv_us
        have nG9 := fm7.one hw8
        rw [fx_add_c nF9 nG9] at fm21
        refine lv_aload_n C0.1 C0.2.1 dX7_mean_51 rfl (lv_at hl 1 rfl) ?_
        refine hv_cVi C0 w kl_X7_112 kv_X7_isThere rfl hV27 (c_X7_isThere hV27) (by decide) (by decide) rfl hl.1 rfl (Nat.le_of_ble_eq_true rfl) dX7_mean_52 ⟨Nat.le_refl _, Nat.le_refl _⟩ (fun x28 V29 Hq lq hp30 w => ?_)
        obtain ⟨e9, hz9⟩ := hp30
        rw [e9] at w; clear e9
        rcases hz9 with ⟨rfl, hi31⟩ | ⟨rfl, hi31⟩
        · skip
          refine lv_if_ne (tgt := 62) C0.1 C0.2.1 dX7_mean_55 (by decide) (fun _ => ?_) (fun h9 => absurd h9 (by decide))
          refine lv_aload_n C0.1 C0.2.1 dX7_mean_62 rfl (lv_at hl 1 rfl) ?_
          refine gf_X7_103 C0 w hV27 rfl dX7_mean_63 ?_
          refine lv_lstore_n (lv' := [(2, .long ab18), (6, .int ((nI c9) + 1)), (0, .ref mo), (1, .int k), (4, .long F.2.1), (7, .int (nI i))]) C0.1 C0.2.1 dX7_mean_66 rfl hl (by decide) rfl (fun ls hl => ?_)
          refine lv_aload_n C0.1 C0.2.1 dX7_mean_67 rfl (lv_at hl 2 rfl) ?_
          refine gf_X7_107 C0 w hV27 rfl dX7_mean_68 ?_
          refine lv_lstore (lv' := [(4, .long be19), (2, .long ab18), (6, .int ((nI c9) + 1)), (0, .ref mo), (1, .int k), (7, .int (nI i))]) C0.1 C0.2.1 dX7_mean_71 hl (by decide) rfl (fun ls hl => ?_)
          refine lv_iinc (v := (nI i) + 1) (lv' := [(7, .int ((nI i) + 1)), (4, .long be19), (2, .long ab18), (6, .int ((nI c9) + 1)), (0, .ref mo), (1, .int k)]) C0.1 C0.2.1 dX7_mean_73 hl (k := 5) rfl rfl (by decide) rfl (fun ls hl => ?_)
          refine lv_goto (tgt := 22) C0.1 C0.2.1 dX7_mean_76 (by decide) ?_
          obtain ⟨y1, y2, y3, y4⟩ := fm21.yes hi31
          exact ih (i + 1) (c9 + 1) _ _ _ _ _ ls (by omega) (by omega) ⟨y1, y4⟩ (by rw [← he, sp_mn, if_neg nG9, nI_1]) (by rw [eV20, eV6, e8, hv_uu, hv_uu] at w; exact w) (by have h9 := (lv_sub (l' := [(0, .ref mo), (1, .int k), (2, .long ab18), (4, .long be19), (6, .int (nI c9 + 1)), (7, .int (nI i + 1))]) hl [4, 5, 2, 1, 3, 0] rfl); rw [nI_1, nI_1, y2, y3] at h9; exact h9)
        · skip
          have hi31 := Classical.byContradiction hi31
          refine lv_if_ne (tgt := 62) C0.1 C0.2.1 dX7_mean_55 (by decide) (fun h9 => absurd h9 (by decide)) (fun _ => ?_)
          refine lv_ldc2 C0.1 C0.2.1 C0.2.2.2.1 (C0.2.2.2.2.1 _ kk_X7_243) dX7_mean_58 ?_
          exact hv_lret C0 w hr hlk (⟨by rw [hsp, ← he, sp_mn, if_neg nG9]; exact (fx_part_no (fx_divBy_no (sp_mn_no _ _ _ _ (fm21.no.mp hi31)))).symm, ⟨ab18, be19, pl, cl, sg, ik, (by rw [eV20]; exact hv_us), hRw.fr (fun q h7 h8 => by rw [eV20, hv_un (by omega), eV6, hv_un (by omega), e8, hv_un (by omega)]), (by rw [eV20, hv_un (by omega), eV6, hv_un (by omega), e8, hv_un (by omega)] : _ = V (mo + 10)).trans hTx, hSc.fr (fun q h7 h8 => by rw [eV20, hv_un (by omega), eV6, hv_un (by omega), e8, hv_un (by omega)]) (fun q h7 h8 => by rw [eV20, hv_un (by omega), eV6, hv_un (by omega), e8, hv_un (by omega)]), hSe.fr (fun q h7 h8 => by rw [eV20, hv_un (by omega), eV6, hv_un (by omega), e8, hv_un (by omega)]), hEv.fr (by rw [eV20, hv_un (by omega), eV6, hv_un (by omega), e8, hv_un (by omega)]) (by rw [eV20, hv_un (by omega), eV6, hv_un (by omega), e8, hv_un (by omega)]), hBk.fr (by rw [eV20, hv_un (by omega), eV6, hv_un (by omega), e8, hv_un (by omega)]) (by rw [eV20, hv_un (by omega), eV6, hv_un (by omega), e8, hv_un (by omega)]), hIm.fr (fun q h7 h8 => by rw [eV20, hv_un (by omega), eV6, hv_un (by omega), e8, hv_un (by omega)]), hTp.fr (fun q h7 h8 => by rw [eV20, hv_un (by omega), eV6, hv_un (by omega), e8, hv_un (by omega)])⟩, (fun q h7 => by rw [eV20, hv_un (by omega), eV6, hv_un (by omega), e8, hv_un (by omega)])⟩) dX7_mean_61
      · skip
        refine lv_if_ne (tgt := 41) C0.1 C0.2.1 dX7_mean_35 (by decide) (fun h9 => absurd h9 (by decide)) (fun _ => ?_)
        refine lv_goto (tgt := 73) C0.1 C0.2.1 dX7_mean_38 (by decide) ?_
        refine lv_iinc (v := (nI i) + 1) (lv' := [(7, .int ((nI i) + 1)), (0, .ref mo), (1, .int k), (2, .long F.1), (4, .long F.2.1), (6, .int (nI c9))]) C0.1 C0.2.1 dX7_mean_73 hl (k := 5) rfl rfl (by decide) rfl (fun ls hl => ?_)
        refine lv_goto (tgt := 22) C0.1 C0.2.1 dX7_mean_76 (by decide) ?_
        exact ih (i + 1) c9 F _ _ _ _ ls (by omega) (by omega) hF (by rw [← he, sp_mn, if_pos (fm7.no.mp (Classical.byContradiction hw8))]) (by rw [eV6, e8, hv_uu] at w; exact w) (by have h9 := (lv_sub (l' := [(0, .ref mo), (1, .int k), (2, .long F.1), (4, .long F.2.1), (6, .int (nI c9)), (7, .int (nI i + 1))]) hl [1, 2, 3, 4, 5, 0] rfl); rw [nI_1] at h9; exact h9)
  refine lv_iload_n C0.1 C0.2.1 dX7_mean_0 rfl (lv_at hl 1 rfl) ?_
  refine hv_cSi (As := [.int k]) C0 w kl_X7_245 ks_X7_isPart (c_X7_isPart) (by decide) (by decide) rfl hl.1 rfl (Nat.le_of_ble_eq_true rfl) dX7_mean_1 ⟨Nat.le_refl _, Nat.le_refl _⟩ (fun x1 V2 Hq lq hp3 w => ?_)
  obtain ⟨e9, hz9⟩ := hp3
  rw [e9] at w; clear e9
  rcases hz9 with ⟨rfl, hb4⟩ | ⟨rfl, hb4⟩
  · skip
    refine lv_if_ne (tgt := 11) C0.1 C0.2.1 dX7_mean_4 (by decide) (fun _ => ?_) (fun h9 => absurd h9 (by decide))
    refine lv_lconst (v := 0) C0.1 C0.2.1 dX7_mean_11 (by decide) ?_
    refine lv_lstore_n (lv' := [(2, .long 0), (0, .ref mo), (1, .int k)]) C0.1 C0.2.1 dX7_mean_12 rfl hl (by decide) rfl (fun ls hl => ?_)
    refine lv_lconst (v := 1) C0.1 C0.2.1 dX7_mean_13 (by decide) ?_
    refine lv_lstore (lv' := [(4, .long 1), (2, .long 0), (0, .ref mo), (1, .int k)]) C0.1 C0.2.1 dX7_mean_14 hl (by decide) rfl (fun ls hl => ?_)
    refine lv_iconst (v := 0) C0.1 C0.2.1 dX7_mean_16 (by decide) ?_
    refine lv_istore (lv' := [(6, .int 0), (4, .long 1), (2, .long 0), (0, .ref mo), (1, .int k)]) C0.1 C0.2.1 dX7_mean_17 hl (by decide) rfl (fun ls hl => ?_)
    refine lv_iconst (v := 0) C0.1 C0.2.1 dX7_mean_19 (by decide) ?_
    refine lv_istore (lv' := [(7, .int 0), (6, .int 0), (4, .long 1), (2, .long 0), (0, .ref mo), (1, .int k)]) C0.1 C0.2.1 dX7_mean_20 hl (by decide) rfl (fun ls hl => ?_)
    exact loop (by rw [sp_mean, if_pos hb4]) 6 0 0 (fx_become 0 1) ab be _ _ ls rfl (Nat.le_refl _) ⟨by decide, by decide⟩ rfl (by rw [hv_id hO]; exact w) (lv_sub (l' := [(0, .ref mo), (1, .int k), (2, .long 0), (4, .long 1), (6, .int 0), (7, .int 0)]) hl [4, 5, 3, 2, 1, 0] rfl)
  · skip
    refine lv_if_ne (tgt := 11) C0.1 C0.2.1 dX7_mean_4 (by decide) (fun h9 => absurd h9 (by decide)) (fun _ => ?_)
    refine lv_ldc2 C0.1 C0.2.1 C0.2.2.2.1 (C0.2.2.2.2.1 _ kk_X7_243) dX7_mean_7 ?_
    exact hv_lret C0 w hr hlk (by rw [sp_mean, if_neg hb4]; exact ⟨rfl, hM, hv_out.rf⟩) dX7_mean_10

