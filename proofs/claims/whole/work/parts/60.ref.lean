/-- what is still to be said behind k numbers -/
def wr_t (f : Nat → Int32) (m k : Nat) : List Int32 := if 0 < k ∧ 0 < m then 44 :: wr_rest f m k else wr_rest f m k
theorem wr_tn {f : Nat → Int32} {m k : Nat} : (if m = 0 then [] else 44 :: wr_rest f m (k + 1)) = wr_t f m (k + 1) := by
  cases m with
  | zero => rfl
  | succ m => rw [wr_t, if_neg (by omega), if_pos ⟨by omega, by omega⟩]
theorem wr_t0 {f : Nat → Int32} {m : Nat} : wr_t f (m + 1) 0 = wr_d 9 (f 0).toNatClampNeg ++ wr_t f m (0 + 1) := by
  rw [wr_t, if_neg (by omega), wr_rest, wr_tn]
theorem wr_tS {f : Nat → Int32} {m k : Nat} (hk : 0 < k) : wr_t f (m + 1) k = 44 :: (wr_d 9 (f k).toNatClampNeg ++ wr_t f m (k + 1)) := by
  rw [wr_t, if_pos ⟨hk, by omega⟩, wr_rest, wr_tn]
theorem wr_end {f : Nat → Int32} {L : List Int32} {k : Nat} {A : List Int32} (h : L ++ wr_t f 0 k = A) : L = A := by
  rw [← h, wr_t, if_neg (by omega), wr_rest, List.append_nil]
theorem wr_no {L : List Int32} {i : Nat} (h : L.length ≤ i) : L.getD i (-5) = -5 := by
  rw [List.getD_eq_getElem?_getD, List.getElem?_eq_none h]; rfl
set_option maxHeartbeats 4000000 in
set_option maxRecDepth 100000 in
theorem c_X7_written {l : Launch} {X : hv_X} {V : hv_V} {mo : Nat} {σ : hs_S} (hM : okM X V mo σ) (hB : hs_b σ) {j1 I : Nat} (hj1 : j1 < 6) (hrj : sp_in (nI j1) 0 5) (hI : I < 2 ^ 31) : hv_Mi l X 220 yX7_written cX7_written 4 .int V [.ref mo, .int (nI j1), .int (nI I)] (fun y V1 => y = sp_written σ (nI j1) (nI I) ∧ okM X V1 mo σ ∧ hv_out V V1 mo (mo + 50)) := by
  refine hv_enter (by decide) (Nat.le_of_ble_eq_true rfl) ?_
  intro p e s m below meth c ls C0 hr hlk hnm w hl
  have hl : lv_has ls 4 [(0, .ref mo), (1, .int (nI j1)), (2, .int (nI I))] := hl
  obtain ⟨ab, be, pl, cl, sg, ik, hO, hRw, hTx, hSc, hSe, hEv, hBk, hIm, hTp⟩ := id hM
  obtain ⟨r1, r2, ⟨rf, r3, r4⟩, r5⟩ := id hRw
  obtain ⟨⟨wd, s1⟩, ⟨td, s2⟩, ⟨sn, s3⟩, ⟨ut, s4⟩, kn, s5⟩ := id hSc
  obtain ⟨sf, sg9, sh, e1, e2, e3, ea⟩ := id hSe
  obtain ⟨ef, eg, v1, v2, va⟩ := id hEv
  obtain ⟨bf, bg, b1, b2, ba⟩ := id hBk
  obtain ⟨t1, t2, ⟨tf, t3, t4⟩, t5⟩ := id hTp
  have hbR := hB.1.1
  have kj1 : (nI j1).toNatClampNeg = j1 := nI_clamp (by omega)
  have hnj : σ.1.1.2.1 j1 ≤ 16 := (hbR j1 hj1).2.1
  have loop : ∀ (m9 k9 : Nat) (L9 : List Int32) (sf9 : Nat → Int32) (Hq : Heap) (lq : List Loc) (ls : Array Slot), (k9 + m9 = σ.1.1.2.1 j1) → (wr_h sf9 L9) → (L9 ++ wr_t (σ.1.1.2.2 j1) m9 k9 = (wr_all (σ.1.1.1 j1) (σ.1.1.2.1 j1) (σ.1.1.2.2 j1))) → (L9.length ≤ 2 + 11 * k9) → hv_w X s (hv_up (hv_up V mo (mE mo ab be σ.2.2.1.1 pl cl (nI L9.length) σ.1.2.1.1 σ.1.2.2.1.1 σ.1.2.2.2.1 ik)) (mo + 13) (bE X 178 sf9)) Hq lq → lv_has ls 4 [(0, .ref mo), (1, .int (nI j1)), (2, .int (nI I)), (3, .int (nI k9))] → W p l e (hv_rm 220 0 0) s m ([.ref mo, .int (nI j1), .int (nI I)] : List Value).toArray below meth c Hq lq 0 0 (MQ below (hv_Qi X (fun y V1 => y = sp_written σ (nI j1) (nI I) ∧ okM X V1 mo σ ∧ hv_out V V1 mo (mo + 50))) ([.ref mo, .int (nI j1), .int (nI I)] : List Value).toArray s 0 0 X.2.2.1) (F0 m 42 ls []) := by
    intro m9
    induction m9 with
    | zero =>
      intro k9 L9 sf9 Hq lq ls hi hh9 he hlb w hl
      have hend := wr_end he
      obtain ⟨V8, e8⟩ : ∃ W9, W9 = hv_up (hv_up V mo (mE mo ab be σ.2.2.1.1 pl cl (nI L9.length) σ.1.2.1.1 σ.1.2.2.1.1 σ.1.2.2.2.1 ik)) (mo + 13) (bE X 178 sf9) := ⟨_, rfl⟩
      rw [← e8] at w
      have q0 : V8 mo = some (.inr (7, [.ref (mo + 1), .ref (mo + 2), .ref (mo + 3), .long ab, .long be, .ref (mo + 10), .int (nI σ.2.2.1.1), .int pl, .int cl, .ref (mo + 11), .ref (mo + 12), .ref (mo + 13), .int (nI L9.length), .ref (mo + 14), .ref (mo + 15), .ref (mo + 16), .ref (mo + 17), .int (nI σ.1.2.1.1), .ref (mo + 18), .ref (mo + 19), .int (nI σ.1.2.2.1.1), .ref (mo + 20), .ref (mo + 21), .ref (mo + 22), .int (nI σ.1.2.2.2.1), .int ik, .ref (mo + 23), .ref (mo + 24), .ref (mo + 25), .ref (mo + 26), .ref (mo + 33), .ref (mo + 41), .ref (mo + 42), .ref (mo + 43)])) := by rw [e8, hv_un (by omega)]; exact hv_us
      have q13 : V8 (mo + 13) = some (.inl (X.2.1 2, 178, .inl sf9)) := by rw [e8]; exact hv_us
      have q2 : V8 (mo + 2) = some (.inl (X.2.1 0, 6, .inl (fun j => nI (σ.1.1.2.1 j)))) := by rw [e8, hv_un (by omega), hv_un (by omega)]; exact r2
      have q3 : V8 (mo + 3) = some (qE X 6 6 rf) := by rw [e8, hv_un (by omega), hv_un (by omega)]; exact r3
      have qN : V8 (mo + 4 + j1) = some (nE X (σ.1.1.2.2 j1)) := by rw [e8, hv_un (by omega), hv_un (by omega)]; exact r5 j1 hj1
      refine lv_iload_n C0.1 C0.2.1 dX7_written_42 rfl (lv_at hl 3 rfl) ?_
      refine lv_aload_n C0.1 C0.2.1 dX7_written_43 rfl (lv_at hl 0 rfl) ?_
      refine gf_X7_15 C0 w q0 rfl dX7_written_44 ?_
      refine lv_iload_n C0.1 C0.2.1 dX7_written_47 rfl (lv_at hl 1 rfl) ?_
      refine hv_iald C0 w q2 (hn_in hj1 (by decide)) dX7_written_48 ?_
      have hc1 : (nI j1).toNatClampNeg = j1 := nI_clamp (by omega)
      rw [hc1]
      refine lv_icmp_ge (tgt := 80) C0.1 C0.2.1 dX7_written_49 (by decide) (fun c_49 => ?_) (fun c_49 => absurd (show nI (σ.1.1.2.1 j1) ≤ nI k9 from nI_le (by omega) (by omega)) c_49)
      refine lv_iload_n C0.1 C0.2.1 dX7_written_80 rfl (lv_at hl 2 rfl) ?_
      refine lv_aload_n C0.1 C0.2.1 dX7_written_81 rfl (lv_at hl 0 rfl) ?_
      refine gf_X7_252 C0 w q0 rfl dX7_written_82 ?_
      refine lv_icmp_ge (tgt := 97) C0.1 C0.2.1 dX7_written_85 (by decide) (fun c_85 => ?_) (fun c_85 => ?_)
      · skip
        refine lv_bipush (v := -5) C0.1 C0.2.1 dX7_written_97 (by decide) ?_
        exact hv_iret C0 w hr hlk (by rw [sp_written, if_pos ⟨hrj, nI_pos' hI⟩, kj1, nI_clamp hI, ← hend]; exact ⟨(wr_no (by have h8 := (nI_leI (by omega) (by omega)).mp c_85; omega)).symm, ⟨ab, be, pl, cl, nI L9.length, ik, q0, hRw.fr (fun q h7 h8 => by rw [e8, hv_un (by omega), hv_un (by omega)]), (by rw [e8, hv_un (by omega), hv_un (by omega)] : _ = V (mo + 10)).trans hTx, ⟨⟨wd, (by rw [e8, hv_un (by omega), hv_un (by omega)] : _ = V (mo + 11)).trans s1⟩, ⟨td, (by rw [e8, hv_un (by omega), hv_un (by omega)] : _ = V (mo + 12)).trans s2⟩, ⟨sf9, q13⟩, ⟨ut, (by rw [e8, hv_un (by omega), hv_un (by omega)] : _ = V (mo + 14)).trans s4⟩, kn, (by rw [e8, hv_un (by omega), hv_un (by omega)] : _ = V (mo + 20)).trans s5⟩, hSe.fr (fun q h7 h8 => by rw [e8, hv_un (by omega), hv_un (by omega)]), hEv.fr (by rw [e8, hv_un (by omega), hv_un (by omega)]) (by rw [e8, hv_un (by omega), hv_un (by omega)]), hBk.fr (by rw [e8, hv_un (by omega), hv_un (by omega)]) (by rw [e8, hv_un (by omega), hv_un (by omega)]), hIm.fr (fun q h7 h8 => by rw [e8, hv_un (by omega), hv_un (by omega)]), hTp.fr (fun q h7 h8 => by rw [e8, hv_un (by omega), hv_un (by omega)])⟩, (fun q h7 => by rw [e8, hv_un (by omega), hv_un (by omega)])⟩) dX7_written_99
      · skip
        refine lv_aload_n C0.1 C0.2.1 dX7_written_88 rfl (lv_at hl 0 rfl) ?_
        refine gf_X7_33 C0 w q0 rfl dX7_written_89 ?_
        refine lv_iload_n C0.1 C0.2.1 dX7_written_92 rfl (lv_at hl 2 rfl) ?_
        have hlt : I < L9.length := (nI_ltI (by omega) (by omega)).mp (Int32.not_le.mp c_85)
        refine hv_bald C0 w q13 (hn_in (by omega) (by decide)) dX7_written_93 ?_
        have hc2 : (nI I).toNatClampNeg = I := nI_clamp (by omega)
        rw [hc2]
        refine lv_goto (tgt := 99) C0.1 C0.2.1 dX7_written_94 (by decide) ?_
        exact hv_iret C0 w hr hlk (by rw [sp_written, if_pos ⟨hrj, nI_pos' hI⟩, kj1, nI_clamp hI, ← hend]; exact ⟨hh9 I hlt, ⟨ab, be, pl, cl, nI L9.length, ik, q0, hRw.fr (fun q h7 h8 => by rw [e8, hv_un (by omega), hv_un (by omega)]), (by rw [e8, hv_un (by omega), hv_un (by omega)] : _ = V (mo + 10)).trans hTx, ⟨⟨wd, (by rw [e8, hv_un (by omega), hv_un (by omega)] : _ = V (mo + 11)).trans s1⟩, ⟨td, (by rw [e8, hv_un (by omega), hv_un (by omega)] : _ = V (mo + 12)).trans s2⟩, ⟨sf9, q13⟩, ⟨ut, (by rw [e8, hv_un (by omega), hv_un (by omega)] : _ = V (mo + 14)).trans s4⟩, kn, (by rw [e8, hv_un (by omega), hv_un (by omega)] : _ = V (mo + 20)).trans s5⟩, hSe.fr (fun q h7 h8 => by rw [e8, hv_un (by omega), hv_un (by omega)]), hEv.fr (by rw [e8, hv_un (by omega), hv_un (by omega)]) (by rw [e8, hv_un (by omega), hv_un (by omega)]), hBk.fr (by rw [e8, hv_un (by omega), hv_un (by omega)]) (by rw [e8, hv_un (by omega), hv_un (by omega)]), hIm.fr (fun q h7 h8 => by rw [e8, hv_un (by omega), hv_un (by omega)]), hTp.fr (fun q h7 h8 => by rw [e8, hv_un (by omega), hv_un (by omega)])⟩, (fun q h7 => by rw [e8, hv_un (by omega), hv_un (by omega)])⟩) dX7_written_99
    | succ m9 ih =>
      intro k9 L9 sf9 Hq lq ls hi hh9 he hlb w hl
      obtain ⟨V8, e8⟩ : ∃ W9, W9 = hv_up (hv_up V mo (mE mo ab be σ.2.2.1.1 pl cl (nI L9.length) σ.1.2.1.1 σ.1.2.2.1.1 σ.1.2.2.2.1 ik)) (mo + 13) (bE X 178 sf9) := ⟨_, rfl⟩
      rw [← e8] at w
      have q0 : V8 mo = some (.inr (7, [.ref (mo + 1), .ref (mo + 2), .ref (mo + 3), .long ab, .long be, .ref (mo + 10), .int (nI σ.2.2.1.1), .int pl, .int cl, .ref (mo + 11), .ref (mo + 12), .ref (mo + 13), .int (nI L9.length), .ref (mo + 14), .ref (mo + 15), .ref (mo + 16), .ref (mo + 17), .int (nI σ.1.2.1.1), .ref (mo + 18), .ref (mo + 19), .int (nI σ.1.2.2.1.1), .ref (mo + 20), .ref (mo + 21), .ref (mo + 22), .int (nI σ.1.2.2.2.1), .int ik, .ref (mo + 23), .ref (mo + 24), .ref (mo + 25), .ref (mo + 26), .ref (mo + 33), .ref (mo + 41), .ref (mo + 42), .ref (mo + 43)])) := by rw [e8, hv_un (by omega)]; exact hv_us
      have q13 : V8 (mo + 13) = some (.inl (X.2.1 2, 178, .inl sf9)) := by rw [e8]; exact hv_us
      have q2 : V8 (mo + 2) = some (.inl (X.2.1 0, 6, .inl (fun j => nI (σ.1.1.2.1 j)))) := by rw [e8, hv_un (by omega), hv_un (by omega)]; exact r2
      have q3 : V8 (mo + 3) = some (qE X 6 6 rf) := by rw [e8, hv_un (by omega), hv_un (by omega)]; exact r3
      have qN : V8 (mo + 4 + j1) = some (nE X (σ.1.1.2.2 j1)) := by rw [e8, hv_un (by omega), hv_un (by omega)]; exact r5 j1 hj1
      refine lv_iload_n C0.1 C0.2.1 dX7_written_42 rfl (lv_at hl 3 rfl) ?_
      refine lv_aload_n C0.1 C0.2.1 dX7_written_43 rfl (lv_at hl 0 rfl) ?_
      refine gf_X7_15 C0 w q0 rfl dX7_written_44 ?_
      refine lv_iload_n C0.1 C0.2.1 dX7_written_47 rfl (lv_at hl 1 rfl) ?_
      refine hv_iald C0 w q2 (hn_in hj1 (by decide)) dX7_written_48 ?_
      have hc1 : (nI j1).toNatClampNeg = j1 := nI_clamp (by omega)
      rw [hc1]
      refine lv_icmp_ge (tgt := 80) C0.1 C0.2.1 dX7_written_49 (by decide) (fun c_49 => absurd c_49 (show ¬ nI (σ.1.1.2.1 j1) ≤ nI k9 from nI_ge (by omega) (by omega))) (fun c_49 => ?_)
      refine lv_iload_n C0.1 C0.2.1 dX7_written_52 rfl (lv_at hl 3 rfl) ?_
      refine lv_if_le (tgt := 62) C0.1 C0.2.1 dX7_written_53 (by decide) (fun c_53 => ?_) (fun c_53 => ?_)
      · skip
        have hk0 : k9 = 0 := by
          rcases Nat.eq_zero_or_pos k9 with h9 | h9
          · exact h9
          · exact absurd c_53 (nI_nle h9 (by omega))
        refine lv_aload_n C0.1 C0.2.1 dX7_written_62 rfl (lv_at hl 0 rfl) ?_
        refine lv_aload_n C0.1 C0.2.1 dX7_written_63 rfl (lv_at hl 0 rfl) ?_
        refine gf_X7_20 C0 w q0 rfl dX7_written_64 ?_
        refine lv_iload_n C0.1 C0.2.1 dX7_written_67 rfl (lv_at hl 1 rfl) ?_
        refine hv_aalA 6 rfl C0 w rfl q3 (hn_in hj1 (by decide)) (by rw [kj1]; exact r4 j1 hj1) dX7_written_68 ?_
        refine lv_iload_n C0.1 C0.2.1 dX7_written_69 rfl (lv_at hl 3 rfl) ?_
        refine hv_iald C0 w qN (hn_in (by omega) (by decide)) dX7_written_70 ?_
        have hc2 : (nI k9).toNatClampNeg = k9 := nI_clamp (by omega)
        rw [hc2]
        obtain ⟨v9, hv9, ev9, ec9⟩ := nI_bk ((hbR j1 hj1).2.2 k9).1
        rw [ev9]
        refine hv_cVv C0 w kl_X7_255 kv_X7_saysNumber rfl q0 (c_X7_saysNumber 9 (L := L9) q0 q13 hh9 (by omega) hv9 (by omega)) (by decide) (by decide) rfl hl.1 rfl (Nat.le_of_ble_eq_true rfl) dX7_written_71 ⟨Nat.le_refl _, Nat.le_refl _⟩ (fun V4 Hq lq hp5 w => ?_)
        obtain ⟨sf2, hh2, e2⟩ := hp5
        have hV6 : V4 mo = some (.inr (7, [.ref (mo + 1), .ref (mo + 2), .ref (mo + 3), .long ab, .long be, .ref (mo + 10), .int (nI σ.2.2.1.1), .int pl, .int cl, .ref (mo + 11), .ref (mo + 12), .ref (mo + 13), .int (nI (L9 ++ wr_d 9 v9).length), .ref (mo + 14), .ref (mo + 15), .ref (mo + 16), .ref (mo + 17), .int (nI σ.1.2.1.1), .ref (mo + 18), .ref (mo + 19), .int (nI σ.1.2.2.1.1), .ref (mo + 20), .ref (mo + 21), .ref (mo + 22), .int (nI σ.1.2.2.2.1), .int ik, .ref (mo + 23), .ref (mo + 24), .ref (mo + 25), .ref (mo + 26), .ref (mo + 33), .ref (mo + 41), .ref (mo + 42), .ref (mo + 43)])) := by rw [e2, hv_un (by omega)]; exact hv_us
        have hV7 : V4 (mo + 13) = some (.inl (X.2.1 2, 178, .inl sf2)) := by rw [e2]; exact hv_us
        have hV8 : V4 (mo + 2) = some (.inl (X.2.1 0, 6, .inl (fun j => nI (σ.1.1.2.1 j)))) := by rw [e2, hv_un (by omega), hv_un (by omega)]; exact q2
        have hV9 : V4 (mo + 3) = some (.inl (X.2.1 6, 6, .inr (.inr (.inr (.inr rf))))) := by rw [e2, hv_un (by omega), hv_un (by omega)]; exact q3
        have hV10 : V4 (mo + 4 + j1) = some (.inl (X.2.1 0, 16, .inl (σ.1.1.2.2 j1))) := by rw [e2, hv_un (by omega), hv_un (by omega)]; exact qN
        refine lv_iinc (v := (nI k9) + 1) (lv' := [(3, .int ((nI k9) + 1)), (0, .ref mo), (1, .int (nI j1)), (2, .int (nI I))]) C0.1 C0.2.1 dX7_written_74 hl (k := 3) rfl rfl (by decide) rfl (fun ls hl => ?_)
        refine lv_goto (tgt := 42) C0.1 C0.2.1 dX7_written_77 (by decide) ?_
        exact ih (k9 + 1) (L9 ++ wr_d 9 v9) sf2 _ _ ls (by omega) hh2 (by rw [← he, hk0, wr_t0, List.append_assoc, ← ec9, hk0]) (by rw [List.length_append, wr_len]; have := wr_cl 9 (v9 / 10); omega) (by rw [e2, e8, wr_p4 (by omega)] at w; exact w) (by have h9 := (lv_sub (l' := [(0, .ref mo), (1, .int (nI j1)), (2, .int (nI I)), (3, .int (nI k9 + 1))]) hl [1, 2, 3, 0] rfl); rw [nI_1] at h9; exact h9)
      · skip
        have hk0 : 0 < k9 := by
          rcases Nat.eq_zero_or_pos k9 with h9 | h9
          · exact absurd (show nI k9 ≤ 0 by rw [h9]; decide) c_53
          · exact h9
        refine lv_aload_n C0.1 C0.2.1 dX7_written_56 rfl (lv_at hl 0 rfl) ?_
        refine lv_bipush (v := 44) C0.1 C0.2.1 dX7_written_57 (by decide) ?_
        rw [show (44 : Int32) = nI 44 from rfl]
        refine hv_cVv C0 w kl_X7_259 kv_X7_says rfl q0 (c_X7_says (L := L9) q0 q13 (by omega) (by omega)) (by decide) (by decide) rfl hl.1 rfl (Nat.le_of_ble_eq_true rfl) dX7_written_59 ⟨Nat.le_refl _, Nat.le_refl _⟩ (fun V12 Hq lq hp13 w => ?_)
        have hV14 : V12 mo = some (.inr (7, [.ref (mo + 1), .ref (mo + 2), .ref (mo + 3), .long ab, .long be, .ref (mo + 10), .int (nI σ.2.2.1.1), .int pl, .int cl, .ref (mo + 11), .ref (mo + 12), .ref (mo + 13), .int (nI (L9 ++ [nI 44]).length), .ref (mo + 14), .ref (mo + 15), .ref (mo + 16), .ref (mo + 17), .int (nI σ.1.2.1.1), .ref (mo + 18), .ref (mo + 19), .int (nI σ.1.2.2.1.1), .ref (mo + 20), .ref (mo + 21), .ref (mo + 22), .int (nI σ.1.2.2.2.1), .int ik, .ref (mo + 23), .ref (mo + 24), .ref (mo + 25), .ref (mo + 26), .ref (mo + 33), .ref (mo + 41), .ref (mo + 42), .ref (mo + 43)])) := by rw [hp13, hv_un (by omega)]; exact hv_us
        have hV15 : V12 (mo + 13) = some (.inl (X.2.1 2, 178, .inl (upd sf9 L9.length (nI 44)))) := by rw [hp13]; exact hv_us
        have hV16 : V12 (mo + 2) = some (.inl (X.2.1 0, 6, .inl (fun j => nI (σ.1.1.2.1 j)))) := by rw [hp13, hv_un (by omega), hv_un (by omega)]; exact q2
        have hV17 : V12 (mo + 3) = some (.inl (X.2.1 6, 6, .inr (.inr (.inr (.inr rf))))) := by rw [hp13, hv_un (by omega), hv_un (by omega)]; exact q3
        have hV18 : V12 (mo + 4 + j1) = some (.inl (X.2.1 0, 16, .inl (σ.1.1.2.2 j1))) := by rw [hp13, hv_un (by omega), hv_un (by omega)]; exact qN
        have hh19 := wr_h.push (v := nI 44) hh9
        refine lv_aload_n C0.1 C0.2.1 dX7_written_62 rfl (lv_at hl 0 rfl) ?_
        refine lv_aload_n C0.1 C0.2.1 dX7_written_63 rfl (lv_at hl 0 rfl) ?_
        refine gf_X7_20 C0 w hV14 rfl dX7_written_64 ?_
        refine lv_iload_n C0.1 C0.2.1 dX7_written_67 rfl (lv_at hl 1 rfl) ?_
        refine hv_aalA 6 rfl C0 w rfl hV17 (hn_in hj1 (by decide)) (by rw [kj1]; exact r4 j1 hj1) dX7_written_68 ?_
        refine lv_iload_n C0.1 C0.2.1 dX7_written_69 rfl (lv_at hl 3 rfl) ?_
        refine hv_iald C0 w hV18 (hn_in (by omega) (by decide)) dX7_written_70 ?_
        have hc20 : (nI k9).toNatClampNeg = k9 := nI_clamp (by omega)
        rw [hc20]
        obtain ⟨v9, hv9, ev9, ec9⟩ := nI_bk ((hbR j1 hj1).2.2 k9).1
        rw [ev9]
        refine hv_cVv C0 w kl_X7_255 kv_X7_saysNumber rfl hV14 (c_X7_saysNumber 9 (L := (L9 ++ [nI 44])) hV14 hV15 hh19 (by rw [List.length_append]; show L9.length + 1 + 9 < 178; omega) hv9 (by omega)) (by decide) (by decide) rfl hl.1 rfl (Nat.le_of_ble_eq_true rfl) dX7_written_71 ⟨Nat.le_refl _, Nat.le_refl _⟩ (fun V22 Hq lq hp23 w => ?_)
        obtain ⟨sf2, hh2, e2⟩ := hp23
        have hV24 : V22 mo = some (.inr (7, [.ref (mo + 1), .ref (mo + 2), .ref (mo + 3), .long ab, .long be, .ref (mo + 10), .int (nI σ.2.2.1.1), .int pl, .int cl, .ref (mo + 11), .ref (mo + 12), .ref (mo + 13), .int (nI ((L9 ++ [nI 44]) ++ wr_d 9 v9).length), .ref (mo + 14), .ref (mo + 15), .ref (mo + 16), .ref (mo + 17), .int (nI σ.1.2.1.1), .ref (mo + 18), .ref (mo + 19), .int (nI σ.1.2.2.1.1), .ref (mo + 20), .ref (mo + 21), .ref (mo + 22), .int (nI σ.1.2.2.2.1), .int ik, .ref (mo + 23), .ref (mo + 24), .ref (mo + 25), .ref (mo + 26), .ref (mo + 33), .ref (mo + 41), .ref (mo + 42), .ref (mo + 43)])) := by rw [e2, hv_un (by omega)]; exact hv_us
        have hV25 : V22 (mo + 13) = some (.inl (X.2.1 2, 178, .inl sf2)) := by rw [e2]; exact hv_us
        have hV26 : V22 (mo + 2) = some (.inl (X.2.1 0, 6, .inl (fun j => nI (σ.1.1.2.1 j)))) := by rw [e2, hv_un (by omega), hv_un (by omega)]; exact hV16
        have hV27 : V22 (mo + 3) = some (.inl (X.2.1 6, 6, .inr (.inr (.inr (.inr rf))))) := by rw [e2, hv_un (by omega), hv_un (by omega)]; exact hV17
        have hV28 : V22 (mo + 4 + j1) = some (.inl (X.2.1 0, 16, .inl (σ.1.1.2.2 j1))) := by rw [e2, hv_un (by omega), hv_un (by omega)]; exact hV18
        refine lv_iinc (v := (nI k9) + 1) (lv' := [(3, .int ((nI k9) + 1)), (0, .ref mo), (1, .int (nI j1)), (2, .int (nI I))]) C0.1 C0.2.1 dX7_written_74 hl (k := 3) rfl rfl (by decide) rfl (fun ls hl => ?_)
        refine lv_goto (tgt := 42) C0.1 C0.2.1 dX7_written_77 (by decide) ?_
        exact ih (k9 + 1) ((L9 ++ [nI 44]) ++ wr_d 9 v9) sf2 _ _ ls (by omega) hh2 (by rw [← he, wr_tS hk0, List.append_assoc, List.append_assoc, ← ec9]; rfl) (by rw [List.length_append, List.length_append, wr_len]; show L9.length + 1 + _ ≤ _; have := wr_cl 9 (v9 / 10); omega) (by rw [e2, hp13, e8, wr_p4 (by omega), wr_p4 (by omega)] at w; exact w) (by have h9 := (lv_sub (l' := [(0, .ref mo), (1, .int (nI j1)), (2, .int (nI I)), (3, .int (nI k9 + 1))]) hl [1, 2, 3, 0] rfl); rw [nI_1] at h9; exact h9)
  refine lv_iload_n C0.1 C0.2.1 dX7_written_0 rfl (lv_at hl 1 rfl) ?_
  refine hv_cSi (As := [.int (nI j1)]) C0 w kl_X7_135 ks_X7_isRow (c_X7_isRow) (by decide) (by decide) rfl hl.1 rfl (Nat.le_of_ble_eq_true rfl) dX7_written_1 ⟨Nat.le_refl _, Nat.le_refl _⟩ (fun x1 V2 Hq lq hp3 w => ?_)
  obtain ⟨e9, hz9⟩ := hp3
  rw [e9] at w; clear e9
  obtain ⟨ex9, -⟩ | ⟨-, hno⟩ := hz9
  rotate_left
  · exact absurd hrj hno
  rw [ex9]; clear ex9
  refine lv_if_eq (tgt := 11) C0.1 C0.2.1 dX7_written_4 (by decide) (fun h9 => absurd h9 (by decide)) (fun _ => ?_)
  refine lv_iload_n C0.1 C0.2.1 dX7_written_7 rfl (lv_at hl 2 rfl) ?_
  refine lv_if_ge (tgt := 13) C0.1 C0.2.1 dX7_written_8 (by decide) (fun c_8 => ?_) (fun c_8 => absurd (nI_pos' hI) c_8)
  refine lv_aload_n C0.1 C0.2.1 dX7_written_13 rfl (lv_at hl 0 rfl) ?_
  refine lv_iconst (v := 0) C0.1 C0.2.1 dX7_written_14 (by decide) ?_
  refine pf_X7_252 C0 w hO (by simp) dX7_written_15 (fun Hq lq w => ?_)
  obtain ⟨V4, eV5⟩ : ∃ W9, W9 = hv_up V mo (.inr (7, [.ref (mo + 1), .ref (mo + 2), .ref (mo + 3), .long ab, .long be, .ref (mo + 10), .int (nI σ.2.2.1.1), .int pl, .int cl, .ref (mo + 11), .ref (mo + 12), .ref (mo + 13), .int 0, .ref (mo + 14), .ref (mo + 15), .ref (mo + 16), .ref (mo + 17), .int (nI σ.1.2.1.1), .ref (mo + 18), .ref (mo + 19), .int (nI σ.1.2.2.1.1), .ref (mo + 20), .ref (mo + 21), .ref (mo + 22), .int (nI σ.1.2.2.2.1), .int ik, .ref (mo + 23), .ref (mo + 24), .ref (mo + 25), .ref (mo + 26), .ref (mo + 33), .ref (mo + 41), .ref (mo + 42), .ref (mo + 43)])) := ⟨_, rfl⟩
  have w : hv_w X s V4 Hq lq := by rw [eV5]; exact w
  have hV7 : V4 (mo + 1) = some (.inl (X.2.1 0, 6, .inl σ.1.1.1)) := by rw [eV5, hv_un (by omega)]; exact r1
  have hV8 : V4 (mo + 2) = some (.inl (X.2.1 0, 6, .inl (fun j => nI (σ.1.1.2.1 j)))) := by rw [eV5, hv_un (by omega)]; exact r2
  have hV9 : V4 (mo + 3) = some (.inl (X.2.1 6, 6, .inr (.inr (.inr (.inr rf))))) := by rw [eV5, hv_un (by omega)]; exact r3
  have hV10 : V4 (mo + 10) = some (.inl (X.2.1 2, 100, .inl σ.2.2.1.2)) := by rw [eV5, hv_un (by omega)]; exact hTx
  have hV11 : V4 (mo + 11) = some (.inl (X.2.1 0, 12, .inl wd)) := by rw [eV5, hv_un (by omega)]; exact s1
  have hV12 : V4 (mo + 12) = some (.inl (X.2.1 0, 48, .inl td)) := by rw [eV5, hv_un (by omega)]; exact s2
  have hV13 : V4 (mo + 13) = some (.inl (X.2.1 2, 178, .inl sn)) := by rw [eV5, hv_un (by omega)]; exact s3
  have hV14 : V4 (mo + 14) = some (.inl (X.2.1 0, 3, .inl ut)) := by rw [eV5, hv_un (by omega)]; exact s4
  have hV15 : V4 (mo + 20) = some (.inl (X.2.1 0, 16, .inl kn)) := by rw [eV5, hv_un (by omega)]; exact s5
  have hV16 : V4 (mo + 15) = some (.inl (X.2.1 0, 4, .inl sf)) := by rw [eV5, hv_un (by omega)]; exact e1
  have hV17 : V4 (mo + 16) = some (.inl (X.2.1 0, 4, .inl sg9)) := by rw [eV5, hv_un (by omega)]; exact e2
  have hV18 : V4 (mo + 17) = some (.inl (X.2.1 0, 4, .inl sh)) := by rw [eV5, hv_un (by omega)]; exact e3
  have hV19 : V4 (mo + 18) = some (.inl (X.2.1 0, 8, .inl ef)) := by rw [eV5, hv_un (by omega)]; exact v1
  have hV20 : V4 (mo + 19) = some (.inl (X.2.1 0, 8, .inl eg)) := by rw [eV5, hv_un (by omega)]; exact v2
  have hV21 : V4 (mo + 21) = some (.inl (X.2.1 0, 8, .inl bf)) := by rw [eV5, hv_un (by omega)]; exact b1
  have hV22 : V4 (mo + 22) = some (.inl (X.2.1 0, 8, .inl bg)) := by rw [eV5, hv_un (by omega)]; exact b2
  have hV23 : V4 (mo + 41) = some (.inl (X.2.1 0, 6, .inl σ.2.2.2.1)) := by rw [eV5, hv_un (by omega)]; exact t1
  have hV24 : V4 (mo + 42) = some (.inl (X.2.1 0, 6, .inl (fun j => nI (σ.2.2.2.2.1 j)))) := by rw [eV5, hv_un (by omega)]; exact t2
  have hV25 : V4 (mo + 43) = some (.inl (X.2.1 7, 6, .inr (.inr (.inr (.inr tf))))) := by rw [eV5, hv_un (by omega)]; exact t3
  have hV26 : V4 mo = some (.inr (7, [.ref (mo + 1), .ref (mo + 2), .ref (mo + 3), .long ab, .long be, .ref (mo + 10), .int (nI σ.2.2.1.1), .int pl, .int cl, .ref (mo + 11), .ref (mo + 12), .ref (mo + 13), .int 0, .ref (mo + 14), .ref (mo + 15), .ref (mo + 16), .ref (mo + 17), .int (nI σ.1.2.1.1), .ref (mo + 18), .ref (mo + 19), .int (nI σ.1.2.2.1.1), .ref (mo + 20), .ref (mo + 21), .ref (mo + 22), .int (nI σ.1.2.2.2.1), .int ik, .ref (mo + 23), .ref (mo + 24), .ref (mo + 25), .ref (mo + 26), .ref (mo + 33), .ref (mo + 41), .ref (mo + 42), .ref (mo + 43)])) := by rw [eV5]; exact hv_us
  have hV0 : V4 mo = some (.inr (7, [.ref (mo + 1), .ref (mo + 2), .ref (mo + 3), .long ab, .long be, .ref (mo + 10), .int (nI σ.2.2.1.1), .int pl, .int cl, .ref (mo + 11), .ref (mo + 12), .ref (mo + 13), .int (nI ([] : List Int32).length), .ref (mo + 14), .ref (mo + 15), .ref (mo + 16), .ref (mo + 17), .int (nI σ.1.2.1.1), .ref (mo + 18), .ref (mo + 19), .int (nI σ.1.2.2.1.1), .ref (mo + 20), .ref (mo + 21), .ref (mo + 22), .int (nI σ.1.2.2.2.1), .int ik, .ref (mo + 23), .ref (mo + 24), .ref (mo + 25), .ref (mo + 26), .ref (mo + 33), .ref (mo + 41), .ref (mo + 42), .ref (mo + 43)])) := hV26
  have hh0 : wr_h sn [] := fun i9 h9 => absurd h9 (Nat.not_lt_zero i9)
  refine lv_aload_n C0.1 C0.2.1 dX7_written_18 rfl (lv_at hl 0 rfl) ?_
  refine hv_ldcSw (i := 5) (tx := "sepc") C0 (by decide) dX7_written_19 ?_
  refine lv_aload_n C0.1 C0.2.1 dX7_written_22 rfl (lv_at hl 0 rfl) ?_
  refine gf_X7_11 C0 w hV0 rfl dX7_written_23 ?_
  refine lv_iload_n C0.1 C0.2.1 dX7_written_26 rfl (lv_at hl 1 rfl) ?_
  refine hv_iald C0 w hV7 (hn_in hj1 (by decide)) dX7_written_27 ?_
  have hc27 : (nI j1).toNatClampNeg = j1 := nI_clamp (by omega)
  rw [hc27]
  obtain ⟨kk, hkk, ek⟩ := sp_inN (k := 3) (by decide) (hbR j1 hj1).1
  rw [ek]
  refine hv_cTi (i := 5) C0 w kl_X7_189 kv_J0_charAt_5068e rfl (by decide) (c_J0_charAt (by decide) hkk) (by decide) (by decide) rfl hl.1 rfl (Nat.le_of_ble_eq_true rfl) dX7_written_28 ⟨Nat.le_refl _, Nat.le_refl _⟩ (fun x28 V29 Hq lq hp30 w => ?_)
  obtain ⟨e9, e8⟩ := hp30
  rw [e9] at w; rw [e8]; clear e9 e8
  obtain ⟨ch, hch, ech⟩ := wr_chb kk hkk
  rw [ech]
  refine hv_cVv C0 w kl_X7_259 kv_X7_says rfl hV0 (c_X7_says (L := ([] : List Int32)) hV0 hV13 (by simp) (by omega)) (by decide) (by decide) rfl hl.1 rfl (Nat.le_of_ble_eq_true rfl) dX7_written_31 ⟨Nat.le_refl _, Nat.le_refl _⟩ (fun V32 Hq lq hp33 w => ?_)
  have hV34 : V32 mo = some (.inr (7, [.ref (mo + 1), .ref (mo + 2), .ref (mo + 3), .long ab, .long be, .ref (mo + 10), .int (nI σ.2.2.1.1), .int pl, .int cl, .ref (mo + 11), .ref (mo + 12), .ref (mo + 13), .int (nI (([] : List Int32) ++ [nI ch]).length), .ref (mo + 14), .ref (mo + 15), .ref (mo + 16), .ref (mo + 17), .int (nI σ.1.2.1.1), .ref (mo + 18), .ref (mo + 19), .int (nI σ.1.2.2.1.1), .ref (mo + 20), .ref (mo + 21), .ref (mo + 22), .int (nI σ.1.2.2.2.1), .int ik, .ref (mo + 23), .ref (mo + 24), .ref (mo + 25), .ref (mo + 26), .ref (mo + 33), .ref (mo + 41), .ref (mo + 42), .ref (mo + 43)])) := by rw [hp33, hv_un (by omega)]; exact hv_us
  have hV35 : V32 (mo + 13) = some (.inl (X.2.1 2, 178, .inl (upd sn ([] : List Int32).length (nI ch)))) := by rw [hp33]; exact hv_us
  have hV36 : V32 (mo + 1) = some (.inl (X.2.1 0, 6, .inl σ.1.1.1)) := by rw [hp33, hv_un (by omega), hv_un (by omega)]; exact hV7
  have hV37 : V32 (mo + 2) = some (.inl (X.2.1 0, 6, .inl (fun j => nI (σ.1.1.2.1 j)))) := by rw [hp33, hv_un (by omega), hv_un (by omega)]; exact hV8
  have hV38 : V32 (mo + 3) = some (.inl (X.2.1 6, 6, .inr (.inr (.inr (.inr rf))))) := by rw [hp33, hv_un (by omega), hv_un (by omega)]; exact hV9
  have hV39 : V32 (mo + 10) = some (.inl (X.2.1 2, 100, .inl σ.2.2.1.2)) := by rw [hp33, hv_un (by omega), hv_un (by omega)]; exact hV10
  have hV40 : V32 (mo + 11) = some (.inl (X.2.1 0, 12, .inl wd)) := by rw [hp33, hv_un (by omega), hv_un (by omega)]; exact hV11
  have hV41 : V32 (mo + 12) = some (.inl (X.2.1 0, 48, .inl td)) := by rw [hp33, hv_un (by omega), hv_un (by omega)]; exact hV12
  have hV42 : V32 (mo + 14) = some (.inl (X.2.1 0, 3, .inl ut)) := by rw [hp33, hv_un (by omega), hv_un (by omega)]; exact hV14
  have hV43 : V32 (mo + 20) = some (.inl (X.2.1 0, 16, .inl kn)) := by rw [hp33, hv_un (by omega), hv_un (by omega)]; exact hV15
  have hV44 : V32 (mo + 15) = some (.inl (X.2.1 0, 4, .inl sf)) := by rw [hp33, hv_un (by omega), hv_un (by omega)]; exact hV16
  have hV45 : V32 (mo + 16) = some (.inl (X.2.1 0, 4, .inl sg9)) := by rw [hp33, hv_un (by omega), hv_un (by omega)]; exact hV17
  have hV46 : V32 (mo + 17) = some (.inl (X.2.1 0, 4, .inl sh)) := by rw [hp33, hv_un (by omega), hv_un (by omega)]; exact hV18
  have hV47 : V32 (mo + 18) = some (.inl (X.2.1 0, 8, .inl ef)) := by rw [hp33, hv_un (by omega), hv_un (by omega)]; exact hV19
  have hV48 : V32 (mo + 19) = some (.inl (X.2.1 0, 8, .inl eg)) := by rw [hp33, hv_un (by omega), hv_un (by omega)]; exact hV20
  have hV49 : V32 (mo + 21) = some (.inl (X.2.1 0, 8, .inl bf)) := by rw [hp33, hv_un (by omega), hv_un (by omega)]; exact hV21
  have hV50 : V32 (mo + 22) = some (.inl (X.2.1 0, 8, .inl bg)) := by rw [hp33, hv_un (by omega), hv_un (by omega)]; exact hV22
  have hV51 : V32 (mo + 41) = some (.inl (X.2.1 0, 6, .inl σ.2.2.2.1)) := by rw [hp33, hv_un (by omega), hv_un (by omega)]; exact hV23
  have hV52 : V32 (mo + 42) = some (.inl (X.2.1 0, 6, .inl (fun j => nI (σ.2.2.2.2.1 j)))) := by rw [hp33, hv_un (by omega), hv_un (by omega)]; exact hV24
  have hV53 : V32 (mo + 43) = some (.inl (X.2.1 7, 6, .inr (.inr (.inr (.inr tf))))) := by rw [hp33, hv_un (by omega), hv_un (by omega)]; exact hV25
  have hh54 := wr_h.push (v := nI ch) hh0
  refine lv_aload_n C0.1 C0.2.1 dX7_written_34 rfl (lv_at hl 0 rfl) ?_
  refine lv_bipush (v := 58) C0.1 C0.2.1 dX7_written_35 (by decide) ?_
  rw [show (58 : Int32) = nI 58 from rfl]
  refine hv_cVv C0 w kl_X7_259 kv_X7_says rfl hV34 (c_X7_says (L := (([] : List Int32) ++ [nI ch])) hV34 hV35 (by simp) (by omega)) (by decide) (by decide) rfl hl.1 rfl (Nat.le_of_ble_eq_true rfl) dX7_written_37 ⟨Nat.le_refl _, Nat.le_refl _⟩ (fun V56 Hq lq hp57 w => ?_)
  have hV58 : V56 mo = some (.inr (7, [.ref (mo + 1), .ref (mo + 2), .ref (mo + 3), .long ab, .long be, .ref (mo + 10), .int (nI σ.2.2.1.1), .int pl, .int cl, .ref (mo + 11), .ref (mo + 12), .ref (mo + 13), .int (nI ((([] : List Int32) ++ [nI ch]) ++ [nI 58]).length), .ref (mo + 14), .ref (mo + 15), .ref (mo + 16), .ref (mo + 17), .int (nI σ.1.2.1.1), .ref (mo + 18), .ref (mo + 19), .int (nI σ.1.2.2.1.1), .ref (mo + 20), .ref (mo + 21), .ref (mo + 22), .int (nI σ.1.2.2.2.1), .int ik, .ref (mo + 23), .ref (mo + 24), .ref (mo + 25), .ref (mo + 26), .ref (mo + 33), .ref (mo + 41), .ref (mo + 42), .ref (mo + 43)])) := by rw [hp57, hv_un (by omega)]; exact hv_us
  have hV59 : V56 (mo + 13) = some (.inl (X.2.1 2, 178, .inl (upd (upd sn ([] : List Int32).length (nI ch)) (([] : List Int32) ++ [nI ch]).length (nI 58)))) := by rw [hp57]; exact hv_us
  have hV60 : V56 (mo + 1) = some (.inl (X.2.1 0, 6, .inl σ.1.1.1)) := by rw [hp57, hv_un (by omega), hv_un (by omega)]; exact hV36
  have hV61 : V56 (mo + 2) = some (.inl (X.2.1 0, 6, .inl (fun j => nI (σ.1.1.2.1 j)))) := by rw [hp57, hv_un (by omega), hv_un (by omega)]; exact hV37
  have hV62 : V56 (mo + 3) = some (.inl (X.2.1 6, 6, .inr (.inr (.inr (.inr rf))))) := by rw [hp57, hv_un (by omega), hv_un (by omega)]; exact hV38
  have hV63 : V56 (mo + 10) = some (.inl (X.2.1 2, 100, .inl σ.2.2.1.2)) := by rw [hp57, hv_un (by omega), hv_un (by omega)]; exact hV39
  have hV64 : V56 (mo + 11) = some (.inl (X.2.1 0, 12, .inl wd)) := by rw [hp57, hv_un (by omega), hv_un (by omega)]; exact hV40
  have hV65 : V56 (mo + 12) = some (.inl (X.2.1 0, 48, .inl td)) := by rw [hp57, hv_un (by omega), hv_un (by omega)]; exact hV41
  have hV66 : V56 (mo + 14) = some (.inl (X.2.1 0, 3, .inl ut)) := by rw [hp57, hv_un (by omega), hv_un (by omega)]; exact hV42
  have hV67 : V56 (mo + 20) = some (.inl (X.2.1 0, 16, .inl kn)) := by rw [hp57, hv_un (by omega), hv_un (by omega)]; exact hV43
  have hV68 : V56 (mo + 15) = some (.inl (X.2.1 0, 4, .inl sf)) := by rw [hp57, hv_un (by omega), hv_un (by omega)]; exact hV44
  have hV69 : V56 (mo + 16) = some (.inl (X.2.1 0, 4, .inl sg9)) := by rw [hp57, hv_un (by omega), hv_un (by omega)]; exact hV45
  have hV70 : V56 (mo + 17) = some (.inl (X.2.1 0, 4, .inl sh)) := by rw [hp57, hv_un (by omega), hv_un (by omega)]; exact hV46
  have hV71 : V56 (mo + 18) = some (.inl (X.2.1 0, 8, .inl ef)) := by rw [hp57, hv_un (by omega), hv_un (by omega)]; exact hV47
  have hV72 : V56 (mo + 19) = some (.inl (X.2.1 0, 8, .inl eg)) := by rw [hp57, hv_un (by omega), hv_un (by omega)]; exact hV48
  have hV73 : V56 (mo + 21) = some (.inl (X.2.1 0, 8, .inl bf)) := by rw [hp57, hv_un (by omega), hv_un (by omega)]; exact hV49
  have hV74 : V56 (mo + 22) = some (.inl (X.2.1 0, 8, .inl bg)) := by rw [hp57, hv_un (by omega), hv_un (by omega)]; exact hV50
  have hV75 : V56 (mo + 41) = some (.inl (X.2.1 0, 6, .inl σ.2.2.2.1)) := by rw [hp57, hv_un (by omega), hv_un (by omega)]; exact hV51
  have hV76 : V56 (mo + 42) = some (.inl (X.2.1 0, 6, .inl (fun j => nI (σ.2.2.2.2.1 j)))) := by rw [hp57, hv_un (by omega), hv_un (by omega)]; exact hV52
  have hV77 : V56 (mo + 43) = some (.inl (X.2.1 7, 6, .inr (.inr (.inr (.inr tf))))) := by rw [hp57, hv_un (by omega), hv_un (by omega)]; exact hV53
  have hh78 := wr_h.push (v := nI 58) hh54
  refine lv_iconst (v := 0) C0.1 C0.2.1 dX7_written_40 (by decide) ?_
  refine lv_istore_n (lv' := [(3, .int 0), (0, .ref mo), (1, .int (nI j1)), (2, .int (nI I))]) C0.1 C0.2.1 dX7_written_41 rfl hl (by decide) rfl (fun ls hl => ?_)
  have hl : lv_has ls 4 [(3, .int (nI 0)), (0, .ref mo), (1, .int (nI j1)), (2, .int (nI I))] := by rw [show ((nI 0)) = (0) from rfl]; exact hl
  exact loop (σ.1.1.2.1 j1) 0 ((([] : List Int32) ++ [nI ch]) ++ [nI 58]) _ _ _ ls (by omega) hh78 (by rw [wr_all, ek, nI_clamp (by omega), ech]; rfl) (by simp) (by rw [hp57, hp33, eV5, wr_p4 (by omega), hv_uu] at w; exact w) (lv_sub hl [1, 2, 3, 0] rfl)

set_option maxHeartbeats 4000000 in
set_option maxRecDepth 100000 in
theorem n_X7_written {l : Launch} {X : hv_X} {V : hv_V} {mo : Nat} {σ : hs_S} (hM : okM X V mo σ) (hB : hs_b σ) {r i : Int32} (hno : ¬ (sp_in r 0 5 ∧ 0 ≤ i)) : hv_Mi l X 220 yX7_written cX7_written 4 .int V [.ref mo, .int r, .int i] (fun y V1 => y = sp_written σ r i ∧ okM X V1 mo σ ∧ hv_out V V1 mo (mo + 50)) := by
  refine hv_enter (by decide) (Nat.le_of_ble_eq_true rfl) ?_
  intro p e s m below meth c ls C0 hr hlk hnm w hl
  have hl : lv_has ls 4 [(0, .ref mo), (1, .int r), (2, .int i)] := hl
  obtain ⟨ab, be, pl, cl, sg, ik, hO, hRw, hTx, hSc, hSe, hEv, hBk, hIm, hTp⟩ := id hM
  obtain ⟨r1, r2, ⟨rf, r3, r4⟩, r5⟩ := id hRw
  obtain ⟨⟨wd, s1⟩, ⟨td, s2⟩, ⟨sn, s3⟩, ⟨ut, s4⟩, kn, s5⟩ := id hSc
  obtain ⟨sf, sg9, sh, e1, e2, e3, ea⟩ := id hSe
  obtain ⟨ef, eg, v1, v2, va⟩ := id hEv
  obtain ⟨bf, bg, b1, b2, ba⟩ := id hBk
  obtain ⟨t1, t2, ⟨tf, t3, t4⟩, t5⟩ := id hTp
  have hbR := hB.1.1
  refine lv_iload_n C0.1 C0.2.1 dX7_written_0 rfl (lv_at hl 1 rfl) ?_
  refine hv_cSi (As := [.int r]) C0 w kl_X7_135 ks_X7_isRow (c_X7_isRow) (by decide) (by decide) rfl hl.1 rfl (Nat.le_of_ble_eq_true rfl) dX7_written_1 ⟨Nat.le_refl _, Nat.le_refl _⟩ (fun x1 V2 Hq lq hp3 w => ?_)
  obtain ⟨e9, hz9⟩ := hp3
  rw [e9] at w; clear e9
  rcases hz9 with ⟨rfl, hb4⟩ | ⟨rfl, hb4⟩
  · skip
    have ihb4 := hb4
    obtain ⟨j1, hj1, rfl⟩ := sp_inN (k := 5) (by decide) hb4
    have kj1 : (nI j1).toNatClampNeg = j1 := nI_clamp (by omega)
    have hN_j1 : V (mo + 4 + j1) = some (nE X (σ.1.1.2.2 j1)) := r5 j1 hj1
    have hn_j1 : σ.1.1.2.1 j1 ≤ 16 := (hbR j1 hj1).2.1
    refine lv_if_eq (tgt := 11) C0.1 C0.2.1 dX7_written_4 (by decide) (fun h9 => absurd h9 (by decide)) (fun _ => ?_)
    refine lv_iload_n C0.1 C0.2.1 dX7_written_7 rfl (lv_at hl 2 rfl) ?_
    refine lv_if_ge (tgt := 13) C0.1 C0.2.1 dX7_written_8 (by decide) (fun c_8 => ?_) (fun c_8 => ?_)
    · skip
      exact absurd ⟨ihb4, c_8⟩ hno
    · skip
      refine lv_iconst (v := -1) C0.1 C0.2.1 dX7_written_11 (by decide) ?_
      exact hv_iret C0 w hr hlk (by rw [sp_written, if_neg hno]; exact ⟨rfl, hM, hv_out.rf⟩) dX7_written_12
  · skip
    refine lv_if_eq (tgt := 11) C0.1 C0.2.1 dX7_written_4 (by decide) (fun _ => ?_) (fun h9 => absurd h9 (by decide))
    refine lv_iconst (v := -1) C0.1 C0.2.1 dX7_written_11 (by decide) ?_
    exact hv_iret C0 w hr hlk (by rw [sp_written, if_neg hno]; exact ⟨rfl, hM, hv_out.rf⟩) dX7_written_12

theorem m_X7_written {l : Launch} {X : hv_X} {V : hv_V} {mo : Nat} {σ : hs_S} (hM : okM X V mo σ) (hB : hs_b σ) {r i : Int32} : hv_Mi l X 220 yX7_written cX7_written 4 .int V [.ref mo, .int r, .int i] (fun y V1 => y = sp_written σ r i ∧ okM X V1 mo σ ∧ hv_out V V1 mo (mo + 50)) := by
  by_cases h : sp_in r 0 5 ∧ 0 ≤ i
  · obtain ⟨h, h2⟩ := h
    obtain ⟨j1, hj1, rfl⟩ := sp_inN (k := 5) (by decide) h
    obtain ⟨I, hI, rfl, -⟩ := nI_bk h2
    exact c_X7_written hM hB hj1 h hI
  · exact n_X7_written hM hB h
