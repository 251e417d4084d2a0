theorem hv_q3b {V : hv_V} {a b c : Nat} {e1 e2 e3 g1 g2 g3 : va_E} (hab : a ≠ b) (hac : a ≠ c) (hbc : b ≠ c) : hv_up (hv_up (hv_up (hv_up (hv_up (hv_up V a e1) b e2) c e3) a g1) b g2) c g3 = hv_up (hv_up (hv_up V a g1) b g2) c g3 := by
  funext q
  by_cases h1 : q = c
  · subst h1; rw [hv_us, hv_us]
  · rw [hv_un h1, hv_un (a := c) (b := q) h1]
    by_cases h2 : q = b
    · subst h2; rw [hv_us, hv_us]
    · rw [hv_un h2, hv_un (a := b) (b := q) h2]
      by_cases h3 : q = a
      · subst h3; rw [hv_us, hv_us]
      · rw [hv_un h3, hv_un h3, hv_un h1, hv_un h2, hv_un h3]
theorem sp_und_lb {what kd : Int32} {n : Nat} {f : Nat → Int32} (h : n ≤ 16) : (sp_und what kd n f).2.1 ≤ 16 := by
  unfold sp_und
  split
  · show n - 1 ≤ 16; omega
  · split <;> exact h
set_option maxHeartbeats 4000000 in
set_option maxRecDepth 100000 in
theorem c_X7_after {l : Launch} {X : hv_X} {V : hv_V} {mo : Nat} {σ : hs_S} (hM : okM X V mo σ) (hB : hs_b σ) {j1 : Nat} {k : Int32} (hj1 : j1 < 6) (hrj : sp_in (nI j1) 0 5) : hv_Mi l X 220 yX7_after cX7_after 6 .int V [.ref mo, .int (nI j1), .int k] (fun y V1 => y = sp_after σ (nI j1) k ∧ okM X V1 mo σ ∧ hv_out V V1 mo (mo + 50)) := by
  refine hv_enter (by decide) (Nat.le_of_ble_eq_true rfl) ?_
  intro p e s m below meth c ls C0 hr hlk hnm w hl
  have hl : lv_has ls 6 [(0, .ref mo), (1, .int (nI j1)), (2, .int k)] := hl
  obtain ⟨ab, be, pl, cl, sg, ik, hO, hRw, hTx, hSc, hSe, hEv, hBk, hIm, hTp⟩ := id hM
  obtain ⟨r1, r2, ⟨rf, r3, r4⟩, r5⟩ := id hRw
  obtain ⟨⟨wd, s1⟩, ⟨td, s2⟩, ⟨sn, s3⟩, ⟨ut, s4⟩, kn, s5⟩ := id hSc
  obtain ⟨sf, sg9, sh, e1, e2, e3, ea⟩ := id hSe
  obtain ⟨ef, eg, v1, v2, va⟩ := id hEv
  obtain ⟨bf, bg, b1, b2, ba⟩ := id hBk
  obtain ⟨t1, t2, ⟨tf, t3, t4⟩, t5⟩ := id hTp
  have hbR := hB.1.1
  have kj1 : (nI j1).toNatClampNeg = j1 := nI_clamp (by omega)
  have hN_j1 : V (mo + 4 + j1) = some (nE X (σ.1.1.2.2 j1)) := r5 j1 hj1
  have he8 := hB.1.2.2.1.1
  have loop : ∀ (hsp : sp_after σ (nI j1) k = if k = 0 then nI (sp_aft σ (nI j1)).2.1 else if k = 1 then sp_flaw (sp_aft σ (nI j1)).1 (sp_aft σ (nI j1)).2.1 (sp_aft σ (nI j1)).2.2 else (sp_aft σ (nI j1)).1) (m9 q : Nat) (T : Int32 × Nat × (Nat → Int32)) (Hq : Heap) (lq : List Loc) (ls : Array Slot), (q + m9 = σ.1.2.2.1.1) → (T.2.1 ≤ 16) → (sp_ev σ (nI j1) m9 q T = sp_aft σ (nI j1)) → hv_w X s (hv_up (hv_up (hv_up (hv_up V (mo + 20) (nE X (σ.1.1.2.2 j1))) (mo + 1) (iE X 6 (upd σ.1.1.1 j1 T.1))) (mo + 2) (iE X 6 (upd (fun j => nI (σ.1.1.2.1 j)) j1 (nI T.2.1)))) (mo + 4 + j1) (nE X (T.2.2))) Hq lq → lv_has ls 6 [(0, .ref mo), (1, .int (nI j1)), (2, .int k), (3, .int (σ.1.1.1 j1)), (4, .int (nI (σ.1.1.2.1 j1))), (5, .int (nI q))] → W p l e (hv_rm 220 0 0) s m ([.ref mo, .int (nI j1), .int k] : List Value).toArray below meth c Hq lq 0 0 (MQ below (hv_Qi X (fun y V1 => y = sp_after σ (nI j1) k ∧ okM X V1 mo σ ∧ hv_out V V1 mo (mo + 50))) ([.ref mo, .int (nI j1), .int k] : List Value).toArray s 0 0 X.2.2.1) (F0 m 53 ls []) := by
    intro hsp m9
    induction m9 with
    | zero =>
      intro q T Hq lq ls hi hT he w hl
      have he : T = sp_aft σ (nI j1) := he
      obtain ⟨V8, e8⟩ : ∃ W9, W9 = hv_up (hv_up (hv_up (hv_up V (mo + 20) (nE X (σ.1.1.2.2 j1))) (mo + 1) (iE X 6 (upd σ.1.1.1 j1 T.1))) (mo + 2) (iE X 6 (upd (fun j => nI (σ.1.1.2.1 j)) j1 (nI T.2.1)))) (mo + 4 + j1) (nE X (T.2.2)) := ⟨_, rfl⟩
      rw [← e8] at w
      have hOv : V8 mo = some (.inr (7, [.ref (mo + 1), .ref (mo + 2), .ref (mo + 3), .long ab, .long be, .ref (mo + 10), .int (nI σ.2.2.1.1), .int pl, .int cl, .ref (mo + 11), .ref (mo + 12), .ref (mo + 13), .int sg, .ref (mo + 14), .ref (mo + 15), .ref (mo + 16), .ref (mo + 17), .int (nI σ.1.2.1.1), .ref (mo + 18), .ref (mo + 19), .int (nI σ.1.2.2.1.1), .ref (mo + 20), .ref (mo + 21), .ref (mo + 22), .int (nI σ.1.2.2.2.1), .int ik, .ref (mo + 23), .ref (mo + 24), .ref (mo + 25), .ref (mo + 26), .ref (mo + 33), .ref (mo + 41), .ref (mo + 42), .ref (mo + 43)])) := by rw [e8, hv_un (by omega), hv_un (by omega), hv_un (by omega), hv_un (by omega)]; exact hO
      have r3v : V8 (mo + 3) = some (.inl (X.2.1 6, 6, .inr (.inr (.inr (.inr rf))))) := by rw [e8, hv_un (by omega), hv_un (by omega), hv_un (by omega), hv_un (by omega)]; exact r3
      have v1v : V8 (mo + 18) = some (.inl (X.2.1 0, 8, .inl ef)) := by rw [e8, hv_un (by omega), hv_un (by omega), hv_un (by omega), hv_un (by omega)]; exact v1
      have v2v : V8 (mo + 19) = some (.inl (X.2.1 0, 8, .inl eg)) := by rw [e8, hv_un (by omega), hv_un (by omega), hv_un (by omega), hv_un (by omega)]; exact v2
      have q1 : V8 (mo + 1) = some (iE X 6 (upd σ.1.1.1 j1 T.1)) := by rw [e8, hv_un (by omega), hv_un (by omega)]; exact hv_us
      have q2 : V8 (mo + 2) = some (iE X 6 (upd (fun j => nI (σ.1.1.2.1 j)) j1 (nI T.2.1))) := by rw [e8, hv_un (by omega)]; exact hv_us
      have q4 : V8 (mo + 4 + j1) = some (nE X T.2.2) := by rw [e8]; exact hv_us
      have q20 : V8 (mo + 20) = some (nE X (σ.1.1.2.2 j1)) := by rw [e8, hv_un (by omega), hv_un (by omega), hv_un (by omega)]; exact hv_us
      refine lv_iload C0.1 C0.2.1 dX7_after_53 (lv_at hl 5 rfl) ?_
      refine lv_aload_n C0.1 C0.2.1 dX7_after_55 rfl (lv_at hl 0 rfl) ?_
      refine gf_X7_285 C0 w hOv rfl dX7_after_56 ?_
      refine lv_icmp_ge (tgt := 91) C0.1 C0.2.1 dX7_after_59 (by decide) (fun c_59 => ?_) (fun c_59 => absurd (nI_le (by omega) (by omega)) c_59)
      refine lv_iload_n C0.1 C0.2.1 dX7_after_91 rfl (lv_at hl 2 rfl) ?_
      refine lv_if_ne (tgt := 104) C0.1 C0.2.1 dX7_after_92 (by decide) (fun c_92 => ?_) (fun c_92 => ?_)
      · skip
        refine lv_iload_n C0.1 C0.2.1 dX7_after_104 rfl (lv_at hl 2 rfl) ?_
        refine lv_iconst (v := 1) C0.1 C0.2.1 dX7_after_105 (by decide) ?_
        refine lv_icmp_ne (tgt := 117) C0.1 C0.2.1 dX7_after_106 (by decide) (fun c_106 => ?_) (fun c_106 => ?_)
        · skip
          refine lv_aload_n C0.1 C0.2.1 dX7_after_117 rfl (lv_at hl 0 rfl) ?_
          refine gf_X7_11 C0 w hOv rfl dX7_after_118 ?_
          refine lv_iload_n C0.1 C0.2.1 dX7_after_121 rfl (lv_at hl 1 rfl) ?_
          refine hv_iald C0 w q1 (hn_in hj1 (by decide)) dX7_after_122 ?_
          have hc1 : (nI j1).toNatClampNeg = j1 := nI_clamp (by omega)
          rw [hc1]
          rw [hs_uself]
          refine lv_istore (lv' := [(5, .int T.1), (0, .ref mo), (1, .int (nI j1)), (2, .int k), (3, .int (σ.1.1.1 j1)), (4, .int (nI (σ.1.1.2.1 j1)))]) C0.1 C0.2.1 dX7_after_123 hl (by decide) rfl (fun ls hl => ?_)
          refine lv_aload_n C0.1 C0.2.1 dX7_after_125 rfl (lv_at hl 1 rfl) ?_
          refine gf_X7_11 C0 w hOv rfl dX7_after_126 ?_
          refine lv_iload_n C0.1 C0.2.1 dX7_after_129 rfl (lv_at hl 2 rfl) ?_
          refine lv_iload_n C0.1 C0.2.1 dX7_after_130 rfl (lv_at hl 4 rfl) ?_
          refine hv_iast C0 w q1 (hn_in hj1 (by decide)) dX7_after_131 (fun Hq lq w => ?_)
          have hc2 : (nI j1).toNatClampNeg = j1 := nI_clamp (by omega)
          rw [hc2] at w
          obtain ⟨V3, eV4⟩ : ∃ W9, W9 = hv_up V8 (mo + 1) (.inl (X.2.1 0, 6, .inl (upd (upd σ.1.1.1 j1 T.1) j1 (σ.1.1.1 j1)))) := ⟨_, rfl⟩
          have w : hv_w X s V3 Hq lq := by rw [eV4]; exact w
          have hV5 : V3 mo = some (.inr (7, [.ref (mo + 1), .ref (mo + 2), .ref (mo + 3), .long ab, .long be, .ref (mo + 10), .int (nI σ.2.2.1.1), .int pl, .int cl, .ref (mo + 11), .ref (mo + 12), .ref (mo + 13), .int sg, .ref (mo + 14), .ref (mo + 15), .ref (mo + 16), .ref (mo + 17), .int (nI σ.1.2.1.1), .ref (mo + 18), .ref (mo + 19), .int (nI σ.1.2.2.1.1), .ref (mo + 20), .ref (mo + 21), .ref (mo + 22), .int (nI σ.1.2.2.2.1), .int ik, .ref (mo + 23), .ref (mo + 24), .ref (mo + 25), .ref (mo + 26), .ref (mo + 33), .ref (mo + 41), .ref (mo + 42), .ref (mo + 43)])) := by rw [eV4, hv_un (by omega)]; exact hOv
          have hV6 : V3 (mo + 3) = some (.inl (X.2.1 6, 6, .inr (.inr (.inr (.inr rf))))) := by rw [eV4, hv_un (by omega)]; exact r3v
          have hV7 : V3 (mo + 18) = some (.inl (X.2.1 0, 8, .inl ef)) := by rw [eV4, hv_un (by omega)]; exact v1v
          have hV8 : V3 (mo + 19) = some (.inl (X.2.1 0, 8, .inl eg)) := by rw [eV4, hv_un (by omega)]; exact v2v
          have hV10 : V3 (mo + 2) = some (.inl (X.2.1 0, 6, .inl (upd (fun j => nI (σ.1.1.2.1 j)) j1 (nI T.2.1)))) := by rw [eV4, hv_un (by omega)]; exact q2
          have hV11 : V3 (mo + 4 + j1) = some (.inl (X.2.1 0, 16, .inl T.2.2)) := by rw [eV4, hv_un (by omega)]; exact q4
          have hV12 : V3 (mo + 20) = some (.inl (X.2.1 0, 16, .inl (σ.1.1.2.2 j1))) := by rw [eV4, hv_un (by omega)]; exact q20
          have hV13 : V3 (mo + 1) = some (.inl (X.2.1 0, 6, .inl (upd (upd σ.1.1.1 j1 T.1) j1 (σ.1.1.1 j1)))) := by rw [eV4]; exact hv_us
          refine lv_aload_n C0.1 C0.2.1 dX7_after_132 rfl (lv_at hl 1 rfl) ?_
          refine gf_X7_15 C0 w hV5 rfl dX7_after_133 ?_
          refine lv_iload_n C0.1 C0.2.1 dX7_after_136 rfl (lv_at hl 2 rfl) ?_
          refine lv_iload C0.1 C0.2.1 dX7_after_137 (lv_at hl 5 rfl) ?_
          refine hv_iast C0 w hV10 (hn_in hj1 (by decide)) dX7_after_139 (fun Hq lq w => ?_)
          have hc14 : (nI j1).toNatClampNeg = j1 := nI_clamp (by omega)
          rw [hc14] at w
          obtain ⟨V15, eV16⟩ : ∃ W9, W9 = hv_up V3 (mo + 2) (.inl (X.2.1 0, 6, .inl (upd (upd (fun j => nI (σ.1.1.2.1 j)) j1 (nI T.2.1)) j1 (nI (σ.1.1.2.1 j1))))) := ⟨_, rfl⟩
          have w : hv_w X s V15 Hq lq := by rw [eV16]; exact w
          have hV17 : V15 mo = some (.inr (7, [.ref (mo + 1), .ref (mo + 2), .ref (mo + 3), .long ab, .long be, .ref (mo + 10), .int (nI σ.2.2.1.1), .int pl, .int cl, .ref (mo + 11), .ref (mo + 12), .ref (mo + 13), .int sg, .ref (mo + 14), .ref (mo + 15), .ref (mo + 16), .ref (mo + 17), .int (nI σ.1.2.1.1), .ref (mo + 18), .ref (mo + 19), .int (nI σ.1.2.2.1.1), .ref (mo + 20), .ref (mo + 21), .ref (mo + 22), .int (nI σ.1.2.2.2.1), .int ik, .ref (mo + 23), .ref (mo + 24), .ref (mo + 25), .ref (mo + 26), .ref (mo + 33), .ref (mo + 41), .ref (mo + 42), .ref (mo + 43)])) := by rw [eV16, hv_un (by omega)]; exact hV5
          have hV18 : V15 (mo + 3) = some (.inl (X.2.1 6, 6, .inr (.inr (.inr (.inr rf))))) := by rw [eV16, hv_un (by omega)]; exact hV6
          have hV19 : V15 (mo + 18) = some (.inl (X.2.1 0, 8, .inl ef)) := by rw [eV16, hv_un (by omega)]; exact hV7
          have hV20 : V15 (mo + 19) = some (.inl (X.2.1 0, 8, .inl eg)) := by rw [eV16, hv_un (by omega)]; exact hV8
          have hV22 : V15 (mo + 4 + j1) = some (.inl (X.2.1 0, 16, .inl T.2.2)) := by rw [eV16, hv_un (by omega)]; exact hV11
          have hV23 : V15 (mo + 20) = some (.inl (X.2.1 0, 16, .inl (σ.1.1.2.2 j1))) := by rw [eV16, hv_un (by omega)]; exact hV12
          have hV24 : V15 (mo + 1) = some (.inl (X.2.1 0, 6, .inl (upd (upd σ.1.1.1 j1 T.1) j1 (σ.1.1.1 j1)))) := by rw [eV16, hv_un (by omega)]; exact hV13
          have hV25 : V15 (mo + 2) = some (.inl (X.2.1 0, 6, .inl (upd (upd (fun j => nI (σ.1.1.2.1 j)) j1 (nI T.2.1)) j1 (nI (σ.1.1.2.1 j1))))) := by rw [eV16]; exact hv_us
          refine lv_aload_n C0.1 C0.2.1 dX7_after_140 rfl (lv_at hl 1 rfl) ?_
          refine gf_X7_54 C0 w hV17 rfl dX7_after_141 ?_
          refine lv_iconst (v := 0) C0.1 C0.2.1 dX7_after_144 (by decide) ?_
          refine lv_aload_n C0.1 C0.2.1 dX7_after_145 rfl (lv_at hl 1 rfl) ?_
          refine gf_X7_20 C0 w hV17 rfl dX7_after_146 ?_
          refine lv_iload_n C0.1 C0.2.1 dX7_after_149 rfl (lv_at hl 2 rfl) ?_
          refine hv_aalA 6 rfl C0 w rfl hV18 (hn_in hj1 (by decide)) (by rw [kj1]; exact r4 j1 hj1) dX7_after_150 ?_
          refine lv_iconst (v := 0) C0.1 C0.2.1 dX7_after_151 (by decide) ?_
          refine lv_bipush (v := 16) C0.1 C0.2.1 dX7_after_152 (by decide) ?_
          refine hv_copyi C0 w hl.1 kj_X7_148 hV23 hV22 (by decide) (by decide) (by decide) (by decide) (by decide) (by decide) (Nat.le_of_ble_eq_true rfl) dX7_after_154 (fun Hq lq w => ?_)
          have w := hv_w.as (a := mo + 4 + j1) (n := 16) (f := va_cpy (σ.1.1.2.2 j1) T.2.2 0 0 16) (g := (σ.1.1.2.2 j1)) w hv_us (fun i9 hi9 => by simp [va_cpy, hi9])
          rw [hv_uu] at w
          obtain ⟨V26, eV27⟩ : ∃ W9, W9 = hv_up V15 (mo + 4 + j1) (.inl (X.2.1 0, 16, .inl (σ.1.1.2.2 j1))) := ⟨_, rfl⟩
          have w : hv_w X s V26 Hq lq := by rw [eV27]; exact w
          have hV28 : V26 mo = some (.inr (7, [.ref (mo + 1), .ref (mo + 2), .ref (mo + 3), .long ab, .long be, .ref (mo + 10), .int (nI σ.2.2.1.1), .int pl, .int cl, .ref (mo + 11), .ref (mo + 12), .ref (mo + 13), .int sg, .ref (mo + 14), .ref (mo + 15), .ref (mo + 16), .ref (mo + 17), .int (nI σ.1.2.1.1), .ref (mo + 18), .ref (mo + 19), .int (nI σ.1.2.2.1.1), .ref (mo + 20), .ref (mo + 21), .ref (mo + 22), .int (nI σ.1.2.2.2.1), .int ik, .ref (mo + 23), .ref (mo + 24), .ref (mo + 25), .ref (mo + 26), .ref (mo + 33), .ref (mo + 41), .ref (mo + 42), .ref (mo + 43)])) := by rw [eV27, hv_un (by omega)]; exact hV17
          have hV29 : V26 (mo + 3) = some (.inl (X.2.1 6, 6, .inr (.inr (.inr (.inr rf))))) := by rw [eV27, hv_un (by omega)]; exact hV18
          have hV30 : V26 (mo + 18) = some (.inl (X.2.1 0, 8, .inl ef)) := by rw [eV27, hv_un (by omega)]; exact hV19
          have hV31 : V26 (mo + 19) = some (.inl (X.2.1 0, 8, .inl eg)) := by rw [eV27, hv_un (by omega)]; exact hV20
          have hV33 : V26 (mo + 20) = some (.inl (X.2.1 0, 16, .inl (σ.1.1.2.2 j1))) := by rw [eV27, hv_un (by omega)]; exact hV23
          have hV34 : V26 (mo + 1) = some (.inl (X.2.1 0, 6, .inl (upd (upd σ.1.1.1 j1 T.1) j1 (σ.1.1.1 j1)))) := by rw [eV27, hv_un (by omega)]; exact hV24
          have hV35 : V26 (mo + 2) = some (.inl (X.2.1 0, 6, .inl (upd (upd (fun j => nI (σ.1.1.2.1 j)) j1 (nI T.2.1)) j1 (nI (σ.1.1.2.1 j1))))) := by rw [eV27, hv_un (by omega)]; exact hV25
          have hV36 : V26 (mo + 4 + j1) = some (.inl (X.2.1 0, 16, .inl (σ.1.1.2.2 j1))) := by rw [eV27]; exact hv_us
          refine lv_iload C0.1 C0.2.1 dX7_after_157 (lv_at hl 0 rfl) ?_
          exact hv_iret C0 w hr hlk (by rw [hsp, ← he, if_neg c_92, if_neg c_106]; exact ⟨rfl, by have h9 := om_rows.set (V1 := V26) hRw (kd := σ.1.1.1 j1) (n := σ.1.1.2.1 j1) (f := σ.1.1.2.2 j1) hj1 (by rw [eV27, hv_un (by omega), eV16, hv_un (by omega), eV4]; exact (hv_us.trans (by rw [hs_updd]))) (by rw [eV27, hv_un (by omega), eV16]; exact (hv_us.trans (by rw [hs_updd]))) (by rw [eV27]; exact hv_us) (by rw [eV27, hv_un (by omega), eV16, hv_un (by omega), eV4, hv_un (by omega), e8, hv_un (by omega), hv_un (by omega), hv_un (by omega), hv_un (by omega)]) (fun i9 hi9 hne9 => by rw [eV27, hv_un (by omega), eV16, hv_un (by omega), eV4, hv_un (by omega), e8, hv_un (by omega), hv_un (by omega), hv_un (by omega), hv_un (by omega)]); rw [hs_id, hs_id, hs_id] at h9; exact ⟨ab, be, pl, cl, sg, ik, ((by rw [eV27, hv_un (by omega), eV16, hv_un (by omega), eV4, hv_un (by omega), e8, hv_un (by omega), hv_un (by omega), hv_un (by omega), hv_un (by omega)] : _ = V mo).trans hO), h9, (by rw [eV27, hv_un (by omega), eV16, hv_un (by omega), eV4, hv_un (by omega), e8, hv_un (by omega), hv_un (by omega), hv_un (by omega), hv_un (by omega)] : _ = V (mo + 10)).trans hTx, ⟨⟨wd, (by rw [eV27, hv_un (by omega), eV16, hv_un (by omega), eV4, hv_un (by omega), e8, hv_un (by omega), hv_un (by omega), hv_un (by omega), hv_un (by omega)] : _ = V (mo + 11)).trans s1⟩, ⟨td, (by rw [eV27, hv_un (by omega), eV16, hv_un (by omega), eV4, hv_un (by omega), e8, hv_un (by omega), hv_un (by omega), hv_un (by omega), hv_un (by omega)] : _ = V (mo + 12)).trans s2⟩, ⟨sn, (by rw [eV27, hv_un (by omega), eV16, hv_un (by omega), eV4, hv_un (by omega), e8, hv_un (by omega), hv_un (by omega), hv_un (by omega), hv_un (by omega)] : _ = V (mo + 13)).trans s3⟩, ⟨ut, (by rw [eV27, hv_un (by omega), eV16, hv_un (by omega), eV4, hv_un (by omega), e8, hv_un (by omega), hv_un (by omega), hv_un (by omega), hv_un (by omega)] : _ = V (mo + 14)).trans s4⟩, _, by rw [eV27, hv_un (by omega), eV16, hv_un (by omega), eV4, hv_un (by omega), e8, hv_un (by omega), hv_un (by omega), hv_un (by omega)]; exact hv_us⟩, hSe.fr (fun q h7 h8 => by rw [eV27, hv_un (by omega), eV16, hv_un (by omega), eV4, hv_un (by omega), e8, hv_un (by omega), hv_un (by omega), hv_un (by omega), hv_un (by omega)]), hEv.fr (by rw [eV27, hv_un (by omega), eV16, hv_un (by omega), eV4, hv_un (by omega), e8, hv_un (by omega), hv_un (by omega), hv_un (by omega), hv_un (by omega)]) (by rw [eV27, hv_un (by omega), eV16, hv_un (by omega), eV4, hv_un (by omega), e8, hv_un (by omega), hv_un (by omega), hv_un (by omega), hv_un (by omega)]), hBk.fr (by rw [eV27, hv_un (by omega), eV16, hv_un (by omega), eV4, hv_un (by omega), e8, hv_un (by omega), hv_un (by omega), hv_un (by omega), hv_un (by omega)]) (by rw [eV27, hv_un (by omega), eV16, hv_un (by omega), eV4, hv_un (by omega), e8, hv_un (by omega), hv_un (by omega), hv_un (by omega), hv_un (by omega)]), hIm.fr (fun q h7 h8 => by rw [eV27, hv_un (by omega), eV16, hv_un (by omega), eV4, hv_un (by omega), e8, hv_un (by omega), hv_un (by omega), hv_un (by omega), hv_un (by omega)]), hTp.fr (fun q h7 h8 => by rw [eV27, hv_un (by omega), eV16, hv_un (by omega), eV4, hv_un (by omega), e8, hv_un (by omega), hv_un (by omega), hv_un (by omega), hv_un (by omega)])⟩, (fun q h7 => by rw [eV27, hv_un (by omega), eV16, hv_un (by omega), eV4, hv_un (by omega), e8, hv_un (by omega), hv_un (by omega), hv_un (by omega), hv_un (by omega)])⟩) dX7_after_159
        · skip
          refine lv_aload_n C0.1 C0.2.1 dX7_after_109 rfl (lv_at hl 0 rfl) ?_
          refine lv_iload_n C0.1 C0.2.1 dX7_after_110 rfl (lv_at hl 1 rfl) ?_
          refine hv_cVi C0 w kl_X7_237 kv_X7_flaw rfl hOv (c_X7_flaw (j := j1) (n := T.2.1) hOv q1 q2 (hs_uself _ _ _) r3v (r4 j1 hj1) hj1 q4 hT) (by decide) (by decide) rfl hl.1 rfl (Nat.le_of_ble_eq_true rfl) dX7_after_111 ⟨Nat.le_refl _, Nat.le_refl _⟩ (fun x37 V38 Hq lq hp39 w => ?_)
          obtain ⟨e9, e8x⟩ := hp39
          rw [e9] at w; rw [e8x, hs_uself]; clear e9 e8x
          refine lv_goto (tgt := 123) C0.1 C0.2.1 dX7_after_114 (by decide) ?_
          refine lv_istore (lv' := [(5, .int (sp_flaw T.1 T.2.1 T.2.2)), (0, .ref mo), (1, .int (nI j1)), (2, .int k), (3, .int (σ.1.1.1 j1)), (4, .int (nI (σ.1.1.2.1 j1)))]) C0.1 C0.2.1 dX7_after_123 hl (by decide) rfl (fun ls hl => ?_)
          refine lv_aload_n C0.1 C0.2.1 dX7_after_125 rfl (lv_at hl 1 rfl) ?_
          refine gf_X7_11 C0 w hOv rfl dX7_after_126 ?_
          refine lv_iload_n C0.1 C0.2.1 dX7_after_129 rfl (lv_at hl 2 rfl) ?_
          refine lv_iload_n C0.1 C0.2.1 dX7_after_130 rfl (lv_at hl 4 rfl) ?_
          refine hv_iast C0 w q1 (hn_in hj1 (by decide)) dX7_after_131 (fun Hq lq w => ?_)
          have hc40 : (nI j1).toNatClampNeg = j1 := nI_clamp (by omega)
          rw [hc40] at w
          obtain ⟨V41, eV42⟩ : ∃ W9, W9 = hv_up V8 (mo + 1) (.inl (X.2.1 0, 6, .inl (upd (upd σ.1.1.1 j1 T.1) j1 (σ.1.1.1 j1)))) := ⟨_, rfl⟩
          have w : hv_w X s V41 Hq lq := by rw [eV42]; exact w
          have hV43 : V41 mo = some (.inr (7, [.ref (mo + 1), .ref (mo + 2), .ref (mo + 3), .long ab, .long be, .ref (mo + 10), .int (nI σ.2.2.1.1), .int pl, .int cl, .ref (mo + 11), .ref (mo + 12), .ref (mo + 13), .int sg, .ref (mo + 14), .ref (mo + 15), .ref (mo + 16), .ref (mo + 17), .int (nI σ.1.2.1.1), .ref (mo + 18), .ref (mo + 19), .int (nI σ.1.2.2.1.1), .ref (mo + 20), .ref (mo + 21), .ref (mo + 22), .int (nI σ.1.2.2.2.1), .int ik, .ref (mo + 23), .ref (mo + 24), .ref (mo + 25), .ref (mo + 26), .ref (mo + 33), .ref (mo + 41), .ref (mo + 42), .ref (mo + 43)])) := by rw [eV42, hv_un (by omega)]; exact hOv
          have hV44 : V41 (mo + 3) = some (.inl (X.2.1 6, 6, .inr (.inr (.inr (.inr rf))))) := by rw [eV42, hv_un (by omega)]; exact r3v
          have hV45 : V41 (mo + 18) = some (.inl (X.2.1 0, 8, .inl ef)) := by rw [eV42, hv_un (by omega)]; exact v1v
          have hV46 : V41 (mo + 19) = some (.inl (X.2.1 0, 8, .inl eg)) := by rw [eV42, hv_un (by omega)]; exact v2v
          have hV48 : V41 (mo + 2) = some (.inl (X.2.1 0, 6, .inl (upd (fun j => nI (σ.1.1.2.1 j)) j1 (nI T.2.1)))) := by rw [eV42, hv_un (by omega)]; exact q2
          have hV49 : V41 (mo + 4 + j1) = some (.inl (X.2.1 0, 16, .inl T.2.2)) := by rw [eV42, hv_un (by omega)]; exact q4
          have hV50 : V41 (mo + 20) = some (.inl (X.2.1 0, 16, .inl (σ.1.1.2.2 j1))) := by rw [eV42, hv_un (by omega)]; exact q20
          have hV51 : V41 (mo + 1) = some (.inl (X.2.1 0, 6, .inl (upd (upd σ.1.1.1 j1 T.1) j1 (σ.1.1.1 j1)))) := by rw [eV42]; exact hv_us
          refine lv_aload_n C0.1 C0.2.1 dX7_after_132 rfl (lv_at hl 1 rfl) ?_
          refine gf_X7_15 C0 w hV43 rfl dX7_after_133 ?_
          refine lv_iload_n C0.1 C0.2.1 dX7_after_136 rfl (lv_at hl 2 rfl) ?_
          refine lv_iload C0.1 C0.2.1 dX7_after_137 (lv_at hl 5 rfl) ?_
          refine hv_iast C0 w hV48 (hn_in hj1 (by decide)) dX7_after_139 (fun Hq lq w => ?_)
          have hc52 : (nI j1).toNatClampNeg = j1 := nI_clamp (by omega)
          rw [hc52] at w
          obtain ⟨V53, eV54⟩ : ∃ W9, W9 = hv_up V41 (mo + 2) (.inl (X.2.1 0, 6, .inl (upd (upd (fun j => nI (σ.1.1.2.1 j)) j1 (nI T.2.1)) j1 (nI (σ.1.1.2.1 j1))))) := ⟨_, rfl⟩
          have w : hv_w X s V53 Hq lq := by rw [eV54]; exact w
          have hV55 : V53 mo = some (.inr (7, [.ref (mo + 1), .ref (mo + 2), .ref (mo + 3), .long ab, .long be, .ref (mo + 10), .int (nI σ.2.2.1.1), .int pl, .int cl, .ref (mo + 11), .ref (mo + 12), .ref (mo + 13), .int sg, .ref (mo + 14), .ref (mo + 15), .ref (mo + 16), .ref (mo + 17), .int (nI σ.1.2.1.1), .ref (mo + 18), .ref (mo + 19), .int (nI σ.1.2.2.1.1), .ref (mo + 20), .ref (mo + 21), .ref (mo + 22), .int (nI σ.1.2.2.2.1), .int ik, .ref (mo + 23), .ref (mo + 24), .ref (mo + 25), .ref (mo + 26), .ref (mo + 33), .ref (mo + 41), .ref (mo + 42), .ref (mo + 43)])) := by rw [eV54, hv_un (by omega)]; exact hV43
          have hV56 : V53 (mo + 3) = some (.inl (X.2.1 6, 6, .inr (.inr (.inr (.inr rf))))) := by rw [eV54, hv_un (by omega)]; exact hV44
          have hV57 : V53 (mo + 18) = some (.inl (X.2.1 0, 8, .inl ef)) := by rw [eV54, hv_un (by omega)]; exact hV45
          have hV58 : V53 (mo + 19) = some (.inl (X.2.1 0, 8, .inl eg)) := by rw [eV54, hv_un (by omega)]; exact hV46
          have hV60 : V53 (mo + 4 + j1) = some (.inl (X.2.1 0, 16, .inl T.2.2)) := by rw [eV54, hv_un (by omega)]; exact hV49
          have hV61 : V53 (mo + 20) = some (.inl (X.2.1 0, 16, .inl (σ.1.1.2.2 j1))) := by rw [eV54, hv_un (by omega)]; exact hV50
          have hV62 : V53 (mo + 1) = some (.inl (X.2.1 0, 6, .inl (upd (upd σ.1.1.1 j1 T.1) j1 (σ.1.1.1 j1)))) := by rw [eV54, hv_un (by omega)]; exact hV51
          have hV63 : V53 (mo + 2) = some (.inl (X.2.1 0, 6, .inl (upd (upd (fun j => nI (σ.1.1.2.1 j)) j1 (nI T.2.1)) j1 (nI (σ.1.1.2.1 j1))))) := by rw [eV54]; exact hv_us
          refine lv_aload_n C0.1 C0.2.1 dX7_after_140 rfl (lv_at hl 1 rfl) ?_
          refine gf_X7_54 C0 w hV55 rfl dX7_after_141 ?_
          refine lv_iconst (v := 0) C0.1 C0.2.1 dX7_after_144 (by decide) ?_
          refine lv_aload_n C0.1 C0.2.1 dX7_after_145 rfl (lv_at hl 1 rfl) ?_
          refine gf_X7_20 C0 w hV55 rfl dX7_after_146 ?_
          refine lv_iload_n C0.1 C0.2.1 dX7_after_149 rfl (lv_at hl 2 rfl) ?_
          refine hv_aalA 6 rfl C0 w rfl hV56 (hn_in hj1 (by decide)) (by rw [kj1]; exact r4 j1 hj1) dX7_after_150 ?_
          refine lv_iconst (v := 0) C0.1 C0.2.1 dX7_after_151 (by decide) ?_
          refine lv_bipush (v := 16) C0.1 C0.2.1 dX7_after_152 (by decide) ?_
          refine hv_copyi C0 w hl.1 kj_X7_148 hV61 hV60 (by decide) (by decide) (by decide) (by decide) (by decide) (by decide) (Nat.le_of_ble_eq_true rfl) dX7_after_154 (fun Hq lq w => ?_)
          have w := hv_w.as (a := mo + 4 + j1) (n := 16) (f := va_cpy (σ.1.1.2.2 j1) T.2.2 0 0 16) (g := (σ.1.1.2.2 j1)) w hv_us (fun i9 hi9 => by simp [va_cpy, hi9])
          rw [hv_uu] at w
          obtain ⟨V64, eV65⟩ : ∃ W9, W9 = hv_up V53 (mo + 4 + j1) (.inl (X.2.1 0, 16, .inl (σ.1.1.2.2 j1))) := ⟨_, rfl⟩
          have w : hv_w X s V64 Hq lq := by rw [eV65]; exact w
          have hV66 : V64 mo = some (.inr (7, [.ref (mo + 1), .ref (mo + 2), .ref (mo + 3), .long ab, .long be, .ref (mo + 10), .int (nI σ.2.2.1.1), .int pl, .int cl, .ref (mo + 11), .ref (mo + 12), .ref (mo + 13), .int sg, .ref (mo + 14), .ref (mo + 15), .ref (mo + 16), .ref (mo + 17), .int (nI σ.1.2.1.1), .ref (mo + 18), .ref (mo + 19), .int (nI σ.1.2.2.1.1), .ref (mo + 20), .ref (mo + 21), .ref (mo + 22), .int (nI σ.1.2.2.2.1), .int ik, .ref (mo + 23), .ref (mo + 24), .ref (mo + 25), .ref (mo + 26), .ref (mo + 33), .ref (mo + 41), .ref (mo + 42), .ref (mo + 43)])) := by rw [eV65, hv_un (by omega)]; exact hV55
          have hV67 : V64 (mo + 3) = some (.inl (X.2.1 6, 6, .inr (.inr (.inr (.inr rf))))) := by rw [eV65, hv_un (by omega)]; exact hV56
          have hV68 : V64 (mo + 18) = some (.inl (X.2.1 0, 8, .inl ef)) := by rw [eV65, hv_un (by omega)]; exact hV57
          have hV69 : V64 (mo + 19) = some (.inl (X.2.1 0, 8, .inl eg)) := by rw [eV65, hv_un (by omega)]; exact hV58
          have hV71 : V64 (mo + 20) = some (.inl (X.2.1 0, 16, .inl (σ.1.1.2.2 j1))) := by rw [eV65, hv_un (by omega)]; exact hV61
          have hV72 : V64 (mo + 1) = some (.inl (X.2.1 0, 6, .inl (upd (upd σ.1.1.1 j1 T.1) j1 (σ.1.1.1 j1)))) := by rw [eV65, hv_un (by omega)]; exact hV62
          have hV73 : V64 (mo + 2) = some (.inl (X.2.1 0, 6, .inl (upd (upd (fun j => nI (σ.1.1.2.1 j)) j1 (nI T.2.1)) j1 (nI (σ.1.1.2.1 j1))))) := by rw [eV65, hv_un (by omega)]; exact hV63
          have hV74 : V64 (mo + 4 + j1) = some (.inl (X.2.1 0, 16, .inl (σ.1.1.2.2 j1))) := by rw [eV65]; exact hv_us
          refine lv_iload C0.1 C0.2.1 dX7_after_157 (lv_at hl 0 rfl) ?_
          exact hv_iret C0 w hr hlk (by rw [hsp, ← he, if_neg c_92, if_pos c_106]; exact ⟨rfl, by have h9 := om_rows.set (V1 := V64) hRw (kd := σ.1.1.1 j1) (n := σ.1.1.2.1 j1) (f := σ.1.1.2.2 j1) hj1 (by rw [eV65, hv_un (by omega), eV54, hv_un (by omega), eV42]; exact (hv_us.trans (by rw [hs_updd]))) (by rw [eV65, hv_un (by omega), eV54]; exact (hv_us.trans (by rw [hs_updd]))) (by rw [eV65]; exact hv_us) (by rw [eV65, hv_un (by omega), eV54, hv_un (by omega), eV42, hv_un (by omega), e8, hv_un (by omega), hv_un (by omega), hv_un (by omega), hv_un (by omega)]) (fun i9 hi9 hne9 => by rw [eV65, hv_un (by omega), eV54, hv_un (by omega), eV42, hv_un (by omega), e8, hv_un (by omega), hv_un (by omega), hv_un (by omega), hv_un (by omega)]); rw [hs_id, hs_id, hs_id] at h9; exact ⟨ab, be, pl, cl, sg, ik, ((by rw [eV65, hv_un (by omega), eV54, hv_un (by omega), eV42, hv_un (by omega), e8, hv_un (by omega), hv_un (by omega), hv_un (by omega), hv_un (by omega)] : _ = V mo).trans hO), h9, (by rw [eV65, hv_un (by omega), eV54, hv_un (by omega), eV42, hv_un (by omega), e8, hv_un (by omega), hv_un (by omega), hv_un (by omega), hv_un (by omega)] : _ = V (mo + 10)).trans hTx, ⟨⟨wd, (by rw [eV65, hv_un (by omega), eV54, hv_un (by omega), eV42, hv_un (by omega), e8, hv_un (by omega), hv_un (by omega), hv_un (by omega), hv_un (by omega)] : _ = V (mo + 11)).trans s1⟩, ⟨td, (by rw [eV65, hv_un (by omega), eV54, hv_un (by omega), eV42, hv_un (by omega), e8, hv_un (by omega), hv_un (by omega), hv_un (by omega), hv_un (by omega)] : _ = V (mo + 12)).trans s2⟩, ⟨sn, (by rw [eV65, hv_un (by omega), eV54, hv_un (by omega), eV42, hv_un (by omega), e8, hv_un (by omega), hv_un (by omega), hv_un (by omega), hv_un (by omega)] : _ = V (mo + 13)).trans s3⟩, ⟨ut, (by rw [eV65, hv_un (by omega), eV54, hv_un (by omega), eV42, hv_un (by omega), e8, hv_un (by omega), hv_un (by omega), hv_un (by omega), hv_un (by omega)] : _ = V (mo + 14)).trans s4⟩, _, by rw [eV65, hv_un (by omega), eV54, hv_un (by omega), eV42, hv_un (by omega), e8, hv_un (by omega), hv_un (by omega), hv_un (by omega)]; exact hv_us⟩, hSe.fr (fun q h7 h8 => by rw [eV65, hv_un (by omega), eV54, hv_un (by omega), eV42, hv_un (by omega), e8, hv_un (by omega), hv_un (by omega), hv_un (by omega), hv_un (by omega)]), hEv.fr (by rw [eV65, hv_un (by omega), eV54, hv_un (by omega), eV42, hv_un (by omega), e8, hv_un (by omega), hv_un (by omega), hv_un (by omega), hv_un (by omega)]) (by rw [eV65, hv_un (by omega), eV54, hv_un (by omega), eV42, hv_un (by omega), e8, hv_un (by omega), hv_un (by omega), hv_un (by omega), hv_un (by omega)]), hBk.fr (by rw [eV65, hv_un (by omega), eV54, hv_un (by omega), eV42, hv_un (by omega), e8, hv_un (by omega), hv_un (by omega), hv_un (by omega), hv_un (by omega)]) (by rw [eV65, hv_un (by omega), eV54, hv_un (by omega), eV42, hv_un (by omega), e8, hv_un (by omega), hv_un (by omega), hv_un (by omega), hv_un (by omega)]), hIm.fr (fun q h7 h8 => by rw [eV65, hv_un (by omega), eV54, hv_un (by omega), eV42, hv_un (by omega), e8, hv_un (by omega), hv_un (by omega), hv_un (by omega), hv_un (by omega)]), hTp.fr (fun q h7 h8 => by rw [eV65, hv_un (by omega), eV54, hv_un (by omega), eV42, hv_un (by omega), e8, hv_un (by omega), hv_un (by omega), hv_un (by omega), hv_un (by omega)])⟩, (fun q h7 => by rw [eV65, hv_un (by omega), eV54, hv_un (by omega), eV42, hv_un (by omega), e8, hv_un (by omega), hv_un (by omega), hv_un (by omega), hv_un (by omega)])⟩) dX7_after_159
      · skip
        refine lv_aload_n C0.1 C0.2.1 dX7_after_95 rfl (lv_at hl 0 rfl) ?_
        refine gf_X7_15 C0 w hOv rfl dX7_after_96 ?_
        refine lv_iload_n C0.1 C0.2.1 dX7_after_99 rfl (lv_at hl 1 rfl) ?_
        refine hv_iald C0 w q2 (hn_in hj1 (by decide)) dX7_after_100 ?_
        have hc75 : (nI j1).toNatClampNeg = j1 := nI_clamp (by omega)
        rw [hc75]
        rw [hs_uself]
        refine lv_goto (tgt := 123) C0.1 C0.2.1 dX7_after_101 (by decide) ?_
        refine lv_istore (lv' := [(5, .int (nI T.2.1)), (0, .ref mo), (1, .int (nI j1)), (2, .int k), (3, .int (σ.1.1.1 j1)), (4, .int (nI (σ.1.1.2.1 j1)))]) C0.1 C0.2.1 dX7_after_123 hl (by decide) rfl (fun ls hl => ?_)
        refine lv_aload_n C0.1 C0.2.1 dX7_after_125 rfl (lv_at hl 1 rfl) ?_
        refine gf_X7_11 C0 w hOv rfl dX7_after_126 ?_
        refine lv_iload_n C0.1 C0.2.1 dX7_after_129 rfl (lv_at hl 2 rfl) ?_
        refine lv_iload_n C0.1 C0.2.1 dX7_after_130 rfl (lv_at hl 4 rfl) ?_
        refine hv_iast C0 w q1 (hn_in hj1 (by decide)) dX7_after_131 (fun Hq lq w => ?_)
        have hc76 : (nI j1).toNatClampNeg = j1 := nI_clamp (by omega)
        rw [hc76] at w
        obtain ⟨V77, eV78⟩ : ∃ W9, W9 = hv_up V8 (mo + 1) (.inl (X.2.1 0, 6, .inl (upd (upd σ.1.1.1 j1 T.1) j1 (σ.1.1.1 j1)))) := ⟨_, rfl⟩
        have w : hv_w X s V77 Hq lq := by rw [eV78]; exact w
        have hV79 : V77 mo = some (.inr (7, [.ref (mo + 1), .ref (mo + 2), .ref (mo + 3), .long ab, .long be, .ref (mo + 10), .int (nI σ.2.2.1.1), .int pl, .int cl, .ref (mo + 11), .ref (mo + 12), .ref (mo + 13), .int sg, .ref (mo + 14), .ref (mo + 15), .ref (mo + 16), .ref (mo + 17), .int (nI σ.1.2.1.1), .ref (mo + 18), .ref (mo + 19), .int (nI σ.1.2.2.1.1), .ref (mo + 20), .ref (mo + 21), .ref (mo + 22), .int (nI σ.1.2.2.2.1), .int ik, .ref (mo + 23), .ref (mo + 24), .ref (mo + 25), .ref (mo + 26), .ref (mo + 33), .ref (mo + 41), .ref (mo + 42), .ref (mo + 43)])) := by rw [eV78, hv_un (by omega)]; exact hOv
        have hV80 : V77 (mo + 3) = some (.inl (X.2.1 6, 6, .inr (.inr (.inr (.inr rf))))) := by rw [eV78, hv_un (by omega)]; exact r3v
        have hV81 : V77 (mo + 18) = some (.inl (X.2.1 0, 8, .inl ef)) := by rw [eV78, hv_un (by omega)]; exact v1v
        have hV82 : V77 (mo + 19) = some (.inl (X.2.1 0, 8, .inl eg)) := by rw [eV78, hv_un (by omega)]; exact v2v
        have hV84 : V77 (mo + 2) = some (.inl (X.2.1 0, 6, .inl (upd (fun j => nI (σ.1.1.2.1 j)) j1 (nI T.2.1)))) := by rw [eV78, hv_un (by omega)]; exact q2
        have hV85 : V77 (mo + 4 + j1) = some (.inl (X.2.1 0, 16, .inl T.2.2)) := by rw [eV78, hv_un (by omega)]; exact q4
        have hV86 : V77 (mo + 20) = some (.inl (X.2.1 0, 16, .inl (σ.1.1.2.2 j1))) := by rw [eV78, hv_un (by omega)]; exact q20
        have hV87 : V77 (mo + 1) = some (.inl (X.2.1 0, 6, .inl (upd (upd σ.1.1.1 j1 T.1) j1 (σ.1.1.1 j1)))) := by rw [eV78]; exact hv_us
        refine lv_aload_n C0.1 C0.2.1 dX7_after_132 rfl (lv_at hl 1 rfl) ?_
        refine gf_X7_15 C0 w hV79 rfl dX7_after_133 ?_
        refine lv_iload_n C0.1 C0.2.1 dX7_after_136 rfl (lv_at hl 2 rfl) ?_
        refine lv_iload C0.1 C0.2.1 dX7_after_137 (lv_at hl 5 rfl) ?_
        refine hv_iast C0 w hV84 (hn_in hj1 (by decide)) dX7_after_139 (fun Hq lq w => ?_)
        have hc88 : (nI j1).toNatClampNeg = j1 := nI_clamp (by omega)
        rw [hc88] at w
        obtain ⟨V89, eV90⟩ : ∃ W9, W9 = hv_up V77 (mo + 2) (.inl (X.2.1 0, 6, .inl (upd (upd (fun j => nI (σ.1.1.2.1 j)) j1 (nI T.2.1)) j1 (nI (σ.1.1.2.1 j1))))) := ⟨_, rfl⟩
        have w : hv_w X s V89 Hq lq := by rw [eV90]; exact w
        have hV91 : V89 mo = some (.inr (7, [.ref (mo + 1), .ref (mo + 2), .ref (mo + 3), .long ab, .long be, .ref (mo + 10), .int (nI σ.2.2.1.1), .int pl, .int cl, .ref (mo + 11), .ref (mo + 12), .ref (mo + 13), .int sg, .ref (mo + 14), .ref (mo + 15), .ref (mo + 16), .ref (mo + 17), .int (nI σ.1.2.1.1), .ref (mo + 18), .ref (mo + 19), .int (nI σ.1.2.2.1.1), .ref (mo + 20), .ref (mo + 21), .ref (mo + 22), .int (nI σ.1.2.2.2.1), .int ik, .ref (mo + 23), .ref (mo + 24), .ref (mo + 25), .ref (mo + 26), .ref (mo + 33), .ref (mo + 41), .ref (mo + 42), .ref (mo + 43)])) := by rw [eV90, hv_un (by omega)]; exact hV79
        have hV92 : V89 (mo + 3) = some (.inl (X.2.1 6, 6, .inr (.inr (.inr (.inr rf))))) := by rw [eV90, hv_un (by omega)]; exact hV80
        have hV93 : V89 (mo + 18) = some (.inl (X.2.1 0, 8, .inl ef)) := by rw [eV90, hv_un (by omega)]; exact hV81
        have hV94 : V89 (mo + 19) = some (.inl (X.2.1 0, 8, .inl eg)) := by rw [eV90, hv_un (by omega)]; exact hV82
        have hV96 : V89 (mo + 4 + j1) = some (.inl (X.2.1 0, 16, .inl T.2.2)) := by rw [eV90, hv_un (by omega)]; exact hV85
        have hV97 : V89 (mo + 20) = some (.inl (X.2.1 0, 16, .inl (σ.1.1.2.2 j1))) := by rw [eV90, hv_un (by omega)]; exact hV86
        have hV98 : V89 (mo + 1) = some (.inl (X.2.1 0, 6, .inl (upd (upd σ.1.1.1 j1 T.1) j1 (σ.1.1.1 j1)))) := by rw [eV90, hv_un (by omega)]; exact hV87
        have hV99 : V89 (mo + 2) = some (.inl (X.2.1 0, 6, .inl (upd (upd (fun j => nI (σ.1.1.2.1 j)) j1 (nI T.2.1)) j1 (nI (σ.1.1.2.1 j1))))) := by rw [eV90]; exact hv_us
        refine lv_aload_n C0.1 C0.2.1 dX7_after_140 rfl (lv_at hl 1 rfl) ?_
        refine gf_X7_54 C0 w hV91 rfl dX7_after_141 ?_
        refine lv_iconst (v := 0) C0.1 C0.2.1 dX7_after_144 (by decide) ?_
        refine lv_aload_n C0.1 C0.2.1 dX7_after_145 rfl (lv_at hl 1 rfl) ?_
        refine gf_X7_20 C0 w hV91 rfl dX7_after_146 ?_
        refine lv_iload_n C0.1 C0.2.1 dX7_after_149 rfl (lv_at hl 2 rfl) ?_
        refine hv_aalA 6 rfl C0 w rfl hV92 (hn_in hj1 (by decide)) (by rw [kj1]; exact r4 j1 hj1) dX7_after_150 ?_
        refine lv_iconst (v := 0) C0.1 C0.2.1 dX7_after_151 (by decide) ?_
        refine lv_bipush (v := 16) C0.1 C0.2.1 dX7_after_152 (by decide) ?_
        refine hv_copyi C0 w hl.1 kj_X7_148 hV97 hV96 (by decide) (by decide) (by decide) (by decide) (by decide) (by decide) (Nat.le_of_ble_eq_true rfl) dX7_after_154 (fun Hq lq w => ?_)
        have w := hv_w.as (a := mo + 4 + j1) (n := 16) (f := va_cpy (σ.1.1.2.2 j1) T.2.2 0 0 16) (g := (σ.1.1.2.2 j1)) w hv_us (fun i9 hi9 => by simp [va_cpy, hi9])
        rw [hv_uu] at w
        obtain ⟨V100, eV101⟩ : ∃ W9, W9 = hv_up V89 (mo + 4 + j1) (.inl (X.2.1 0, 16, .inl (σ.1.1.2.2 j1))) := ⟨_, rfl⟩
        have w : hv_w X s V100 Hq lq := by rw [eV101]; exact w
        have hV102 : V100 mo = some (.inr (7, [.ref (mo + 1), .ref (mo + 2), .ref (mo + 3), .long ab, .long be, .ref (mo + 10), .int (nI σ.2.2.1.1), .int pl, .int cl, .ref (mo + 11), .ref (mo + 12), .ref (mo + 13), .int sg, .ref (mo + 14), .ref (mo + 15), .ref (mo + 16), .ref (mo + 17), .int (nI σ.1.2.1.1), .ref (mo + 18), .ref (mo + 19), .int (nI σ.1.2.2.1.1), .ref (mo + 20), .ref (mo + 21), .ref (mo + 22), .int (nI σ.1.2.2.2.1), .int ik, .ref (mo + 23), .ref (mo + 24), .ref (mo + 25), .ref (mo + 26), .ref (mo + 33), .ref (mo + 41), .ref (mo + 42), .ref (mo + 43)])) := by rw [eV101, hv_un (by omega)]; exact hV91
        have hV103 : V100 (mo + 3) = some (.inl (X.2.1 6, 6, .inr (.inr (.inr (.inr rf))))) := by rw [eV101, hv_un (by omega)]; exact hV92
        have hV104 : V100 (mo + 18) = some (.inl (X.2.1 0, 8, .inl ef)) := by rw [eV101, hv_un (by omega)]; exact hV93
        have hV105 : V100 (mo + 19) = some (.inl (X.2.1 0, 8, .inl eg)) := by rw [eV101, hv_un (by omega)]; exact hV94
        have hV107 : V100 (mo + 20) = some (.inl (X.2.1 0, 16, .inl (σ.1.1.2.2 j1))) := by rw [eV101, hv_un (by omega)]; exact hV97
        have hV108 : V100 (mo + 1) = some (.inl (X.2.1 0, 6, .inl (upd (upd σ.1.1.1 j1 T.1) j1 (σ.1.1.1 j1)))) := by rw [eV101, hv_un (by omega)]; exact hV98
        have hV109 : V100 (mo + 2) = some (.inl (X.2.1 0, 6, .inl (upd (upd (fun j => nI (σ.1.1.2.1 j)) j1 (nI T.2.1)) j1 (nI (σ.1.1.2.1 j1))))) := by rw [eV101, hv_un (by omega)]; exact hV99
        have hV110 : V100 (mo + 4 + j1) = some (.inl (X.2.1 0, 16, .inl (σ.1.1.2.2 j1))) := by rw [eV101]; exact hv_us
        refine lv_iload C0.1 C0.2.1 dX7_after_157 (lv_at hl 0 rfl) ?_
        exact hv_iret C0 w hr hlk (by rw [hsp, ← he, if_pos c_92]; exact ⟨rfl, by have h9 := om_rows.set (V1 := V100) hRw (kd := σ.1.1.1 j1) (n := σ.1.1.2.1 j1) (f := σ.1.1.2.2 j1) hj1 (by rw [eV101, hv_un (by omega), eV90, hv_un (by omega), eV78]; exact (hv_us.trans (by rw [hs_updd]))) (by rw [eV101, hv_un (by omega), eV90]; exact (hv_us.trans (by rw [hs_updd]))) (by rw [eV101]; exact hv_us) (by rw [eV101, hv_un (by omega), eV90, hv_un (by omega), eV78, hv_un (by omega), e8, hv_un (by omega), hv_un (by omega), hv_un (by omega), hv_un (by omega)]) (fun i9 hi9 hne9 => by rw [eV101, hv_un (by omega), eV90, hv_un (by omega), eV78, hv_un (by omega), e8, hv_un (by omega), hv_un (by omega), hv_un (by omega), hv_un (by omega)]); rw [hs_id, hs_id, hs_id] at h9; exact ⟨ab, be, pl, cl, sg, ik, ((by rw [eV101, hv_un (by omega), eV90, hv_un (by omega), eV78, hv_un (by omega), e8, hv_un (by omega), hv_un (by omega), hv_un (by omega), hv_un (by omega)] : _ = V mo).trans hO), h9, (by rw [eV101, hv_un (by omega), eV90, hv_un (by omega), eV78, hv_un (by omega), e8, hv_un (by omega), hv_un (by omega), hv_un (by omega), hv_un (by omega)] : _ = V (mo + 10)).trans hTx, ⟨⟨wd, (by rw [eV101, hv_un (by omega), eV90, hv_un (by omega), eV78, hv_un (by omega), e8, hv_un (by omega), hv_un (by omega), hv_un (by omega), hv_un (by omega)] : _ = V (mo + 11)).trans s1⟩, ⟨td, (by rw [eV101, hv_un (by omega), eV90, hv_un (by omega), eV78, hv_un (by omega), e8, hv_un (by omega), hv_un (by omega), hv_un (by omega), hv_un (by omega)] : _ = V (mo + 12)).trans s2⟩, ⟨sn, (by rw [eV101, hv_un (by omega), eV90, hv_un (by omega), eV78, hv_un (by omega), e8, hv_un (by omega), hv_un (by omega), hv_un (by omega), hv_un (by omega)] : _ = V (mo + 13)).trans s3⟩, ⟨ut, (by rw [eV101, hv_un (by omega), eV90, hv_un (by omega), eV78, hv_un (by omega), e8, hv_un (by omega), hv_un (by omega), hv_un (by omega), hv_un (by omega)] : _ = V (mo + 14)).trans s4⟩, _, by rw [eV101, hv_un (by omega), eV90, hv_un (by omega), eV78, hv_un (by omega), e8, hv_un (by omega), hv_un (by omega), hv_un (by omega)]; exact hv_us⟩, hSe.fr (fun q h7 h8 => by rw [eV101, hv_un (by omega), eV90, hv_un (by omega), eV78, hv_un (by omega), e8, hv_un (by omega), hv_un (by omega), hv_un (by omega), hv_un (by omega)]), hEv.fr (by rw [eV101, hv_un (by omega), eV90, hv_un (by omega), eV78, hv_un (by omega), e8, hv_un (by omega), hv_un (by omega), hv_un (by omega), hv_un (by omega)]) (by rw [eV101, hv_un (by omega), eV90, hv_un (by omega), eV78, hv_un (by omega), e8, hv_un (by omega), hv_un (by omega), hv_un (by omega), hv_un (by omega)]), hBk.fr (by rw [eV101, hv_un (by omega), eV90, hv_un (by omega), eV78, hv_un (by omega), e8, hv_un (by omega), hv_un (by omega), hv_un (by omega), hv_un (by omega)]) (by rw [eV101, hv_un (by omega), eV90, hv_un (by omega), eV78, hv_un (by omega), e8, hv_un (by omega), hv_un (by omega), hv_un (by omega), hv_un (by omega)]), hIm.fr (fun q h7 h8 => by rw [eV101, hv_un (by omega), eV90, hv_un (by omega), eV78, hv_un (by omega), e8, hv_un (by omega), hv_un (by omega), hv_un (by omega), hv_un (by omega)]), hTp.fr (fun q h7 h8 => by rw [eV101, hv_un (by omega), eV90, hv_un (by omega), eV78, hv_un (by omega), e8, hv_un (by omega), hv_un (by omega), hv_un (by omega), hv_un (by omega)])⟩, (fun q h7 => by rw [eV101, hv_un (by omega), eV90, hv_un (by omega), eV78, hv_un (by omega), e8, hv_un (by omega), hv_un (by omega), hv_un (by omega), hv_un (by omega)])⟩) dX7_after_159
    | succ m9 ih =>
      intro q T Hq lq ls hi hT he w hl
      obtain ⟨V8, e8⟩ : ∃ W9, W9 = hv_up (hv_up (hv_up (hv_up V (mo + 20) (nE X (σ.1.1.2.2 j1))) (mo + 1) (iE X 6 (upd σ.1.1.1 j1 T.1))) (mo + 2) (iE X 6 (upd (fun j => nI (σ.1.1.2.1 j)) j1 (nI T.2.1)))) (mo + 4 + j1) (nE X (T.2.2)) := ⟨_, rfl⟩
      rw [← e8] at w
      have hOv : V8 mo = some (.inr (7, [.ref (mo + 1), .ref (mo + 2), .ref (mo + 3), .long ab, .long be, .ref (mo + 10), .int (nI σ.2.2.1.1), .int pl, .int cl, .ref (mo + 11), .ref (mo + 12), .ref (mo + 13), .int sg, .ref (mo + 14), .ref (mo + 15), .ref (mo + 16), .ref (mo + 17), .int (nI σ.1.2.1.1), .ref (mo + 18), .ref (mo + 19), .int (nI σ.1.2.2.1.1), .ref (mo + 20), .ref (mo + 21), .ref (mo + 22), .int (nI σ.1.2.2.2.1), .int ik, .ref (mo + 23), .ref (mo + 24), .ref (mo + 25), .ref (mo + 26), .ref (mo + 33), .ref (mo + 41), .ref (mo + 42), .ref (mo + 43)])) := by rw [e8, hv_un (by omega), hv_un (by omega), hv_un (by omega), hv_un (by omega)]; exact hO
      have r3v : V8 (mo + 3) = some (.inl (X.2.1 6, 6, .inr (.inr (.inr (.inr rf))))) := by rw [e8, hv_un (by omega), hv_un (by omega), hv_un (by omega), hv_un (by omega)]; exact r3
      have v1v : V8 (mo + 18) = some (.inl (X.2.1 0, 8, .inl ef)) := by rw [e8, hv_un (by omega), hv_un (by omega), hv_un (by omega), hv_un (by omega)]; exact v1
      have v2v : V8 (mo + 19) = some (.inl (X.2.1 0, 8, .inl eg)) := by rw [e8, hv_un (by omega), hv_un (by omega), hv_un (by omega), hv_un (by omega)]; exact v2
      have q1 : V8 (mo + 1) = some (iE X 6 (upd σ.1.1.1 j1 T.1)) := by rw [e8, hv_un (by omega), hv_un (by omega)]; exact hv_us
      have q2 : V8 (mo + 2) = some (iE X 6 (upd (fun j => nI (σ.1.1.2.1 j)) j1 (nI T.2.1))) := by rw [e8, hv_un (by omega)]; exact hv_us
      have q4 : V8 (mo + 4 + j1) = some (nE X T.2.2) := by rw [e8]; exact hv_us
      have q20 : V8 (mo + 20) = some (nE X (σ.1.1.2.2 j1)) := by rw [e8, hv_un (by omega), hv_un (by omega), hv_un (by omega)]; exact hv_us
      refine lv_iload C0.1 C0.2.1 dX7_after_53 (lv_at hl 5 rfl) ?_
      refine lv_aload_n C0.1 C0.2.1 dX7_after_55 rfl (lv_at hl 0 rfl) ?_
      refine gf_X7_285 C0 w hOv rfl dX7_after_56 ?_
      refine lv_icmp_ge (tgt := 91) C0.1 C0.2.1 dX7_after_59 (by decide) (fun c_59 => absurd c_59 (nI_ge (by omega) (by omega))) (fun c_59 => ?_)
      refine lv_aload_n C0.1 C0.2.1 dX7_after_62 rfl (lv_at hl 0 rfl) ?_
      refine gf_X7_51 C0 w hOv rfl dX7_after_63 ?_
      refine lv_iload C0.1 C0.2.1 dX7_after_66 (lv_at hl 5 rfl) ?_
      refine hv_iald C0 w v2v (hn_in (by omega) (by decide)) dX7_after_68 ?_
      have hc1 : (nI q).toNatClampNeg = q := nI_clamp (by omega)
      rw [hc1]
      refine lv_iload_n C0.1 C0.2.1 dX7_after_69 rfl (lv_at hl 1 rfl) ?_
      refine lv_icmp_ne (tgt := 85) C0.1 C0.2.1 dX7_after_70 (by decide) (fun c_70 => ?_) (fun c_70 => ?_)
      · skip
        refine lv_iinc (v := (nI q) + 1) (lv' := [(5, .int ((nI q) + 1)), (0, .ref mo), (1, .int (nI j1)), (2, .int k), (3, .int (σ.1.1.1 j1)), (4, .int (nI (σ.1.1.2.1 j1)))]) C0.1 C0.2.1 dX7_after_85 hl (k := 5) rfl rfl (by decide) rfl (fun ls hl => ?_)
        refine lv_goto (tgt := 53) C0.1 C0.2.1 dX7_after_88 (by decide) ?_
        exact ih (q + 1) T _ _ ls (by omega) hT (by rw [← he, sp_ev, if_neg (by rw [← (va q (by omega)).2]; exact c_70)]) (by rw [e8] at w; exact w) (by have h9 := (lv_sub (l' := [(0, .ref mo), (1, .int (nI j1)), (2, .int k), (3, .int (σ.1.1.1 j1)), (4, .int (nI (σ.1.1.2.1 j1))), (5, .int (nI q + 1))]) hl [1, 2, 3, 4, 5, 0] rfl); rw [nI_1] at h9; exact h9)
      · skip
        refine lv_aload_n C0.1 C0.2.1 dX7_after_73 rfl (lv_at hl 0 rfl) ?_
        refine lv_aload_n C0.1 C0.2.1 dX7_after_74 rfl (lv_at hl 0 rfl) ?_
        refine gf_X7_48 C0 w hOv rfl dX7_after_75 ?_
        refine lv_iload C0.1 C0.2.1 dX7_after_78 (lv_at hl 5 rfl) ?_
        refine hv_iald C0 w v1v (hn_in (by omega) (by decide)) dX7_after_80 ?_
        have hc2 : (nI q).toNatClampNeg = q := nI_clamp (by omega)
        rw [hc2]
        refine lv_iload_n C0.1 C0.2.1 dX7_after_81 rfl (lv_at hl 1 rfl) ?_
        refine hv_cVv C0 w kl_X7_294 kv_X7_happens rfl hOv (c_X7_happens (j := j1) (n := T.2.1) hOv q1 q2 (hs_uself _ _ _) r3v (r4 j1 hj1) hj1 q4 hT) (by decide) (by decide) rfl hl.1 rfl (Nat.le_of_ble_eq_true rfl) dX7_after_82 ⟨Nat.le_refl _, Nat.le_refl _⟩ (fun V4 Hq lq hp5 w => ?_)
        rw [hs_uself, e8, hs_updd, hs_updd, hv_q3b (a := mo + 1) (b := mo + 2) (c := mo + 4 + j1) (by omega) (by omega) (by omega)] at hp5
        refine lv_iinc (v := (nI q) + 1) (lv' := [(5, .int ((nI q) + 1)), (0, .ref mo), (1, .int (nI j1)), (2, .int k), (3, .int (σ.1.1.1 j1)), (4, .int (nI (σ.1.1.2.1 j1)))]) C0.1 C0.2.1 dX7_after_85 hl (k := 5) rfl rfl (by decide) rfl (fun ls hl => ?_)
        refine lv_goto (tgt := 53) C0.1 C0.2.1 dX7_after_88 (by decide) ?_
        exact ih (q + 1) (sp_und (ef q) T.1 T.2.1 T.2.2) _ _ ls (by omega) (sp_und_lb hT) (by rw [← he, sp_ev, if_pos (by rw [← (va q (by omega)).2]; exact c_70), (va q (by omega)).1]) (by rw [hp5] at w; exact w) (by have h9 := (lv_sub (l' := [(0, .ref mo), (1, .int (nI j1)), (2, .int k), (3, .int (σ.1.1.1 j1)), (4, .int (nI (σ.1.1.2.1 j1))), (5, .int (nI q + 1))]) hl [1, 2, 3, 4, 5, 0] rfl); rw [nI_1] at h9; exact h9)
  refine lv_iload_n C0.1 C0.2.1 dX7_after_0 rfl (lv_at hl 1 rfl) ?_
  refine hv_cSi (As := [.int (nI j1)]) C0 w kl_X7_135 ks_X7_isRow (c_X7_isRow) (by decide) (by decide) rfl hl.1 rfl (Nat.le_of_ble_eq_true rfl) dX7_after_1 ⟨Nat.le_refl _, Nat.le_refl _⟩ (fun x1 V2 Hq lq hp3 w => ?_)
  obtain ⟨e9, hz9⟩ := hp3
  rw [e9] at w; clear e9
  obtain ⟨ex9, -⟩ | ⟨-, hno⟩ := hz9
  rotate_left
  · exact absurd hrj hno
  rw [ex9]; clear ex9
  refine lv_if_eq (tgt := 16) C0.1 C0.2.1 dX7_after_4 (by decide) (fun h9 => absurd h9 (by decide)) (fun _ => ?_)
  refine lv_iload_n C0.1 C0.2.1 dX7_after_7 rfl (lv_at hl 2 rfl) ?_
  refine lv_iconst (v := 0) C0.1 C0.2.1 dX7_after_8 (by decide) ?_
  refine lv_iconst (v := 2) C0.1 C0.2.1 dX7_after_9 (by decide) ?_
  refine hv_cSi (As := [.int k, .int 0, .int 2]) C0 w kl_X7_89 ks_X7_in (c_X7_in) (by decide) (by decide) rfl hl.1 rfl (Nat.le_of_ble_eq_true rfl) dX7_after_10 ⟨Nat.le_refl _, Nat.le_refl _⟩ (fun x4 V5 Hq lq hp6 w => ?_)
  obtain ⟨e9, hz9⟩ := hp6
  rw [e9] at w; clear e9
  rcases hz9 with ⟨rfl, hb7⟩ | ⟨rfl, hb7⟩
  · skip
    refine lv_if_ne (tgt := 18) C0.1 C0.2.1 dX7_after_13 (by decide) (fun _ => ?_) (fun h9 => absurd h9 (by decide))
    refine lv_aload_n C0.1 C0.2.1 dX7_after_18 rfl (lv_at hl 0 rfl) ?_
    refine gf_X7_11 C0 w hO rfl dX7_after_19 ?_
    refine lv_iload_n C0.1 C0.2.1 dX7_after_22 rfl (lv_at hl 1 rfl) ?_
    refine hv_iald C0 w r1 (hn_in hj1 (by decide)) dX7_after_23 ?_
    have hc8 : (nI j1).toNatClampNeg = j1 := nI_clamp (by omega)
    rw [hc8]
    refine lv_istore_n (lv' := [(3, .int ((σ.1.1.1) j1)), (0, .ref mo), (1, .int (nI j1)), (2, .int k)]) C0.1 C0.2.1 dX7_after_24 rfl hl (by decide) rfl (fun ls hl => ?_)
    refine lv_aload_n C0.1 C0.2.1 dX7_after_25 rfl (lv_at hl 1 rfl) ?_
    refine gf_X7_15 C0 w hO rfl dX7_after_26 ?_
    refine lv_iload_n C0.1 C0.2.1 dX7_after_29 rfl (lv_at hl 2 rfl) ?_
    refine hv_iald C0 w r2 (hn_in hj1 (by decide)) dX7_after_30 ?_
    have hc9 : (nI j1).toNatClampNeg = j1 := nI_clamp (by omega)
    rw [hc9]
    refine lv_istore (lv' := [(4, .int (nI (σ.1.1.2.1 j1))), (3, .int ((σ.1.1.1) j1)), (0, .ref mo), (1, .int (nI j1)), (2, .int k)]) C0.1 C0.2.1 dX7_after_31 hl (by decide) rfl (fun ls hl => ?_)
    refine lv_aload_n C0.1 C0.2.1 dX7_after_33 rfl (lv_at hl 2 rfl) ?_
    refine gf_X7_20 C0 w hO rfl dX7_after_34 ?_
    refine lv_iload_n C0.1 C0.2.1 dX7_after_37 rfl (lv_at hl 3 rfl) ?_
    refine hv_aalA 6 rfl C0 w rfl r3 (hn_in hj1 (by decide)) (by rw [kj1]; exact r4 j1 hj1) dX7_after_38 ?_
    refine lv_iconst (v := 0) C0.1 C0.2.1 dX7_after_39 (by decide) ?_
    refine lv_aload_n C0.1 C0.2.1 dX7_after_40 rfl (lv_at hl 2 rfl) ?_
    refine gf_X7_54 C0 w hO rfl dX7_after_41 ?_
    refine lv_iconst (v := 0) C0.1 C0.2.1 dX7_after_44 (by decide) ?_
    refine lv_bipush (v := 16) C0.1 C0.2.1 dX7_after_45 (by decide) ?_
    refine hv_copyi C0 w hl.1 kj_X7_148 hN_j1 s5 (by decide) (by decide) (by decide) (by decide) (by decide) (by decide) (Nat.le_of_ble_eq_true rfl) dX7_after_47 (fun Hq lq w => ?_)
    have w := hv_w.as (a := mo + 20) (n := 16) (f := va_cpy (σ.1.1.2.2 j1) kn 0 0 16) (g := (σ.1.1.2.2 j1)) w hv_us (fun i9 hi9 => by simp [va_cpy, hi9])
    rw [hv_uu] at w
    obtain ⟨V10, eV11⟩ : ∃ W9, W9 = hv_up V (mo + 20) (.inl (X.2.1 0, 16, .inl (σ.1.1.2.2 j1))) := ⟨_, rfl⟩
    have w : hv_w X s V10 Hq lq := by rw [eV11]; exact w
    have hV12 : V10 mo = some (.inr (7, [.ref (mo + 1), .ref (mo + 2), .ref (mo + 3), .long ab, .long be, .ref (mo + 10), .int (nI σ.2.2.1.1), .int pl, .int cl, .ref (mo + 11), .ref (mo + 12), .ref (mo + 13), .int sg, .ref (mo + 14), .ref (mo + 15), .ref (mo + 16), .ref (mo + 17), .int (nI σ.1.2.1.1), .ref (mo + 18), .ref (mo + 19), .int (nI σ.1.2.2.1.1), .ref (mo + 20), .ref (mo + 21), .ref (mo + 22), .int (nI σ.1.2.2.2.1), .int ik, .ref (mo + 23), .ref (mo + 24), .ref (mo + 25), .ref (mo + 26), .ref (mo + 33), .ref (mo + 41), .ref (mo + 42), .ref (mo + 43)])) := by rw [eV11, hv_un (by omega)]; exact hO
    have hV13 : V10 (mo + 1) = some (.inl (X.2.1 0, 6, .inl σ.1.1.1)) := by rw [eV11, hv_un (by omega)]; exact r1
    have hV14 : V10 (mo + 2) = some (.inl (X.2.1 0, 6, .inl (fun j => nI (σ.1.1.2.1 j)))) := by rw [eV11, hv_un (by omega)]; exact r2
    have hV15 : V10 (mo + 3) = some (.inl (X.2.1 6, 6, .inr (.inr (.inr (.inr rf))))) := by rw [eV11, hv_un (by omega)]; exact r3
    have hV16 : V10 (mo + 10) = some (.inl (X.2.1 2, 100, .inl σ.2.2.1.2)) := by rw [eV11, hv_un (by omega)]; exact hTx
    have hV17 : V10 (mo + 11) = some (.inl (X.2.1 0, 12, .inl wd)) := by rw [eV11, hv_un (by omega)]; exact s1
    have hV18 : V10 (mo + 12) = some (.inl (X.2.1 0, 48, .inl td)) := by rw [eV11, hv_un (by omega)]; exact s2
    have hV19 : V10 (mo + 13) = some (.inl (X.2.1 2, 178, .inl sn)) := by rw [eV11, hv_un (by omega)]; exact s3
    have hV20 : V10 (mo + 14) = some (.inl (X.2.1 0, 3, .inl ut)) := by rw [eV11, hv_un (by omega)]; exact s4
    have hV22 : V10 (mo + 15) = some (.inl (X.2.1 0, 4, .inl sf)) := by rw [eV11, hv_un (by omega)]; exact e1
    have hV23 : V10 (mo + 16) = some (.inl (X.2.1 0, 4, .inl sg9)) := by rw [eV11, hv_un (by omega)]; exact e2
    have hV24 : V10 (mo + 17) = some (.inl (X.2.1 0, 4, .inl sh)) := by rw [eV11, hv_un (by omega)]; exact e3
    have hV25 : V10 (mo + 18) = some (.inl (X.2.1 0, 8, .inl ef)) := by rw [eV11, hv_un (by omega)]; exact v1
    have hV26 : V10 (mo + 19) = some (.inl (X.2.1 0, 8, .inl eg)) := by rw [eV11, hv_un (by omega)]; exact v2
    have hV27 : V10 (mo + 21) = some (.inl (X.2.1 0, 8, .inl bf)) := by rw [eV11, hv_un (by omega)]; exact b1
    have hV28 : V10 (mo + 22) = some (.inl (X.2.1 0, 8, .inl bg)) := by rw [eV11, hv_un (by omega)]; exact b2
    have hV29 : V10 (mo + 41) = some (.inl (X.2.1 0, 6, .inl σ.2.2.2.1)) := by rw [eV11, hv_un (by omega)]; exact t1
    have hV30 : V10 (mo + 42) = some (.inl (X.2.1 0, 6, .inl (fun j => nI (σ.2.2.2.2.1 j)))) := by rw [eV11, hv_un (by omega)]; exact t2
    have hV31 : V10 (mo + 43) = some (.inl (X.2.1 7, 6, .inr (.inr (.inr (.inr tf))))) := by rw [eV11, hv_un (by omega)]; exact t3
    have hV32 : V10 (mo + 4 + j1) = some (.inl (X.2.1 0, 16, .inl (σ.1.1.2.2 j1))) := by rw [eV11, hv_un (by omega)]; exact hN_j1
    have hV33 : V10 (mo + 20) = some (.inl (X.2.1 0, 16, .inl (σ.1.1.2.2 j1))) := by rw [eV11]; exact hv_us
    refine lv_iconst (v := 0) C0.1 C0.2.1 dX7_after_50 (by decide) ?_
    refine lv_istore (lv' := [(5, .int 0), (4, .int (nI (σ.1.1.2.1 j1))), (3, .int ((σ.1.1.1) j1)), (0, .ref mo), (1, .int (nI j1)), (2, .int k)]) C0.1 C0.2.1 dX7_after_51 hl (by decide) rfl (fun ls hl => ?_)
    exact loop (by rw [sp_after, if_pos ⟨hrj, hb7⟩]) σ.1.2.2.1.1 0 (σ.1.1.1 j1, σ.1.1.2.1 j1, σ.1.1.2.2 j1) _ _ ls (by omega) (hbR j1 hj1).2.1 (by rw [sp_aft, kj1]) (by rw [hs_uid, hs_uid (fun j => nI (σ.1.1.2.1 j)), hv_id (a := mo + 1) (by rw [hv_un (by omega)]; exact r1), hv_id (a := mo + 2) (by rw [hv_un (by omega)]; exact r2), hv_id (a := mo + 4 + j1) (by rw [hv_un (by omega)]; exact hN_j1)]; rw [eV11] at w; exact w) (lv_sub hl [3, 4, 5, 2, 1, 0] rfl)
  · skip
    refine lv_if_ne (tgt := 18) C0.1 C0.2.1 dX7_after_13 (by decide) (fun h9 => absurd h9 (by decide)) (fun _ => ?_)
    refine lv_iconst (v := -1) C0.1 C0.2.1 dX7_after_16 (by decide) ?_
    exact hv_iret C0 w hr hlk (by rw [sp_after, if_neg (fun h9 => hb7 h9.2)]; exact ⟨rfl, hM, hv_out.rf⟩) dX7_after_17

set_option maxHeartbeats 4000000 in
set_option maxRecDepth 100000 in
theorem n_X7_after {l : Launch} {X : hv_X} {V : hv_V} {mo : Nat} {σ : hs_S} (hM : okM X V mo σ) (hB : hs_b σ) {r k : Int32} (hno : ¬ (sp_in r 0 5)) : hv_Mi l X 220 yX7_after cX7_after 6 .int V [.ref mo, .int r, .int k] (fun y V1 => y = sp_after σ r k ∧ okM X V1 mo σ ∧ hv_out V V1 mo (mo + 50)) := by
  refine hv_enter (by decide) (Nat.le_of_ble_eq_true rfl) ?_
  intro p e s m below meth c ls C0 hr hlk hnm w hl
  have hl : lv_has ls 6 [(0, .ref mo), (1, .int r), (2, .int k)] := hl
  obtain ⟨ab, be, pl, cl, sg, ik, hO, hRw, hTx, hSc, hSe, hEv, hBk, hIm, hTp⟩ := id hM
  obtain ⟨r1, r2, ⟨rf, r3, r4⟩, r5⟩ := id hRw
  obtain ⟨⟨wd, s1⟩, ⟨td, s2⟩, ⟨sn, s3⟩, ⟨ut, s4⟩, kn, s5⟩ := id hSc
  obtain ⟨sf, sg9, sh, e1, e2, e3, ea⟩ := id hSe
  obtain ⟨ef, eg, v1, v2, va⟩ := id hEv
  obtain ⟨bf, bg, b1, b2, ba⟩ := id hBk
  obtain ⟨t1, t2, ⟨tf, t3, t4⟩, t5⟩ := id hTp
  have hbR := hB.1.1
  refine lv_iload_n C0.1 C0.2.1 dX7_after_0 rfl (lv_at hl 1 rfl) ?_
  refine hv_cSi (As := [.int r]) C0 w kl_X7_135 ks_X7_isRow (c_X7_isRow) (by decide) (by decide) rfl hl.1 rfl (Nat.le_of_ble_eq_true rfl) dX7_after_1 ⟨Nat.le_refl _, Nat.le_refl _⟩ (fun x1 V2 Hq lq hp3 w => ?_)
  obtain ⟨e9, hz9⟩ := hp3
  rw [e9] at w; clear e9
  rcases hz9 with ⟨rfl, hb4⟩ | ⟨rfl, hb4⟩
  · skip
    have ihb4 := hb4
    obtain ⟨j1, hj1, rfl⟩ := sp_inN (k := 5) (by decide) hb4
    have kj1 : (nI j1).toNatClampNeg = j1 := nI_clamp (by omega)
    have hN_j1 : V (mo + 4 + j1) = some (nE X (σ.1.1.2.2 j1)) := r5 j1 hj1
    have hn_j1 : σ.1.1.2.1 j1 ≤ 16 := (hbR j1 hj1).2.1
    refine lv_if_eq (tgt := 16) C0.1 C0.2.1 dX7_after_4 (by decide) (fun h9 => absurd h9 (by decide)) (fun _ => ?_)
    exact absurd ihb4 hno
  · skip
    refine lv_if_eq (tgt := 16) C0.1 C0.2.1 dX7_after_4 (by decide) (fun _ => ?_) (fun h9 => absurd h9 (by decide))
    refine lv_iconst (v := -1) C0.1 C0.2.1 dX7_after_16 (by decide) ?_
    exact hv_iret C0 w hr hlk (by rw [sp_after, if_neg (fun h9 => hno h9.1)]; exact ⟨rfl, hM, hv_out.rf⟩) dX7_after_17

theorem m_X7_after {l : Launch} {X : hv_X} {V : hv_V} {mo : Nat} {σ : hs_S} (hM : okM X V mo σ) (hB : hs_b σ) {r k : Int32} : hv_Mi l X 220 yX7_after cX7_after 6 .int V [.ref mo, .int r, .int k] (fun y V1 => y = sp_after σ r k ∧ okM X V1 mo σ ∧ hv_out V V1 mo (mo + 50)) := by
  by_cases h : sp_in r 0 5
  · obtain ⟨j1, hj1, rfl⟩ := sp_inN (k := 5) (by decide) h
    exact c_X7_after hM hB hj1 h
  · exact n_X7_after hM hB h
set_option maxHeartbeats 4000000 in
set_option maxRecDepth 100000 in
theorem c_X7_toldOf0 {l : Launch} {X : hv_X} {V : hv_V} {mo : Nat} {ab be : Int64} {tx se ev bk : Nat} {pl cl sg ik : Int32} (hO : V mo = some (mE mo ab be tx pl cl sg se ev bk ik))  : hv_Mr l X 0 yX7_toldOf cX7_toldOf 2 (.array .int) V [.ref mo, .int 0] (fun a V1 => V1 = V ∧ a = mo + 15) := by
  refine hv_enter (by decide) (Nat.le_of_ble_eq_true rfl) ?_
  intro p e s m below meth c ls C0 hr hlk hnm w hl
  have hl : lv_has ls 2 [(0, .ref mo), (1, .int 0)] := hl
  refine lv_iload_n C0.1 C0.2.1 dX7_toldOf_0 rfl (lv_at hl 1 rfl) ?_
  refine lv_tableIn (off := 39) (tgt := 40) C0.1 C0.2.1 dX7_toldOf_1 (by decide) (by decide) (by rfl) (by decide) ?_
  refine lv_aload_n C0.1 C0.2.1 dX7_toldOf_40 rfl (lv_at hl 0 rfl) ?_
  refine gf_X7_39 C0 w hO rfl dX7_toldOf_41 ?_
  exact hv_aret C0 w hr (by first | exact Or.inl ⟨_, rfl⟩ | exact Or.inr ⟨_, rfl⟩) hlk (⟨rfl, rfl⟩) dX7_toldOf_44

set_option maxHeartbeats 4000000 in
set_option maxRecDepth 100000 in
theorem c_X7_toldOf1 {l : Launch} {X : hv_X} {V : hv_V} {mo : Nat} {ab be : Int64} {tx se ev bk : Nat} {pl cl sg ik : Int32} (hO : V mo = some (mE mo ab be tx pl cl sg se ev bk ik))  : hv_Mr l X 0 yX7_toldOf cX7_toldOf 2 (.array .int) V [.ref mo, .int 1] (fun a V1 => V1 = V ∧ a = mo + 16) := by
  refine hv_enter (by decide) (Nat.le_of_ble_eq_true rfl) ?_
  intro p e s m below meth c ls C0 hr hlk hnm w hl
  have hl : lv_has ls 2 [(0, .ref mo), (1, .int 1)] := hl
  refine lv_iload_n C0.1 C0.2.1 dX7_toldOf_0 rfl (lv_at hl 1 rfl) ?_
  refine lv_tableIn (off := 44) (tgt := 45) C0.1 C0.2.1 dX7_toldOf_1 (by decide) (by decide) (by rfl) (by decide) ?_
  refine lv_aload_n C0.1 C0.2.1 dX7_toldOf_45 rfl (lv_at hl 0 rfl) ?_
  refine gf_X7_42 C0 w hO rfl dX7_toldOf_46 ?_
  exact hv_aret C0 w hr (by first | exact Or.inl ⟨_, rfl⟩ | exact Or.inr ⟨_, rfl⟩) hlk (⟨rfl, rfl⟩) dX7_toldOf_49

set_option maxHeartbeats 4000000 in
set_option maxRecDepth 100000 in
theorem c_X7_toldOf2 {l : Launch} {X : hv_X} {V : hv_V} {mo : Nat} {ab be : Int64} {tx se ev bk : Nat} {pl cl sg ik : Int32} (hO : V mo = some (mE mo ab be tx pl cl sg se ev bk ik))  : hv_Mr l X 0 yX7_toldOf cX7_toldOf 2 (.array .int) V [.ref mo, .int 2] (fun a V1 => V1 = V ∧ a = mo + 17) := by
  refine hv_enter (by decide) (Nat.le_of_ble_eq_true rfl) ?_
  intro p e s m below meth c ls C0 hr hlk hnm w hl
  have hl : lv_has ls 2 [(0, .ref mo), (1, .int 2)] := hl
  refine lv_iload_n C0.1 C0.2.1 dX7_toldOf_0 rfl (lv_at hl 1 rfl) ?_
  refine lv_tableIn (off := 49) (tgt := 50) C0.1 C0.2.1 dX7_toldOf_1 (by decide) (by decide) (by rfl) (by decide) ?_
  refine lv_aload_n C0.1 C0.2.1 dX7_toldOf_50 rfl (lv_at hl 0 rfl) ?_
  refine gf_X7_45 C0 w hO rfl dX7_toldOf_51 ?_
  exact hv_aret C0 w hr (by first | exact Or.inl ⟨_, rfl⟩ | exact Or.inr ⟨_, rfl⟩) hlk (⟨rfl, rfl⟩) dX7_toldOf_54

set_option maxHeartbeats 4000000 in
set_option maxRecDepth 100000 in
theorem c_X7_toldOf3 {l : Launch} {X : hv_X} {V : hv_V} {mo : Nat} {ab be : Int64} {tx se ev bk : Nat} {pl cl sg ik : Int32} (hO : V mo = some (mE mo ab be tx pl cl sg se ev bk ik))  : hv_Mr l X 0 yX7_toldOf cX7_toldOf 2 (.array .int) V [.ref mo, .int 3] (fun a V1 => V1 = V ∧ a = mo + 18) := by
  refine hv_enter (by decide) (Nat.le_of_ble_eq_true rfl) ?_
  intro p e s m below meth c ls C0 hr hlk hnm w hl
  have hl : lv_has ls 2 [(0, .ref mo), (1, .int 3)] := hl
  refine lv_iload_n C0.1 C0.2.1 dX7_toldOf_0 rfl (lv_at hl 1 rfl) ?_
  refine lv_tableIn (off := 54) (tgt := 55) C0.1 C0.2.1 dX7_toldOf_1 (by decide) (by decide) (by rfl) (by decide) ?_
  refine lv_aload_n C0.1 C0.2.1 dX7_toldOf_55 rfl (lv_at hl 0 rfl) ?_
  refine gf_X7_48 C0 w hO rfl dX7_toldOf_56 ?_
  exact hv_aret C0 w hr (by first | exact Or.inl ⟨_, rfl⟩ | exact Or.inr ⟨_, rfl⟩) hlk (⟨rfl, rfl⟩) dX7_toldOf_59

set_option maxHeartbeats 4000000 in
set_option maxRecDepth 100000 in
theorem c_X7_toldOf4 {l : Launch} {X : hv_X} {V : hv_V} {mo : Nat} {ab be : Int64} {tx se ev bk : Nat} {pl cl sg ik : Int32} (hO : V mo = some (mE mo ab be tx pl cl sg se ev bk ik))  : hv_Mr l X 0 yX7_toldOf cX7_toldOf 2 (.array .int) V [.ref mo, .int 4] (fun a V1 => V1 = V ∧ a = mo + 19) := by
  refine hv_enter (by decide) (Nat.le_of_ble_eq_true rfl) ?_
  intro p e s m below meth c ls C0 hr hlk hnm w hl
  have hl : lv_has ls 2 [(0, .ref mo), (1, .int 4)] := hl
  refine lv_iload_n C0.1 C0.2.1 dX7_toldOf_0 rfl (lv_at hl 1 rfl) ?_
  refine lv_tableIn (off := 59) (tgt := 60) C0.1 C0.2.1 dX7_toldOf_1 (by decide) (by decide) (by rfl) (by decide) ?_
  refine lv_aload_n C0.1 C0.2.1 dX7_toldOf_60 rfl (lv_at hl 0 rfl) ?_
  refine gf_X7_51 C0 w hO rfl dX7_toldOf_61 ?_
  exact hv_aret C0 w hr (by first | exact Or.inl ⟨_, rfl⟩ | exact Or.inr ⟨_, rfl⟩) hlk (⟨rfl, rfl⟩) dX7_toldOf_64

set_option maxHeartbeats 4000000 in
set_option maxRecDepth 100000 in
theorem c_X7_toldOf5 {l : Launch} {X : hv_X} {V : hv_V} {mo : Nat} {ab be : Int64} {tx se ev bk : Nat} {pl cl sg ik : Int32} (hO : V mo = some (mE mo ab be tx pl cl sg se ev bk ik))  : hv_Mr l X 0 yX7_toldOf cX7_toldOf 2 (.array .int) V [.ref mo, .int 5] (fun a V1 => V1 = V ∧ a = mo + 21) := by
  refine hv_enter (by decide) (Nat.le_of_ble_eq_true rfl) ?_
  intro p e s m below meth c ls C0 hr hlk hnm w hl
  have hl : lv_has ls 2 [(0, .ref mo), (1, .int 5)] := hl
  refine lv_iload_n C0.1 C0.2.1 dX7_toldOf_0 rfl (lv_at hl 1 rfl) ?_
  refine lv_tableIn (off := 64) (tgt := 65) C0.1 C0.2.1 dX7_toldOf_1 (by decide) (by decide) (by rfl) (by decide) ?_
  refine lv_aload_n C0.1 C0.2.1 dX7_toldOf_65 rfl (lv_at hl 0 rfl) ?_
  refine gf_X7_57 C0 w hO rfl dX7_toldOf_66 ?_
  exact hv_aret C0 w hr (by first | exact Or.inl ⟨_, rfl⟩ | exact Or.inr ⟨_, rfl⟩) hlk (⟨rfl, rfl⟩) dX7_toldOf_69

set_option maxHeartbeats 4000000 in
set_option maxRecDepth 100000 in
theorem c_X7_toldOf6 {l : Launch} {X : hv_X} {V : hv_V} {mo : Nat} {ab be : Int64} {tx se ev bk : Nat} {pl cl sg ik : Int32} (hO : V mo = some (mE mo ab be tx pl cl sg se ev bk ik))  : hv_Mr l X 0 yX7_toldOf cX7_toldOf 2 (.array .int) V [.ref mo, .int 6] (fun a V1 => V1 = V ∧ a = mo + 22) := by
  refine hv_enter (by decide) (Nat.le_of_ble_eq_true rfl) ?_
  intro p e s m below meth c ls C0 hr hlk hnm w hl
  have hl : lv_has ls 2 [(0, .ref mo), (1, .int 6)] := hl
  refine lv_iload_n C0.1 C0.2.1 dX7_toldOf_0 rfl (lv_at hl 1 rfl) ?_
  refine lv_tableOut (tgt := 70) C0.1 C0.2.1 dX7_toldOf_1 (by decide) (by decide) ?_
  refine lv_aload_n C0.1 C0.2.1 dX7_toldOf_70 rfl (lv_at hl 0 rfl) ?_
  refine gf_X7_60 C0 w hO rfl dX7_toldOf_71 ?_
  exact hv_aret C0 w hr (by first | exact Or.inl ⟨_, rfl⟩ | exact Or.inr ⟨_, rfl⟩) hlk (⟨rfl, rfl⟩) dX7_toldOf_74

