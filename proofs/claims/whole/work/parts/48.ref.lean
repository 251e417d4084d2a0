abbrev sp_odd (i : Nat) : Prop := nI i - nI i / 2 * 2 = 1
theorem gr_both {kd : Int32} {n n2 i : Nat} {x y : Int32} (hk : sp_in kd 0 3) (h1 : i < n) (h2 : i < n2) : sp_gr2 kd n n2 i x y = if ((kd = 3 ∨ (kd = 2 ∧ sp_odd i)) ↔ ¬ x < y) then 1 else 2 := by
  unfold sp_gr2
  rw [if_neg (by omega), if_pos ⟨h1, h2⟩]
  by_cases c1 : x < y <;> by_cases c2 : sp_odd i <;> rcases hs_03 hk with rfl | rfl | rfl | rfl <;> simp [c1, c2]
theorem gr_one {kd : Int32} {n n2 i : Nat} {x y : Int32} (h0 : ¬ (i = n ∧ i = n2)) (h1 : ¬ (i < n ∧ i < n2)) : sp_gr2 kd n n2 i x y = if (i < n ↔ (kd = 2 ∧ sp_odd i)) then 2 else 1 := by
  unfold sp_gr2
  rw [if_neg h0, if_neg h1]
  by_cases c1 : i < n <;> by_cases c2 : kd = 2 <;> by_cases c3 : sp_odd i <;> simp [c1, c2, c3]
theorem gr_same {kd : Int32} {n n2 i : Nat} {x y : Int32} (h0 : i = n ∧ i = n2) : sp_gr2 kd n n2 i x y = 0 := if_pos h0
theorem sp_dif_le (f g : Nat → Int32) : ∀ (m i : Nat), sp_dif f g m i ≤ i + m
  | 0, i => Nat.le_refl _
  | m + 1, i => by
    show (if f i = g i then sp_dif f g m (i + 1) else i) ≤ i + (m + 1)
    split
    · have := sp_dif_le f g m (i + 1); omega
    · omega
set_option maxHeartbeats 4000000 in
set_option maxRecDepth 100000 in
theorem c_X7_greater {l : Launch} {X : hv_X} {V : hv_V} {mo : Nat} {σ : hs_S} (hM : okM X V mo σ) (hB : hs_b σ) {j1 j2 : Nat} (hj1 : j1 < 6) (hj2 : j2 < 6) (hrj : sp_in (nI j1) 0 5) (hrk : sp_in (nI j2) 0 5) : hv_Mi l X 220 yX7_greater cX7_greater 9 .int V [.ref mo, .int (nI j1), .int (nI j2)] (fun y V1 => y = sp_great σ (nI j1) (nI j2) ∧ okM X V1 mo σ ∧ hv_out V V1 mo (mo + 50)) := by
  refine hv_enter (by decide) (Nat.le_of_ble_eq_true rfl) ?_
  intro p e s m below meth c ls C0 hr hlk hnm w hl
  have hl : lv_has ls 9 [(0, .ref mo), (1, .int (nI j1)), (2, .int (nI j2))] := hl
  obtain ⟨ab, be, pl, cl, sg, ik, hO, hRw, hTx, hSc, hSe, hEv, hBk, hIm, hTp⟩ := id hM
  obtain ⟨r1, r2, ⟨rf, r3, r4⟩, r5⟩ := id hRw
  obtain ⟨⟨wd, s1⟩, ⟨td, s2⟩, ⟨sn, s3⟩, ⟨ut, s4⟩, kn, s5⟩ := id hSc
  obtain ⟨sf, sg9, sh, e1, e2, e3, ea⟩ := id hSe
  obtain ⟨ef, eg, v1, v2, va⟩ := id hEv
  obtain ⟨bf, bg, b1, b2, ba⟩ := id hBk
  obtain ⟨t1, t2, ⟨tf, t3, t4⟩, t5⟩ := id hTp
  have hbR := hB.1.1
  have kj1 : (nI j1).toNatClampNeg = j1 := nI_clamp (by omega)
  have kj2 : (nI j2).toNatClampNeg = j2 := nI_clamp (by omega)
  have hN_j1 : V (mo + 4 + j1) = some (nE X (σ.1.1.2.2 j1)) := r5 j1 hj1
  have hN_j2 : V (mo + 4 + j2) = some (nE X (σ.1.1.2.2 j2)) := r5 j2 hj2
  have hn_j1 : σ.1.1.2.1 j1 ≤ 16 := (hbR j1 hj1).2.1
  have hn_j2 : σ.1.1.2.1 j2 ≤ 16 := (hbR j2 hj2).2.1
  have hkd : sp_in (σ.1.1.1 j1) 0 3 := (hbR j1 hj1).1
  obtain ⟨hm1, hm2, hm3⟩ := sp_mm_le (σ.1.1.2.1 j1) (σ.1.1.2.1 j2)
  have fin : ∀ (i : Nat) (Hq : Heap) (lq : List Loc) (ls : Array Slot), (i ≤ sp_mm (σ.1.1.2.1 j1) (σ.1.1.2.1 j2)) → (sp_great σ (nI j1) (nI j2) = sp_gr2 (σ.1.1.1 j1) (σ.1.1.2.1 j1) (σ.1.1.2.1 j2) i (σ.1.1.2.2 j1 i) (σ.1.1.2.2 j2 i)) → hv_w X s (V) Hq lq → lv_has ls 9 [(0, .ref mo), (1, .int (nI j1)), (2, .int (nI j2)), (3, .int (nI i))] → W p l e (hv_rm 220 0 0) s m ([.ref mo, .int (nI j1), .int (nI j2)] : List Value).toArray below meth c Hq lq 0 0 (MQ below (hv_Qi X (fun y V1 => y = sp_great σ (nI j1) (nI j2) ∧ okM X V1 mo σ ∧ hv_out V V1 mo (mo + 50))) ([.ref mo, .int (nI j1), .int (nI j2)] : List Value).toArray s 0 0 X.2.2.1) (F0 m 81 ls []) := by
    intro i Hq lq ls hi hsp w hl
    refine lv_iload_n C0.1 C0.2.1 dX7_greater_81 rfl (lv_at hl 3 rfl) ?_
    refine lv_aload_n C0.1 C0.2.1 dX7_greater_82 rfl (lv_at hl 0 rfl) ?_
    refine gf_X7_15 C0 w hO rfl dX7_greater_83 ?_
    refine lv_iload_n C0.1 C0.2.1 dX7_greater_86 rfl (lv_at hl 1 rfl) ?_
    refine hv_iald C0 w r2 (hn_in hj1 (by decide)) dX7_greater_87 ?_
    have hc1 : (nI j1).toNatClampNeg = j1 := nI_clamp (by omega)
    rw [hc1]
    refine lv_icmp_ge (tgt := 95) C0.1 C0.2.1 dX7_greater_88 (by decide) (fun c_88 => ?_) (fun c_88 => ?_)
    · skip
      refine lv_iconst (v := 0) C0.1 C0.2.1 dX7_greater_95 (by decide) ?_
      refine lv_istore (lv' := [(4, .int 0), (0, .ref mo), (1, .int (nI j1)), (2, .int (nI j2)), (3, .int (nI i))]) C0.1 C0.2.1 dX7_greater_96 hl (by decide) rfl (fun ls hl => ?_)
      refine lv_iload_n C0.1 C0.2.1 dX7_greater_98 rfl (lv_at hl 4 rfl) ?_
      refine lv_aload_n C0.1 C0.2.1 dX7_greater_99 rfl (lv_at hl 1 rfl) ?_
      refine gf_X7_15 C0 w hO rfl dX7_greater_100 ?_
      refine lv_iload_n C0.1 C0.2.1 dX7_greater_103 rfl (lv_at hl 3 rfl) ?_
      refine hv_iald C0 w r2 (hn_in hj2 (by decide)) dX7_greater_104 ?_
      have hc2 : (nI j2).toNatClampNeg = j2 := nI_clamp (by omega)
      rw [hc2]
      refine lv_icmp_ge (tgt := 112) C0.1 C0.2.1 dX7_greater_105 (by decide) (fun c_105 => ?_) (fun c_105 => ?_)
      · skip
        refine lv_iconst (v := 0) C0.1 C0.2.1 dX7_greater_112 (by decide) ?_
        refine lv_istore (lv' := [(5, .int 0), (4, .int 0), (0, .ref mo), (1, .int (nI j1)), (2, .int (nI j2)), (3, .int (nI i))]) C0.1 C0.2.1 dX7_greater_113 hl (by decide) rfl (fun ls hl => ?_)
        refine lv_iload C0.1 C0.2.1 dX7_greater_115 (lv_at hl 1 rfl) ?_
        refine lv_if_ne (tgt := 127) C0.1 C0.2.1 dX7_greater_117 (by decide) (fun h9 => absurd h9 (by decide)) (fun _ => ?_)
        refine lv_iload C0.1 C0.2.1 dX7_greater_120 (lv_at hl 0 rfl) ?_
        refine lv_if_ne (tgt := 127) C0.1 C0.2.1 dX7_greater_122 (by decide) (fun h9 => absurd h9 (by decide)) (fun _ => ?_)
        refine lv_iconst (v := 0) C0.1 C0.2.1 dX7_greater_125 (by decide) ?_
        exact hv_iret C0 w hr hlk (by have h1 := (show ¬ i < σ.1.1.2.1 j1 from fun h7 => absurd (nI_lt (a := i) h7 (by omega)) (Int32.not_lt.mpr c_88)); have h2 := (show ¬ i < σ.1.1.2.1 j2 from fun h7 => absurd (nI_lt (a := i) h7 (by omega)) (Int32.not_lt.mpr c_105)); exact ⟨by rw [hsp]; exact (gr_same (by omega)).symm, hM, hv_out.rf⟩) dX7_greater_126
      · skip
        refine lv_iconst (v := 1) C0.1 C0.2.1 dX7_greater_108 (by decide) ?_
        refine lv_goto (tgt := 113) C0.1 C0.2.1 dX7_greater_109 (by decide) ?_
        refine lv_istore (lv' := [(5, .int 1), (4, .int 0), (0, .ref mo), (1, .int (nI j1)), (2, .int (nI j2)), (3, .int (nI i))]) C0.1 C0.2.1 dX7_greater_113 hl (by decide) rfl (fun ls hl => ?_)
        refine lv_iload C0.1 C0.2.1 dX7_greater_115 (lv_at hl 1 rfl) ?_
        refine lv_if_ne (tgt := 127) C0.1 C0.2.1 dX7_greater_117 (by decide) (fun h9 => absurd h9 (by decide)) (fun _ => ?_)
        refine lv_iload C0.1 C0.2.1 dX7_greater_120 (lv_at hl 0 rfl) ?_
        refine lv_if_ne (tgt := 127) C0.1 C0.2.1 dX7_greater_122 (by decide) (fun _ => ?_) (fun h9 => absurd h9 (by decide))
        refine lv_aload_n C0.1 C0.2.1 dX7_greater_127 rfl (lv_at hl 2 rfl) ?_
        refine gf_X7_11 C0 w hO rfl dX7_greater_128 ?_
        refine lv_iload_n C0.1 C0.2.1 dX7_greater_131 rfl (lv_at hl 3 rfl) ?_
        refine hv_iald C0 w r1 (hn_in hj1 (by decide)) dX7_greater_132 ?_
        have hc3 : (nI j1).toNatClampNeg = j1 := nI_clamp (by omega)
        rw [hc3]
        refine lv_iconst (v := 2) C0.1 C0.2.1 dX7_greater_133 (by decide) ?_
        refine lv_icmp_ne (tgt := 148) C0.1 C0.2.1 dX7_greater_134 (by decide) (fun c_134 => ?_) (fun c_134 => ?_)
        · skip
          refine lv_iconst (v := 0) C0.1 C0.2.1 dX7_greater_148 (by decide) ?_
          refine lv_istore (lv' := [(6, .int 0), (5, .int 1), (4, .int 0), (0, .ref mo), (1, .int (nI j1)), (2, .int (nI j2)), (3, .int (nI i))]) C0.1 C0.2.1 dX7_greater_149 hl (by decide) rfl (fun ls hl => ?_)
          refine lv_iload C0.1 C0.2.1 dX7_greater_151 (lv_at hl 2 rfl) ?_
          refine lv_if_eq (tgt := 230) C0.1 C0.2.1 dX7_greater_153 (by decide) (fun _ => ?_) (fun h9 => absurd h9 (by decide))
          refine lv_iload C0.1 C0.2.1 dX7_greater_230 (lv_at hl 2 rfl) ?_
          refine lv_iload C0.1 C0.2.1 dX7_greater_232 (lv_at hl 0 rfl) ?_
          refine lv_icmp_eq (tgt := 241) C0.1 C0.2.1 dX7_greater_234 (by decide) (fun _ => ?_) (fun h9 => absurd h9 (by decide))
          refine lv_iconst (v := 2) C0.1 C0.2.1 dX7_greater_241 (by decide) ?_
          exact hv_iret C0 w hr hlk (by have h1 := (show ¬ i < σ.1.1.2.1 j1 from fun h7 => absurd (nI_lt (a := i) h7 (by omega)) (Int32.not_lt.mpr c_88)); have h2 := ((nI_ltI (a := i) (by omega) (by omega)).mp (Int32.not_le.mp c_105)); exact ⟨by rw [hsp]; rw [gr_one (by omega) (by omega), if_pos (iff_of_false h1 (fun h7 => c_134 h7.1))], hM, hv_out.rf⟩) dX7_greater_242
        · skip
          refine lv_iload_n C0.1 C0.2.1 dX7_greater_137 rfl (lv_at hl 5 rfl) ?_
          refine lv_iconst (v := 2) C0.1 C0.2.1 dX7_greater_138 (by decide) ?_
          refine lv_irem C0.1 C0.2.1 dX7_greater_139 (by decide) ?_
          refine lv_iconst (v := 1) C0.1 C0.2.1 dX7_greater_140 (by decide) ?_
          refine lv_icmp_ne (tgt := 148) C0.1 C0.2.1 dX7_greater_141 (by decide) (fun c_141 => ?_) (fun c_141 => ?_)
          · skip
            refine lv_iconst (v := 0) C0.1 C0.2.1 dX7_greater_148 (by decide) ?_
            refine lv_istore (lv' := [(6, .int 0), (5, .int 1), (4, .int 0), (0, .ref mo), (1, .int (nI j1)), (2, .int (nI j2)), (3, .int (nI i))]) C0.1 C0.2.1 dX7_greater_149 hl (by decide) rfl (fun ls hl => ?_)
            refine lv_iload C0.1 C0.2.1 dX7_greater_151 (lv_at hl 2 rfl) ?_
            refine lv_if_eq (tgt := 230) C0.1 C0.2.1 dX7_greater_153 (by decide) (fun _ => ?_) (fun h9 => absurd h9 (by decide))
            refine lv_iload C0.1 C0.2.1 dX7_greater_230 (lv_at hl 2 rfl) ?_
            refine lv_iload C0.1 C0.2.1 dX7_greater_232 (lv_at hl 0 rfl) ?_
            refine lv_icmp_eq (tgt := 241) C0.1 C0.2.1 dX7_greater_234 (by decide) (fun _ => ?_) (fun h9 => absurd h9 (by decide))
            refine lv_iconst (v := 2) C0.1 C0.2.1 dX7_greater_241 (by decide) ?_
            exact hv_iret C0 w hr hlk (by have h1 := (show ¬ i < σ.1.1.2.1 j1 from fun h7 => absurd (nI_lt (a := i) h7 (by omega)) (Int32.not_lt.mpr c_88)); have h2 := ((nI_ltI (a := i) (by omega) (by omega)).mp (Int32.not_le.mp c_105)); exact ⟨by rw [hsp]; rw [gr_one (by omega) (by omega), if_pos (iff_of_false h1 (fun h7 => c_141 h7.2))], hM, hv_out.rf⟩) dX7_greater_242
          · skip
            refine lv_iconst (v := 1) C0.1 C0.2.1 dX7_greater_144 (by decide) ?_
            refine lv_goto (tgt := 149) C0.1 C0.2.1 dX7_greater_145 (by decide) ?_
            refine lv_istore (lv' := [(6, .int 1), (5, .int 1), (4, .int 0), (0, .ref mo), (1, .int (nI j1)), (2, .int (nI j2)), (3, .int (nI i))]) C0.1 C0.2.1 dX7_greater_149 hl (by decide) rfl (fun ls hl => ?_)
            refine lv_iload C0.1 C0.2.1 dX7_greater_151 (lv_at hl 2 rfl) ?_
            refine lv_if_eq (tgt := 230) C0.1 C0.2.1 dX7_greater_153 (by decide) (fun _ => ?_) (fun h9 => absurd h9 (by decide))
            refine lv_iload C0.1 C0.2.1 dX7_greater_230 (lv_at hl 2 rfl) ?_
            refine lv_iload C0.1 C0.2.1 dX7_greater_232 (lv_at hl 0 rfl) ?_
            refine lv_icmp_eq (tgt := 241) C0.1 C0.2.1 dX7_greater_234 (by decide) (fun h9 => absurd h9 (by decide)) (fun _ => ?_)
            refine lv_iconst (v := 1) C0.1 C0.2.1 dX7_greater_237 (by decide) ?_
            refine lv_goto (tgt := 242) C0.1 C0.2.1 dX7_greater_238 (by decide) ?_
            exact hv_iret C0 w hr hlk (by have h1 := (show ¬ i < σ.1.1.2.1 j1 from fun h7 => absurd (nI_lt (a := i) h7 (by omega)) (Int32.not_lt.mpr c_88)); have h2 := ((nI_ltI (a := i) (by omega) (by omega)).mp (Int32.not_le.mp c_105)); exact ⟨by rw [hsp]; rw [gr_one (by omega) (by omega), if_neg (fun h9 => h1 (h9.mpr (And.intro c_134 c_141)))], hM, hv_out.rf⟩) dX7_greater_242
    · skip
      refine lv_iconst (v := 1) C0.1 C0.2.1 dX7_greater_91 (by decide) ?_
      refine lv_goto (tgt := 96) C0.1 C0.2.1 dX7_greater_92 (by decide) ?_
      refine lv_istore (lv' := [(4, .int 1), (0, .ref mo), (1, .int (nI j1)), (2, .int (nI j2)), (3, .int (nI i))]) C0.1 C0.2.1 dX7_greater_96 hl (by decide) rfl (fun ls hl => ?_)
      refine lv_iload_n C0.1 C0.2.1 dX7_greater_98 rfl (lv_at hl 4 rfl) ?_
      refine lv_aload_n C0.1 C0.2.1 dX7_greater_99 rfl (lv_at hl 1 rfl) ?_
      refine gf_X7_15 C0 w hO rfl dX7_greater_100 ?_
      refine lv_iload_n C0.1 C0.2.1 dX7_greater_103 rfl (lv_at hl 3 rfl) ?_
      refine hv_iald C0 w r2 (hn_in hj2 (by decide)) dX7_greater_104 ?_
      have hc4 : (nI j2).toNatClampNeg = j2 := nI_clamp (by omega)
      rw [hc4]
      refine lv_icmp_ge (tgt := 112) C0.1 C0.2.1 dX7_greater_105 (by decide) (fun c_105 => ?_) (fun c_105 => ?_)
      · skip
        refine lv_iconst (v := 0) C0.1 C0.2.1 dX7_greater_112 (by decide) ?_
        refine lv_istore (lv' := [(5, .int 0), (4, .int 1), (0, .ref mo), (1, .int (nI j1)), (2, .int (nI j2)), (3, .int (nI i))]) C0.1 C0.2.1 dX7_greater_113 hl (by decide) rfl (fun ls hl => ?_)
        refine lv_iload C0.1 C0.2.1 dX7_greater_115 (lv_at hl 1 rfl) ?_
        refine lv_if_ne (tgt := 127) C0.1 C0.2.1 dX7_greater_117 (by decide) (fun _ => ?_) (fun h9 => absurd h9 (by decide))
        refine lv_aload_n C0.1 C0.2.1 dX7_greater_127 rfl (lv_at hl 2 rfl) ?_
        refine gf_X7_11 C0 w hO rfl dX7_greater_128 ?_
        refine lv_iload_n C0.1 C0.2.1 dX7_greater_131 rfl (lv_at hl 3 rfl) ?_
        refine hv_iald C0 w r1 (hn_in hj1 (by decide)) dX7_greater_132 ?_
        have hc5 : (nI j1).toNatClampNeg = j1 := nI_clamp (by omega)
        rw [hc5]
        refine lv_iconst (v := 2) C0.1 C0.2.1 dX7_greater_133 (by decide) ?_
        refine lv_icmp_ne (tgt := 148) C0.1 C0.2.1 dX7_greater_134 (by decide) (fun c_134 => ?_) (fun c_134 => ?_)
        · skip
          refine lv_iconst (v := 0) C0.1 C0.2.1 dX7_greater_148 (by decide) ?_
          refine lv_istore (lv' := [(6, .int 0), (5, .int 0), (4, .int 1), (0, .ref mo), (1, .int (nI j1)), (2, .int (nI j2)), (3, .int (nI i))]) C0.1 C0.2.1 dX7_greater_149 hl (by decide) rfl (fun ls hl => ?_)
          refine lv_iload C0.1 C0.2.1 dX7_greater_151 (lv_at hl 2 rfl) ?_
          refine lv_if_eq (tgt := 230) C0.1 C0.2.1 dX7_greater_153 (by decide) (fun h9 => absurd h9 (by decide)) (fun _ => ?_)
          refine lv_iload C0.1 C0.2.1 dX7_greater_156 (lv_at hl 1 rfl) ?_
          refine lv_if_eq (tgt := 230) C0.1 C0.2.1 dX7_greater_158 (by decide) (fun _ => ?_) (fun h9 => absurd h9 (by decide))
          refine lv_iload C0.1 C0.2.1 dX7_greater_230 (lv_at hl 2 rfl) ?_
          refine lv_iload C0.1 C0.2.1 dX7_greater_232 (lv_at hl 0 rfl) ?_
          refine lv_icmp_eq (tgt := 241) C0.1 C0.2.1 dX7_greater_234 (by decide) (fun h9 => absurd h9 (by decide)) (fun _ => ?_)
          refine lv_iconst (v := 1) C0.1 C0.2.1 dX7_greater_237 (by decide) ?_
          refine lv_goto (tgt := 242) C0.1 C0.2.1 dX7_greater_238 (by decide) ?_
          exact hv_iret C0 w hr hlk (by have h1 := ((nI_ltI (a := i) (by omega) (by omega)).mp (Int32.not_le.mp c_88)); have h2 := (show ¬ i < σ.1.1.2.1 j2 from fun h7 => absurd (nI_lt (a := i) h7 (by omega)) (Int32.not_lt.mpr c_105)); exact ⟨by rw [hsp]; rw [gr_one (by omega) (by omega), if_neg (fun h9 => (fun h7 => c_134 h7.1) (h9.mp h1))], hM, hv_out.rf⟩) dX7_greater_242
        · skip
          refine lv_iload_n C0.1 C0.2.1 dX7_greater_137 rfl (lv_at hl 5 rfl) ?_
          refine lv_iconst (v := 2) C0.1 C0.2.1 dX7_greater_138 (by decide) ?_
          refine lv_irem C0.1 C0.2.1 dX7_greater_139 (by decide) ?_
          refine lv_iconst (v := 1) C0.1 C0.2.1 dX7_greater_140 (by decide) ?_
          refine lv_icmp_ne (tgt := 148) C0.1 C0.2.1 dX7_greater_141 (by decide) (fun c_141 => ?_) (fun c_141 => ?_)
          · skip
            refine lv_iconst (v := 0) C0.1 C0.2.1 dX7_greater_148 (by decide) ?_
            refine lv_istore (lv' := [(6, .int 0), (5, .int 0), (4, .int 1), (0, .ref mo), (1, .int (nI j1)), (2, .int (nI j2)), (3, .int (nI i))]) C0.1 C0.2.1 dX7_greater_149 hl (by decide) rfl (fun ls hl => ?_)
            refine lv_iload C0.1 C0.2.1 dX7_greater_151 (lv_at hl 2 rfl) ?_
            refine lv_if_eq (tgt := 230) C0.1 C0.2.1 dX7_greater_153 (by decide) (fun h9 => absurd h9 (by decide)) (fun _ => ?_)
            refine lv_iload C0.1 C0.2.1 dX7_greater_156 (lv_at hl 1 rfl) ?_
            refine lv_if_eq (tgt := 230) C0.1 C0.2.1 dX7_greater_158 (by decide) (fun _ => ?_) (fun h9 => absurd h9 (by decide))
            refine lv_iload C0.1 C0.2.1 dX7_greater_230 (lv_at hl 2 rfl) ?_
            refine lv_iload C0.1 C0.2.1 dX7_greater_232 (lv_at hl 0 rfl) ?_
            refine lv_icmp_eq (tgt := 241) C0.1 C0.2.1 dX7_greater_234 (by decide) (fun h9 => absurd h9 (by decide)) (fun _ => ?_)
            refine lv_iconst (v := 1) C0.1 C0.2.1 dX7_greater_237 (by decide) ?_
            refine lv_goto (tgt := 242) C0.1 C0.2.1 dX7_greater_238 (by decide) ?_
            exact hv_iret C0 w hr hlk (by have h1 := ((nI_ltI (a := i) (by omega) (by omega)).mp (Int32.not_le.mp c_88)); have h2 := (show ¬ i < σ.1.1.2.1 j2 from fun h7 => absurd (nI_lt (a := i) h7 (by omega)) (Int32.not_lt.mpr c_105)); exact ⟨by rw [hsp]; rw [gr_one (by omega) (by omega), if_neg (fun h9 => (fun h7 => c_141 h7.2) (h9.mp h1))], hM, hv_out.rf⟩) dX7_greater_242
          · skip
            refine lv_iconst (v := 1) C0.1 C0.2.1 dX7_greater_144 (by decide) ?_
            refine lv_goto (tgt := 149) C0.1 C0.2.1 dX7_greater_145 (by decide) ?_
            refine lv_istore (lv' := [(6, .int 1), (5, .int 0), (4, .int 1), (0, .ref mo), (1, .int (nI j1)), (2, .int (nI j2)), (3, .int (nI i))]) C0.1 C0.2.1 dX7_greater_149 hl (by decide) rfl (fun ls hl => ?_)
            refine lv_iload C0.1 C0.2.1 dX7_greater_151 (lv_at hl 2 rfl) ?_
            refine lv_if_eq (tgt := 230) C0.1 C0.2.1 dX7_greater_153 (by decide) (fun h9 => absurd h9 (by decide)) (fun _ => ?_)
            refine lv_iload C0.1 C0.2.1 dX7_greater_156 (lv_at hl 1 rfl) ?_
            refine lv_if_eq (tgt := 230) C0.1 C0.2.1 dX7_greater_158 (by decide) (fun _ => ?_) (fun h9 => absurd h9 (by decide))
            refine lv_iload C0.1 C0.2.1 dX7_greater_230 (lv_at hl 2 rfl) ?_
            refine lv_iload C0.1 C0.2.1 dX7_greater_232 (lv_at hl 0 rfl) ?_
            refine lv_icmp_eq (tgt := 241) C0.1 C0.2.1 dX7_greater_234 (by decide) (fun _ => ?_) (fun h9 => absurd h9 (by decide))
            refine lv_iconst (v := 2) C0.1 C0.2.1 dX7_greater_241 (by decide) ?_
            exact hv_iret C0 w hr hlk (by have h1 := ((nI_ltI (a := i) (by omega) (by omega)).mp (Int32.not_le.mp c_88)); have h2 := (show ¬ i < σ.1.1.2.1 j2 from fun h7 => absurd (nI_lt (a := i) h7 (by omega)) (Int32.not_lt.mpr c_105)); exact ⟨by rw [hsp]; rw [gr_one (by omega) (by omega), if_pos (iff_of_true h1 (And.intro c_134 c_141))], hM, hv_out.rf⟩) dX7_greater_242
      · skip
        refine lv_iconst (v := 1) C0.1 C0.2.1 dX7_greater_108 (by decide) ?_
        refine lv_goto (tgt := 113) C0.1 C0.2.1 dX7_greater_109 (by decide) ?_
        refine lv_istore (lv' := [(5, .int 1), (4, .int 1), (0, .ref mo), (1, .int (nI j1)), (2, .int (nI j2)), (3, .int (nI i))]) C0.1 C0.2.1 dX7_greater_113 hl (by decide) rfl (fun ls hl => ?_)
        refine lv_iload C0.1 C0.2.1 dX7_greater_115 (lv_at hl 1 rfl) ?_
        refine lv_if_ne (tgt := 127) C0.1 C0.2.1 dX7_greater_117 (by decide) (fun _ => ?_) (fun h9 => absurd h9 (by decide))
        refine lv_aload_n C0.1 C0.2.1 dX7_greater_127 rfl (lv_at hl 2 rfl) ?_
        refine gf_X7_11 C0 w hO rfl dX7_greater_128 ?_
        refine lv_iload_n C0.1 C0.2.1 dX7_greater_131 rfl (lv_at hl 3 rfl) ?_
        refine hv_iald C0 w r1 (hn_in hj1 (by decide)) dX7_greater_132 ?_
        have hc6 : (nI j1).toNatClampNeg = j1 := nI_clamp (by omega)
        rw [hc6]
        refine lv_iconst (v := 2) C0.1 C0.2.1 dX7_greater_133 (by decide) ?_
        refine lv_icmp_ne (tgt := 148) C0.1 C0.2.1 dX7_greater_134 (by decide) (fun c_134 => ?_) (fun c_134 => ?_)
        · skip
          refine lv_iconst (v := 0) C0.1 C0.2.1 dX7_greater_148 (by decide) ?_
          refine lv_istore (lv' := [(6, .int 0), (5, .int 1), (4, .int 1), (0, .ref mo), (1, .int (nI j1)), (2, .int (nI j2)), (3, .int (nI i))]) C0.1 C0.2.1 dX7_greater_149 hl (by decide) rfl (fun ls hl => ?_)
          refine lv_iload C0.1 C0.2.1 dX7_greater_151 (lv_at hl 2 rfl) ?_
          refine lv_if_eq (tgt := 230) C0.1 C0.2.1 dX7_greater_153 (by decide) (fun h9 => absurd h9 (by decide)) (fun _ => ?_)
          refine lv_iload C0.1 C0.2.1 dX7_greater_156 (lv_at hl 1 rfl) ?_
          refine lv_if_eq (tgt := 230) C0.1 C0.2.1 dX7_greater_158 (by decide) (fun h9 => absurd h9 (by decide)) (fun _ => ?_)
          have hlt9 : i < σ.1.1.2.1 j1 := (nI_ltI (a := i) (by omega) (by omega)).mp (Int32.not_le.mp c_88)
          refine lv_aload_n C0.1 C0.2.1 dX7_greater_161 rfl (lv_at hl 3 rfl) ?_
          refine gf_X7_20 C0 w hO rfl dX7_greater_162 ?_
          refine lv_iload_n C0.1 C0.2.1 dX7_greater_165 rfl (lv_at hl 4 rfl) ?_
          refine hv_aalA 6 rfl C0 w rfl r3 (hn_in hj1 (by decide)) (by rw [kj1]; exact r4 j1 hj1) dX7_greater_166 ?_
          refine lv_iload_n C0.1 C0.2.1 dX7_greater_167 rfl (lv_at hl 6 rfl) ?_
          refine hv_iald C0 w hN_j1 (hn_in (by omega) (by decide)) dX7_greater_168 ?_
          have hc7 : (nI i).toNatClampNeg = i := nI_clamp (by omega)
          rw [hc7]
          refine lv_aload_n C0.1 C0.2.1 dX7_greater_169 rfl (lv_at hl 3 rfl) ?_
          refine gf_X7_20 C0 w hO rfl dX7_greater_170 ?_
          refine lv_iload_n C0.1 C0.2.1 dX7_greater_173 rfl (lv_at hl 5 rfl) ?_
          refine hv_aalA 6 rfl C0 w rfl r3 (hn_in hj2 (by decide)) (by rw [kj2]; exact r4 j2 hj2) dX7_greater_174 ?_
          refine lv_iload_n C0.1 C0.2.1 dX7_greater_175 rfl (lv_at hl 6 rfl) ?_
          refine hv_iald C0 w hN_j2 (hn_in (by omega) (by decide)) dX7_greater_176 ?_
          have hc8 : (nI i).toNatClampNeg = i := nI_clamp (by omega)
          rw [hc8]
          refine lv_icmp_ge (tgt := 184) C0.1 C0.2.1 dX7_greater_177 (by decide) (fun c_177 => ?_) (fun c_177 => ?_)
          · skip
            refine lv_iconst (v := 0) C0.1 C0.2.1 dX7_greater_184 (by decide) ?_
            refine lv_istore (lv' := [(7, .int 0), (6, .int 0), (5, .int 1), (4, .int 1), (0, .ref mo), (1, .int (nI j1)), (2, .int (nI j2)), (3, .int (nI i))]) C0.1 C0.2.1 dX7_greater_185 hl (by decide) rfl (fun ls hl => ?_)
            refine lv_aload_n C0.1 C0.2.1 dX7_greater_187 rfl (lv_at hl 4 rfl) ?_
            refine gf_X7_11 C0 w hO rfl dX7_greater_188 ?_
            refine lv_iload_n C0.1 C0.2.1 dX7_greater_191 rfl (lv_at hl 5 rfl) ?_
            refine hv_iald C0 w r1 (hn_in hj1 (by decide)) dX7_greater_192 ?_
            have hc9 : (nI j1).toNatClampNeg = j1 := nI_clamp (by omega)
            rw [hc9]
            refine lv_iconst (v := 3) C0.1 C0.2.1 dX7_greater_193 (by decide) ?_
            refine lv_icmp_eq (tgt := 202) C0.1 C0.2.1 dX7_greater_194 (by decide) (fun c_194 => ?_) (fun c_194 => ?_)
            · skip
              refine lv_iload C0.1 C0.2.1 dX7_greater_202 (lv_at hl 0 rfl) ?_
              refine lv_if_ne (tgt := 211) C0.1 C0.2.1 dX7_greater_204 (by decide) (fun h9 => absurd h9 (by decide)) (fun _ => ?_)
              refine lv_iconst (v := 1) C0.1 C0.2.1 dX7_greater_207 (by decide) ?_
              refine lv_goto (tgt := 217) C0.1 C0.2.1 dX7_greater_208 (by decide) ?_
              refine lv_istore (lv' := [(8, .int 1), (7, .int 0), (6, .int 0), (5, .int 1), (4, .int 1), (0, .ref mo), (1, .int (nI j1)), (2, .int (nI j2)), (3, .int (nI i))]) C0.1 C0.2.1 dX7_greater_217 hl (by decide) rfl (fun ls hl => ?_)
              refine lv_iload C0.1 C0.2.1 dX7_greater_219 (lv_at hl 0 rfl) ?_
              refine lv_if_eq (tgt := 228) C0.1 C0.2.1 dX7_greater_221 (by decide) (fun h9 => absurd h9 (by decide)) (fun _ => ?_)
              refine lv_iconst (v := 1) C0.1 C0.2.1 dX7_greater_224 (by decide) ?_
              refine lv_goto (tgt := 229) C0.1 C0.2.1 dX7_greater_225 (by decide) ?_
              exact hv_iret C0 w hr hlk (by have h1 := ((nI_ltI (a := i) (by omega) (by omega)).mp (Int32.not_le.mp c_88)); have h2 := ((nI_ltI (a := i) (by omega) (by omega)).mp (Int32.not_le.mp c_105)); exact ⟨by rw [hsp]; rw [gr_both hkd h1 h2, if_pos (iff_of_true (Or.inl c_194) (Int32.not_lt.mpr c_177))], hM, hv_out.rf⟩) dX7_greater_229
            · skip
              refine lv_iload C0.1 C0.2.1 dX7_greater_197 (lv_at hl 1 rfl) ?_
              refine lv_if_eq (tgt := 215) C0.1 C0.2.1 dX7_greater_199 (by decide) (fun _ => ?_) (fun h9 => absurd h9 (by decide))
              refine lv_iload C0.1 C0.2.1 dX7_greater_215 (lv_at hl 0 rfl) ?_
              refine lv_istore (lv' := [(8, .int 0), (7, .int 0), (6, .int 0), (5, .int 1), (4, .int 1), (0, .ref mo), (1, .int (nI j1)), (2, .int (nI j2)), (3, .int (nI i))]) C0.1 C0.2.1 dX7_greater_217 hl (by decide) rfl (fun ls hl => ?_)
              refine lv_iload C0.1 C0.2.1 dX7_greater_219 (lv_at hl 0 rfl) ?_
              refine lv_if_eq (tgt := 228) C0.1 C0.2.1 dX7_greater_221 (by decide) (fun _ => ?_) (fun h9 => absurd h9 (by decide))
              refine lv_iconst (v := 2) C0.1 C0.2.1 dX7_greater_228 (by decide) ?_
              exact hv_iret C0 w hr hlk (by have h1 := ((nI_ltI (a := i) (by omega) (by omega)).mp (Int32.not_le.mp c_88)); have h2 := ((nI_ltI (a := i) (by omega) (by omega)).mp (Int32.not_le.mp c_105)); exact ⟨by rw [hsp]; rw [gr_both hkd h1 h2, if_neg (fun h9 => (fun h8 => h8.elim c_194 (fun h7 => c_134 h7.1)) (h9.mpr (Int32.not_lt.mpr c_177)))], hM, hv_out.rf⟩) dX7_greater_229
          · skip
            refine lv_iconst (v := 1) C0.1 C0.2.1 dX7_greater_180 (by decide) ?_
            refine lv_goto (tgt := 185) C0.1 C0.2.1 dX7_greater_181 (by decide) ?_
            refine lv_istore (lv' := [(7, .int 1), (6, .int 0), (5, .int 1), (4, .int 1), (0, .ref mo), (1, .int (nI j1)), (2, .int (nI j2)), (3, .int (nI i))]) C0.1 C0.2.1 dX7_greater_185 hl (by decide) rfl (fun ls hl => ?_)
            refine lv_aload_n C0.1 C0.2.1 dX7_greater_187 rfl (lv_at hl 4 rfl) ?_
            refine gf_X7_11 C0 w hO rfl dX7_greater_188 ?_
            refine lv_iload_n C0.1 C0.2.1 dX7_greater_191 rfl (lv_at hl 5 rfl) ?_
            refine hv_iald C0 w r1 (hn_in hj1 (by decide)) dX7_greater_192 ?_
            have hc10 : (nI j1).toNatClampNeg = j1 := nI_clamp (by omega)
            rw [hc10]
            refine lv_iconst (v := 3) C0.1 C0.2.1 dX7_greater_193 (by decide) ?_
            refine lv_icmp_eq (tgt := 202) C0.1 C0.2.1 dX7_greater_194 (by decide) (fun c_194 => ?_) (fun c_194 => ?_)
            · skip
              refine lv_iload C0.1 C0.2.1 dX7_greater_202 (lv_at hl 0 rfl) ?_
              refine lv_if_ne (tgt := 211) C0.1 C0.2.1 dX7_greater_204 (by decide) (fun _ => ?_) (fun h9 => absurd h9 (by decide))
              refine lv_iconst (v := 0) C0.1 C0.2.1 dX7_greater_211 (by decide) ?_
              refine lv_goto (tgt := 217) C0.1 C0.2.1 dX7_greater_212 (by decide) ?_
              refine lv_istore (lv' := [(8, .int 0), (7, .int 1), (6, .int 0), (5, .int 1), (4, .int 1), (0, .ref mo), (1, .int (nI j1)), (2, .int (nI j2)), (3, .int (nI i))]) C0.1 C0.2.1 dX7_greater_217 hl (by decide) rfl (fun ls hl => ?_)
              refine lv_iload C0.1 C0.2.1 dX7_greater_219 (lv_at hl 0 rfl) ?_
              refine lv_if_eq (tgt := 228) C0.1 C0.2.1 dX7_greater_221 (by decide) (fun _ => ?_) (fun h9 => absurd h9 (by decide))
              refine lv_iconst (v := 2) C0.1 C0.2.1 dX7_greater_228 (by decide) ?_
              exact hv_iret C0 w hr hlk (by have h1 := ((nI_ltI (a := i) (by omega) (by omega)).mp (Int32.not_le.mp c_88)); have h2 := ((nI_ltI (a := i) (by omega) (by omega)).mp (Int32.not_le.mp c_105)); exact ⟨by rw [hsp]; rw [gr_both hkd h1 h2, if_neg (fun h9 => (h9.mp (Or.inl c_194)) (Int32.not_le.mp c_177))], hM, hv_out.rf⟩) dX7_greater_229
            · skip
              refine lv_iload C0.1 C0.2.1 dX7_greater_197 (lv_at hl 1 rfl) ?_
              refine lv_if_eq (tgt := 215) C0.1 C0.2.1 dX7_greater_199 (by decide) (fun _ => ?_) (fun h9 => absurd h9 (by decide))
              refine lv_iload C0.1 C0.2.1 dX7_greater_215 (lv_at hl 0 rfl) ?_
              refine lv_istore (lv' := [(8, .int 1), (7, .int 1), (6, .int 0), (5, .int 1), (4, .int 1), (0, .ref mo), (1, .int (nI j1)), (2, .int (nI j2)), (3, .int (nI i))]) C0.1 C0.2.1 dX7_greater_217 hl (by decide) rfl (fun ls hl => ?_)
              refine lv_iload C0.1 C0.2.1 dX7_greater_219 (lv_at hl 0 rfl) ?_
              refine lv_if_eq (tgt := 228) C0.1 C0.2.1 dX7_greater_221 (by decide) (fun h9 => absurd h9 (by decide)) (fun _ => ?_)
              refine lv_iconst (v := 1) C0.1 C0.2.1 dX7_greater_224 (by decide) ?_
              refine lv_goto (tgt := 229) C0.1 C0.2.1 dX7_greater_225 (by decide) ?_
              exact hv_iret C0 w hr hlk (by have h1 := ((nI_ltI (a := i) (by omega) (by omega)).mp (Int32.not_le.mp c_88)); have h2 := ((nI_ltI (a := i) (by omega) (by omega)).mp (Int32.not_le.mp c_105)); exact ⟨by rw [hsp]; rw [gr_both hkd h1 h2, if_pos (iff_of_false (fun h8 => h8.elim c_194 (fun h7 => c_134 h7.1)) (fun h9 => h9 (Int32.not_le.mp c_177)))], hM, hv_out.rf⟩) dX7_greater_229
        · skip
          refine lv_iload_n C0.1 C0.2.1 dX7_greater_137 rfl (lv_at hl 5 rfl) ?_
          refine lv_iconst (v := 2) C0.1 C0.2.1 dX7_greater_138 (by decide) ?_
          refine lv_irem C0.1 C0.2.1 dX7_greater_139 (by decide) ?_
          refine lv_iconst (v := 1) C0.1 C0.2.1 dX7_greater_140 (by decide) ?_
          refine lv_icmp_ne (tgt := 148) C0.1 C0.2.1 dX7_greater_141 (by decide) (fun c_141 => ?_) (fun c_141 => ?_)
          · skip
            refine lv_iconst (v := 0) C0.1 C0.2.1 dX7_greater_148 (by decide) ?_
            refine lv_istore (lv' := [(6, .int 0), (5, .int 1), (4, .int 1), (0, .ref mo), (1, .int (nI j1)), (2, .int (nI j2)), (3, .int (nI i))]) C0.1 C0.2.1 dX7_greater_149 hl (by decide) rfl (fun ls hl => ?_)
            refine lv_iload C0.1 C0.2.1 dX7_greater_151 (lv_at hl 2 rfl) ?_
            refine lv_if_eq (tgt := 230) C0.1 C0.2.1 dX7_greater_153 (by decide) (fun h9 => absurd h9 (by decide)) (fun _ => ?_)
            refine lv_iload C0.1 C0.2.1 dX7_greater_156 (lv_at hl 1 rfl) ?_
            refine lv_if_eq (tgt := 230) C0.1 C0.2.1 dX7_greater_158 (by decide) (fun h9 => absurd h9 (by decide)) (fun _ => ?_)
            have hlt9 : i < σ.1.1.2.1 j1 := (nI_ltI (a := i) (by omega) (by omega)).mp (Int32.not_le.mp c_88)
            refine lv_aload_n C0.1 C0.2.1 dX7_greater_161 rfl (lv_at hl 3 rfl) ?_
            refine gf_X7_20 C0 w hO rfl dX7_greater_162 ?_
            refine lv_iload_n C0.1 C0.2.1 dX7_greater_165 rfl (lv_at hl 4 rfl) ?_
            refine hv_aalA 6 rfl C0 w rfl r3 (hn_in hj1 (by decide)) (by rw [kj1]; exact r4 j1 hj1) dX7_greater_166 ?_
            refine lv_iload_n C0.1 C0.2.1 dX7_greater_167 rfl (lv_at hl 6 rfl) ?_
            refine hv_iald C0 w hN_j1 (hn_in (by omega) (by decide)) dX7_greater_168 ?_
            have hc11 : (nI i).toNatClampNeg = i := nI_clamp (by omega)
            rw [hc11]
            refine lv_aload_n C0.1 C0.2.1 dX7_greater_169 rfl (lv_at hl 3 rfl) ?_
            refine gf_X7_20 C0 w hO rfl dX7_greater_170 ?_
            refine lv_iload_n C0.1 C0.2.1 dX7_greater_173 rfl (lv_at hl 5 rfl) ?_
            refine hv_aalA 6 rfl C0 w rfl r3 (hn_in hj2 (by decide)) (by rw [kj2]; exact r4 j2 hj2) dX7_greater_174 ?_
            refine lv_iload_n C0.1 C0.2.1 dX7_greater_175 rfl (lv_at hl 6 rfl) ?_
            refine hv_iald C0 w hN_j2 (hn_in (by omega) (by decide)) dX7_greater_176 ?_
            have hc12 : (nI i).toNatClampNeg = i := nI_clamp (by omega)
            rw [hc12]
            refine lv_icmp_ge (tgt := 184) C0.1 C0.2.1 dX7_greater_177 (by decide) (fun c_177 => ?_) (fun c_177 => ?_)
            · skip
              refine lv_iconst (v := 0) C0.1 C0.2.1 dX7_greater_184 (by decide) ?_
              refine lv_istore (lv' := [(7, .int 0), (6, .int 0), (5, .int 1), (4, .int 1), (0, .ref mo), (1, .int (nI j1)), (2, .int (nI j2)), (3, .int (nI i))]) C0.1 C0.2.1 dX7_greater_185 hl (by decide) rfl (fun ls hl => ?_)
              refine lv_aload_n C0.1 C0.2.1 dX7_greater_187 rfl (lv_at hl 4 rfl) ?_
              refine gf_X7_11 C0 w hO rfl dX7_greater_188 ?_
              refine lv_iload_n C0.1 C0.2.1 dX7_greater_191 rfl (lv_at hl 5 rfl) ?_
              refine hv_iald C0 w r1 (hn_in hj1 (by decide)) dX7_greater_192 ?_
              have hc13 : (nI j1).toNatClampNeg = j1 := nI_clamp (by omega)
              rw [hc13]
              refine lv_iconst (v := 3) C0.1 C0.2.1 dX7_greater_193 (by decide) ?_
              refine lv_icmp_eq (tgt := 202) C0.1 C0.2.1 dX7_greater_194 (by decide) (fun c_194 => ?_) (fun c_194 => ?_)
              · skip
                refine lv_iload C0.1 C0.2.1 dX7_greater_202 (lv_at hl 0 rfl) ?_
                refine lv_if_ne (tgt := 211) C0.1 C0.2.1 dX7_greater_204 (by decide) (fun h9 => absurd h9 (by decide)) (fun _ => ?_)
                refine lv_iconst (v := 1) C0.1 C0.2.1 dX7_greater_207 (by decide) ?_
                refine lv_goto (tgt := 217) C0.1 C0.2.1 dX7_greater_208 (by decide) ?_
                refine lv_istore (lv' := [(8, .int 1), (7, .int 0), (6, .int 0), (5, .int 1), (4, .int 1), (0, .ref mo), (1, .int (nI j1)), (2, .int (nI j2)), (3, .int (nI i))]) C0.1 C0.2.1 dX7_greater_217 hl (by decide) rfl (fun ls hl => ?_)
                refine lv_iload C0.1 C0.2.1 dX7_greater_219 (lv_at hl 0 rfl) ?_
                refine lv_if_eq (tgt := 228) C0.1 C0.2.1 dX7_greater_221 (by decide) (fun h9 => absurd h9 (by decide)) (fun _ => ?_)
                refine lv_iconst (v := 1) C0.1 C0.2.1 dX7_greater_224 (by decide) ?_
                refine lv_goto (tgt := 229) C0.1 C0.2.1 dX7_greater_225 (by decide) ?_
                exact hv_iret C0 w hr hlk (by have h1 := ((nI_ltI (a := i) (by omega) (by omega)).mp (Int32.not_le.mp c_88)); have h2 := ((nI_ltI (a := i) (by omega) (by omega)).mp (Int32.not_le.mp c_105)); exact ⟨by rw [hsp]; rw [gr_both hkd h1 h2, if_pos (iff_of_true (Or.inl c_194) (Int32.not_lt.mpr c_177))], hM, hv_out.rf⟩) dX7_greater_229
              · skip
                refine lv_iload C0.1 C0.2.1 dX7_greater_197 (lv_at hl 1 rfl) ?_
                refine lv_if_eq (tgt := 215) C0.1 C0.2.1 dX7_greater_199 (by decide) (fun _ => ?_) (fun h9 => absurd h9 (by decide))
                refine lv_iload C0.1 C0.2.1 dX7_greater_215 (lv_at hl 0 rfl) ?_
                refine lv_istore (lv' := [(8, .int 0), (7, .int 0), (6, .int 0), (5, .int 1), (4, .int 1), (0, .ref mo), (1, .int (nI j1)), (2, .int (nI j2)), (3, .int (nI i))]) C0.1 C0.2.1 dX7_greater_217 hl (by decide) rfl (fun ls hl => ?_)
                refine lv_iload C0.1 C0.2.1 dX7_greater_219 (lv_at hl 0 rfl) ?_
                refine lv_if_eq (tgt := 228) C0.1 C0.2.1 dX7_greater_221 (by decide) (fun _ => ?_) (fun h9 => absurd h9 (by decide))
                refine lv_iconst (v := 2) C0.1 C0.2.1 dX7_greater_228 (by decide) ?_
                exact hv_iret C0 w hr hlk (by have h1 := ((nI_ltI (a := i) (by omega) (by omega)).mp (Int32.not_le.mp c_88)); have h2 := ((nI_ltI (a := i) (by omega) (by omega)).mp (Int32.not_le.mp c_105)); exact ⟨by rw [hsp]; rw [gr_both hkd h1 h2, if_neg (fun h9 => (fun h8 => h8.elim c_194 (fun h7 => c_141 h7.2)) (h9.mpr (Int32.not_lt.mpr c_177)))], hM, hv_out.rf⟩) dX7_greater_229
            · skip
              refine lv_iconst (v := 1) C0.1 C0.2.1 dX7_greater_180 (by decide) ?_
              refine lv_goto (tgt := 185) C0.1 C0.2.1 dX7_greater_181 (by decide) ?_
              refine lv_istore (lv' := [(7, .int 1), (6, .int 0), (5, .int 1), (4, .int 1), (0, .ref mo), (1, .int (nI j1)), (2, .int (nI j2)), (3, .int (nI i))]) C0.1 C0.2.1 dX7_greater_185 hl (by decide) rfl (fun ls hl => ?_)
              refine lv_aload_n C0.1 C0.2.1 dX7_greater_187 rfl (lv_at hl 4 rfl) ?_
              refine gf_X7_11 C0 w hO rfl dX7_greater_188 ?_
              refine lv_iload_n C0.1 C0.2.1 dX7_greater_191 rfl (lv_at hl 5 rfl) ?_
              refine hv_iald C0 w r1 (hn_in hj1 (by decide)) dX7_greater_192 ?_
              have hc14 : (nI j1).toNatClampNeg = j1 := nI_clamp (by omega)
              rw [hc14]
              refine lv_iconst (v := 3) C0.1 C0.2.1 dX7_greater_193 (by decide) ?_
              refine lv_icmp_eq (tgt := 202) C0.1 C0.2.1 dX7_greater_194 (by decide) (fun c_194 => ?_) (fun c_194 => ?_)
              · skip
                refine lv_iload C0.1 C0.2.1 dX7_greater_202 (lv_at hl 0 rfl) ?_
                refine lv_if_ne (tgt := 211) C0.1 C0.2.1 dX7_greater_204 (by decide) (fun _ => ?_) (fun h9 => absurd h9 (by decide))
                refine lv_iconst (v := 0) C0.1 C0.2.1 dX7_greater_211 (by decide) ?_
                refine lv_goto (tgt := 217) C0.1 C0.2.1 dX7_greater_212 (by decide) ?_
                refine lv_istore (lv' := [(8, .int 0), (7, .int 1), (6, .int 0), (5, .int 1), (4, .int 1), (0, .ref mo), (1, .int (nI j1)), (2, .int (nI j2)), (3, .int (nI i))]) C0.1 C0.2.1 dX7_greater_217 hl (by decide) rfl (fun ls hl => ?_)
                refine lv_iload C0.1 C0.2.1 dX7_greater_219 (lv_at hl 0 rfl) ?_
                refine lv_if_eq (tgt := 228) C0.1 C0.2.1 dX7_greater_221 (by decide) (fun _ => ?_) (fun h9 => absurd h9 (by decide))
                refine lv_iconst (v := 2) C0.1 C0.2.1 dX7_greater_228 (by decide) ?_
                exact hv_iret C0 w hr hlk (by have h1 := ((nI_ltI (a := i) (by omega) (by omega)).mp (Int32.not_le.mp c_88)); have h2 := ((nI_ltI (a := i) (by omega) (by omega)).mp (Int32.not_le.mp c_105)); exact ⟨by rw [hsp]; rw [gr_both hkd h1 h2, if_neg (fun h9 => (h9.mp (Or.inl c_194)) (Int32.not_le.mp c_177))], hM, hv_out.rf⟩) dX7_greater_229
              · skip
                refine lv_iload C0.1 C0.2.1 dX7_greater_197 (lv_at hl 1 rfl) ?_
                refine lv_if_eq (tgt := 215) C0.1 C0.2.1 dX7_greater_199 (by decide) (fun _ => ?_) (fun h9 => absurd h9 (by decide))
                refine lv_iload C0.1 C0.2.1 dX7_greater_215 (lv_at hl 0 rfl) ?_
                refine lv_istore (lv' := [(8, .int 1), (7, .int 1), (6, .int 0), (5, .int 1), (4, .int 1), (0, .ref mo), (1, .int (nI j1)), (2, .int (nI j2)), (3, .int (nI i))]) C0.1 C0.2.1 dX7_greater_217 hl (by decide) rfl (fun ls hl => ?_)
                refine lv_iload C0.1 C0.2.1 dX7_greater_219 (lv_at hl 0 rfl) ?_
                refine lv_if_eq (tgt := 228) C0.1 C0.2.1 dX7_greater_221 (by decide) (fun h9 => absurd h9 (by decide)) (fun _ => ?_)
                refine lv_iconst (v := 1) C0.1 C0.2.1 dX7_greater_224 (by decide) ?_
                refine lv_goto (tgt := 229) C0.1 C0.2.1 dX7_greater_225 (by decide) ?_
                exact hv_iret C0 w hr hlk (by have h1 := ((nI_ltI (a := i) (by omega) (by omega)).mp (Int32.not_le.mp c_88)); have h2 := ((nI_ltI (a := i) (by omega) (by omega)).mp (Int32.not_le.mp c_105)); exact ⟨by rw [hsp]; rw [gr_both hkd h1 h2, if_pos (iff_of_false (fun h8 => h8.elim c_194 (fun h7 => c_141 h7.2)) (fun h9 => h9 (Int32.not_le.mp c_177)))], hM, hv_out.rf⟩) dX7_greater_229
          · skip
            refine lv_iconst (v := 1) C0.1 C0.2.1 dX7_greater_144 (by decide) ?_
            refine lv_goto (tgt := 149) C0.1 C0.2.1 dX7_greater_145 (by decide) ?_
            refine lv_istore (lv' := [(6, .int 1), (5, .int 1), (4, .int 1), (0, .ref mo), (1, .int (nI j1)), (2, .int (nI j2)), (3, .int (nI i))]) C0.1 C0.2.1 dX7_greater_149 hl (by decide) rfl (fun ls hl => ?_)
            refine lv_iload C0.1 C0.2.1 dX7_greater_151 (lv_at hl 2 rfl) ?_
            refine lv_if_eq (tgt := 230) C0.1 C0.2.1 dX7_greater_153 (by decide) (fun h9 => absurd h9 (by decide)) (fun _ => ?_)
            refine lv_iload C0.1 C0.2.1 dX7_greater_156 (lv_at hl 1 rfl) ?_
            refine lv_if_eq (tgt := 230) C0.1 C0.2.1 dX7_greater_158 (by decide) (fun h9 => absurd h9 (by decide)) (fun _ => ?_)
            have hlt9 : i < σ.1.1.2.1 j1 := (nI_ltI (a := i) (by omega) (by omega)).mp (Int32.not_le.mp c_88)
            refine lv_aload_n C0.1 C0.2.1 dX7_greater_161 rfl (lv_at hl 3 rfl) ?_
            refine gf_X7_20 C0 w hO rfl dX7_greater_162 ?_
            refine lv_iload_n C0.1 C0.2.1 dX7_greater_165 rfl (lv_at hl 4 rfl) ?_
            refine hv_aalA 6 rfl C0 w rfl r3 (hn_in hj1 (by decide)) (by rw [kj1]; exact r4 j1 hj1) dX7_greater_166 ?_
            refine lv_iload_n C0.1 C0.2.1 dX7_greater_167 rfl (lv_at hl 6 rfl) ?_
            refine hv_iald C0 w hN_j1 (hn_in (by omega) (by decide)) dX7_greater_168 ?_
            have hc15 : (nI i).toNatClampNeg = i := nI_clamp (by omega)
            rw [hc15]
            refine lv_aload_n C0.1 C0.2.1 dX7_greater_169 rfl (lv_at hl 3 rfl) ?_
            refine gf_X7_20 C0 w hO rfl dX7_greater_170 ?_
            refine lv_iload_n C0.1 C0.2.1 dX7_greater_173 rfl (lv_at hl 5 rfl) ?_
            refine hv_aalA 6 rfl C0 w rfl r3 (hn_in hj2 (by decide)) (by rw [kj2]; exact r4 j2 hj2) dX7_greater_174 ?_
            refine lv_iload_n C0.1 C0.2.1 dX7_greater_175 rfl (lv_at hl 6 rfl) ?_
            refine hv_iald C0 w hN_j2 (hn_in (by omega) (by decide)) dX7_greater_176 ?_
            have hc16 : (nI i).toNatClampNeg = i := nI_clamp (by omega)
            rw [hc16]
            refine lv_icmp_ge (tgt := 184) C0.1 C0.2.1 dX7_greater_177 (by decide) (fun c_177 => ?_) (fun c_177 => ?_)
            · skip
              refine lv_iconst (v := 0) C0.1 C0.2.1 dX7_greater_184 (by decide) ?_
              refine lv_istore (lv' := [(7, .int 0), (6, .int 1), (5, .int 1), (4, .int 1), (0, .ref mo), (1, .int (nI j1)), (2, .int (nI j2)), (3, .int (nI i))]) C0.1 C0.2.1 dX7_greater_185 hl (by decide) rfl (fun ls hl => ?_)
              refine lv_aload_n C0.1 C0.2.1 dX7_greater_187 rfl (lv_at hl 4 rfl) ?_
              refine gf_X7_11 C0 w hO rfl dX7_greater_188 ?_
              refine lv_iload_n C0.1 C0.2.1 dX7_greater_191 rfl (lv_at hl 5 rfl) ?_
              refine hv_iald C0 w r1 (hn_in hj1 (by decide)) dX7_greater_192 ?_
              have hc17 : (nI j1).toNatClampNeg = j1 := nI_clamp (by omega)
              rw [hc17]
              refine lv_iconst (v := 3) C0.1 C0.2.1 dX7_greater_193 (by decide) ?_
              refine lv_icmp_eq (tgt := 202) C0.1 C0.2.1 dX7_greater_194 (by decide) (fun c_194 => ?_) (fun c_194 => ?_)
              · skip
                refine lv_iload C0.1 C0.2.1 dX7_greater_202 (lv_at hl 0 rfl) ?_
                refine lv_if_ne (tgt := 211) C0.1 C0.2.1 dX7_greater_204 (by decide) (fun h9 => absurd h9 (by decide)) (fun _ => ?_)
                refine lv_iconst (v := 1) C0.1 C0.2.1 dX7_greater_207 (by decide) ?_
                refine lv_goto (tgt := 217) C0.1 C0.2.1 dX7_greater_208 (by decide) ?_
                refine lv_istore (lv' := [(8, .int 1), (7, .int 0), (6, .int 1), (5, .int 1), (4, .int 1), (0, .ref mo), (1, .int (nI j1)), (2, .int (nI j2)), (3, .int (nI i))]) C0.1 C0.2.1 dX7_greater_217 hl (by decide) rfl (fun ls hl => ?_)
                refine lv_iload C0.1 C0.2.1 dX7_greater_219 (lv_at hl 0 rfl) ?_
                refine lv_if_eq (tgt := 228) C0.1 C0.2.1 dX7_greater_221 (by decide) (fun h9 => absurd h9 (by decide)) (fun _ => ?_)
                refine lv_iconst (v := 1) C0.1 C0.2.1 dX7_greater_224 (by decide) ?_
                refine lv_goto (tgt := 229) C0.1 C0.2.1 dX7_greater_225 (by decide) ?_
                exact hv_iret C0 w hr hlk (by have h1 := ((nI_ltI (a := i) (by omega) (by omega)).mp (Int32.not_le.mp c_88)); have h2 := ((nI_ltI (a := i) (by omega) (by omega)).mp (Int32.not_le.mp c_105)); exact ⟨by rw [hsp]; rw [gr_both hkd h1 h2, if_pos (iff_of_true (Or.inl c_194) (Int32.not_lt.mpr c_177))], hM, hv_out.rf⟩) dX7_greater_229
              · skip
                refine lv_iload C0.1 C0.2.1 dX7_greater_197 (lv_at hl 1 rfl) ?_
                refine lv_if_eq (tgt := 215) C0.1 C0.2.1 dX7_greater_199 (by decide) (fun h9 => absurd h9 (by decide)) (fun _ => ?_)
                refine lv_iload C0.1 C0.2.1 dX7_greater_202 (lv_at hl 0 rfl) ?_
                refine lv_if_ne (tgt := 211) C0.1 C0.2.1 dX7_greater_204 (by decide) (fun h9 => absurd h9 (by decide)) (fun _ => ?_)
                refine lv_iconst (v := 1) C0.1 C0.2.1 dX7_greater_207 (by decide) ?_
                refine lv_goto (tgt := 217) C0.1 C0.2.1 dX7_greater_208 (by decide) ?_
                refine lv_istore (lv' := [(8, .int 1), (7, .int 0), (6, .int 1), (5, .int 1), (4, .int 1), (0, .ref mo), (1, .int (nI j1)), (2, .int (nI j2)), (3, .int (nI i))]) C0.1 C0.2.1 dX7_greater_217 hl (by decide) rfl (fun ls hl => ?_)
                refine lv_iload C0.1 C0.2.1 dX7_greater_219 (lv_at hl 0 rfl) ?_
                refine lv_if_eq (tgt := 228) C0.1 C0.2.1 dX7_greater_221 (by decide) (fun h9 => absurd h9 (by decide)) (fun _ => ?_)
                refine lv_iconst (v := 1) C0.1 C0.2.1 dX7_greater_224 (by decide) ?_
                refine lv_goto (tgt := 229) C0.1 C0.2.1 dX7_greater_225 (by decide) ?_
                exact hv_iret C0 w hr hlk (by have h1 := ((nI_ltI (a := i) (by omega) (by omega)).mp (Int32.not_le.mp c_88)); have h2 := ((nI_ltI (a := i) (by omega) (by omega)).mp (Int32.not_le.mp c_105)); exact ⟨by rw [hsp]; rw [gr_both hkd h1 h2, if_pos (iff_of_true (Or.inr (And.intro c_134 c_141)) (Int32.not_lt.mpr c_177))], hM, hv_out.rf⟩) dX7_greater_229
            · skip
              refine lv_iconst (v := 1) C0.1 C0.2.1 dX7_greater_180 (by decide) ?_
              refine lv_goto (tgt := 185) C0.1 C0.2.1 dX7_greater_181 (by decide) ?_
              refine lv_istore (lv' := [(7, .int 1), (6, .int 1), (5, .int 1), (4, .int 1), (0, .ref mo), (1, .int (nI j1)), (2, .int (nI j2)), (3, .int (nI i))]) C0.1 C0.2.1 dX7_greater_185 hl (by decide) rfl (fun ls hl => ?_)
              refine lv_aload_n C0.1 C0.2.1 dX7_greater_187 rfl (lv_at hl 4 rfl) ?_
              refine gf_X7_11 C0 w hO rfl dX7_greater_188 ?_
              refine lv_iload_n C0.1 C0.2.1 dX7_greater_191 rfl (lv_at hl 5 rfl) ?_
              refine hv_iald C0 w r1 (hn_in hj1 (by decide)) dX7_greater_192 ?_
              have hc18 : (nI j1).toNatClampNeg = j1 := nI_clamp (by omega)
              rw [hc18]
              refine lv_iconst (v := 3) C0.1 C0.2.1 dX7_greater_193 (by decide) ?_
              refine lv_icmp_eq (tgt := 202) C0.1 C0.2.1 dX7_greater_194 (by decide) (fun c_194 => ?_) (fun c_194 => ?_)
              · skip
                refine lv_iload C0.1 C0.2.1 dX7_greater_202 (lv_at hl 0 rfl) ?_
                refine lv_if_ne (tgt := 211) C0.1 C0.2.1 dX7_greater_204 (by decide) (fun _ => ?_) (fun h9 => absurd h9 (by decide))
                refine lv_iconst (v := 0) C0.1 C0.2.1 dX7_greater_211 (by decide) ?_
                refine lv_goto (tgt := 217) C0.1 C0.2.1 dX7_greater_212 (by decide) ?_
                refine lv_istore (lv' := [(8, .int 0), (7, .int 1), (6, .int 1), (5, .int 1), (4, .int 1), (0, .ref mo), (1, .int (nI j1)), (2, .int (nI j2)), (3, .int (nI i))]) C0.1 C0.2.1 dX7_greater_217 hl (by decide) rfl (fun ls hl => ?_)
                refine lv_iload C0.1 C0.2.1 dX7_greater_219 (lv_at hl 0 rfl) ?_
                refine lv_if_eq (tgt := 228) C0.1 C0.2.1 dX7_greater_221 (by decide) (fun _ => ?_) (fun h9 => absurd h9 (by decide))
                refine lv_iconst (v := 2) C0.1 C0.2.1 dX7_greater_228 (by decide) ?_
                exact hv_iret C0 w hr hlk (by have h1 := ((nI_ltI (a := i) (by omega) (by omega)).mp (Int32.not_le.mp c_88)); have h2 := ((nI_ltI (a := i) (by omega) (by omega)).mp (Int32.not_le.mp c_105)); exact ⟨by rw [hsp]; rw [gr_both hkd h1 h2, if_neg (fun h9 => (h9.mp (Or.inl c_194)) (Int32.not_le.mp c_177))], hM, hv_out.rf⟩) dX7_greater_229
              · skip
                refine lv_iload C0.1 C0.2.1 dX7_greater_197 (lv_at hl 1 rfl) ?_
                refine lv_if_eq (tgt := 215) C0.1 C0.2.1 dX7_greater_199 (by decide) (fun h9 => absurd h9 (by decide)) (fun _ => ?_)
                refine lv_iload C0.1 C0.2.1 dX7_greater_202 (lv_at hl 0 rfl) ?_
                refine lv_if_ne (tgt := 211) C0.1 C0.2.1 dX7_greater_204 (by decide) (fun _ => ?_) (fun h9 => absurd h9 (by decide))
                refine lv_iconst (v := 0) C0.1 C0.2.1 dX7_greater_211 (by decide) ?_
                refine lv_goto (tgt := 217) C0.1 C0.2.1 dX7_greater_212 (by decide) ?_
                refine lv_istore (lv' := [(8, .int 0), (7, .int 1), (6, .int 1), (5, .int 1), (4, .int 1), (0, .ref mo), (1, .int (nI j1)), (2, .int (nI j2)), (3, .int (nI i))]) C0.1 C0.2.1 dX7_greater_217 hl (by decide) rfl (fun ls hl => ?_)
                refine lv_iload C0.1 C0.2.1 dX7_greater_219 (lv_at hl 0 rfl) ?_
                refine lv_if_eq (tgt := 228) C0.1 C0.2.1 dX7_greater_221 (by decide) (fun _ => ?_) (fun h9 => absurd h9 (by decide))
                refine lv_iconst (v := 2) C0.1 C0.2.1 dX7_greater_228 (by decide) ?_
                exact hv_iret C0 w hr hlk (by have h1 := ((nI_ltI (a := i) (by omega) (by omega)).mp (Int32.not_le.mp c_88)); have h2 := ((nI_ltI (a := i) (by omega) (by omega)).mp (Int32.not_le.mp c_105)); exact ⟨by rw [hsp]; rw [gr_both hkd h1 h2, if_neg (fun h9 => (h9.mp (Or.inr (And.intro c_134 c_141))) (Int32.not_le.mp c_177))], hM, hv_out.rf⟩) dX7_greater_229
  have loop : ∀ (hsp : sp_great σ (nI j1) (nI j2) = sp_greater (σ.1.1.1 j1) (σ.1.1.2.1 j1) (σ.1.1.2.1 j2) (σ.1.1.2.2 j1) (σ.1.1.2.2 j2)) (m9 i : Nat) (Hq : Heap) (lq : List Loc) (ls : Array Slot), (i + m9 = sp_mm (σ.1.1.2.1 j1) (σ.1.1.2.1 j2)) → (sp_dif (σ.1.1.2.2 j1) (σ.1.1.2.2 j2) m9 i = sp_dif (σ.1.1.2.2 j1) (σ.1.1.2.2 j2) (sp_mm (σ.1.1.2.1 j1) (σ.1.1.2.1 j2)) 0) → hv_w X s (V) Hq lq → lv_has ls 9 [(0, .ref mo), (1, .int (nI j1)), (2, .int (nI j2)), (3, .int (nI i))] → W p l e (hv_rm 220 0 0) s m ([.ref mo, .int (nI j1), .int (nI j2)] : List Value).toArray below meth c Hq lq 0 0 (MQ below (hv_Qi X (fun y V1 => y = sp_great σ (nI j1) (nI j2) ∧ okM X V1 mo σ ∧ hv_out V V1 mo (mo + 50))) ([.ref mo, .int (nI j1), .int (nI j2)] : List Value).toArray s 0 0 X.2.2.1) (F0 m 36 ls []) := by
    intro hsp m9
    induction m9 with
    | zero =>
      intro i Hq lq ls hi he w hl
      have he : i = sp_dif (σ.1.1.2.2 j1) (σ.1.1.2.2 j2) (sp_mm (σ.1.1.2.1 j1) (σ.1.1.2.1 j2)) 0 := he
      by_cases q9 : i = σ.1.1.2.1 j1
      · skip
        refine lv_iload_n C0.1 C0.2.1 dX7_greater_36 rfl (lv_at hl 3 rfl) ?_
        refine lv_aload_n C0.1 C0.2.1 dX7_greater_37 rfl (lv_at hl 0 rfl) ?_
        refine gf_X7_15 C0 w hO rfl dX7_greater_38 ?_
        refine lv_iload_n C0.1 C0.2.1 dX7_greater_41 rfl (lv_at hl 1 rfl) ?_
        refine hv_iald C0 w r2 (hn_in hj1 (by decide)) dX7_greater_42 ?_
        have hc1 : (nI j1).toNatClampNeg = j1 := nI_clamp (by omega)
        rw [hc1]
        refine lv_icmp_ge (tgt := 81) C0.1 C0.2.1 dX7_greater_43 (by decide) (fun c_43 => ?_) (fun c_43 => absurd (nI_le (by omega) (by omega)) c_43)
        exact fin i _ _ ls (by omega) (by rw [hsp, sp_greater, ← he]) w (lv_sub hl [0, 1, 2, 3] rfl)
      · skip
        refine lv_iload_n C0.1 C0.2.1 dX7_greater_36 rfl (lv_at hl 3 rfl) ?_
        refine lv_aload_n C0.1 C0.2.1 dX7_greater_37 rfl (lv_at hl 0 rfl) ?_
        refine gf_X7_15 C0 w hO rfl dX7_greater_38 ?_
        refine lv_iload_n C0.1 C0.2.1 dX7_greater_41 rfl (lv_at hl 1 rfl) ?_
        refine hv_iald C0 w r2 (hn_in hj1 (by decide)) dX7_greater_42 ?_
        have hc2 : (nI j1).toNatClampNeg = j1 := nI_clamp (by omega)
        rw [hc2]
        refine lv_icmp_ge (tgt := 81) C0.1 C0.2.1 dX7_greater_43 (by decide) (fun c_43 => absurd c_43 (nI_ge (by omega) (by omega))) (fun c_43 => ?_)
        refine lv_iload_n C0.1 C0.2.1 dX7_greater_46 rfl (lv_at hl 3 rfl) ?_
        refine lv_aload_n C0.1 C0.2.1 dX7_greater_47 rfl (lv_at hl 0 rfl) ?_
        refine gf_X7_15 C0 w hO rfl dX7_greater_48 ?_
        refine lv_iload_n C0.1 C0.2.1 dX7_greater_51 rfl (lv_at hl 2 rfl) ?_
        refine hv_iald C0 w r2 (hn_in hj2 (by decide)) dX7_greater_52 ?_
        have hc3 : (nI j2).toNatClampNeg = j2 := nI_clamp (by omega)
        rw [hc3]
        refine lv_icmp_ge (tgt := 81) C0.1 C0.2.1 dX7_greater_53 (by decide) (fun c_53 => ?_) (fun c_53 => absurd (nI_le (by omega) (by omega)) c_53)
        exact fin i _ _ ls (by omega) (by rw [hsp, sp_greater, ← he]) w (lv_sub hl [0, 1, 2, 3] rfl)
    | succ m9 ih =>
      intro i Hq lq ls hi he w hl
      refine lv_iload_n C0.1 C0.2.1 dX7_greater_36 rfl (lv_at hl 3 rfl) ?_
      refine lv_aload_n C0.1 C0.2.1 dX7_greater_37 rfl (lv_at hl 0 rfl) ?_
      refine gf_X7_15 C0 w hO rfl dX7_greater_38 ?_
      refine lv_iload_n C0.1 C0.2.1 dX7_greater_41 rfl (lv_at hl 1 rfl) ?_
      refine hv_iald C0 w r2 (hn_in hj1 (by decide)) dX7_greater_42 ?_
      have hc1 : (nI j1).toNatClampNeg = j1 := nI_clamp (by omega)
      rw [hc1]
      refine lv_icmp_ge (tgt := 81) C0.1 C0.2.1 dX7_greater_43 (by decide) (fun c_43 => absurd c_43 (nI_ge (by omega) (by omega))) (fun c_43 => ?_)
      refine lv_iload_n C0.1 C0.2.1 dX7_greater_46 rfl (lv_at hl 3 rfl) ?_
      refine lv_aload_n C0.1 C0.2.1 dX7_greater_47 rfl (lv_at hl 0 rfl) ?_
      refine gf_X7_15 C0 w hO rfl dX7_greater_48 ?_
      refine lv_iload_n C0.1 C0.2.1 dX7_greater_51 rfl (lv_at hl 2 rfl) ?_
      refine hv_iald C0 w r2 (hn_in hj2 (by decide)) dX7_greater_52 ?_
      have hc2 : (nI j2).toNatClampNeg = j2 := nI_clamp (by omega)
      rw [hc2]
      refine lv_icmp_ge (tgt := 81) C0.1 C0.2.1 dX7_greater_53 (by decide) (fun c_53 => absurd c_53 (nI_ge (by omega) (by omega))) (fun c_53 => ?_)
      refine lv_aload_n C0.1 C0.2.1 dX7_greater_56 rfl (lv_at hl 0 rfl) ?_
      refine gf_X7_20 C0 w hO rfl dX7_greater_57 ?_
      refine lv_iload_n C0.1 C0.2.1 dX7_greater_60 rfl (lv_at hl 1 rfl) ?_
      refine hv_aalA 6 rfl C0 w rfl r3 (hn_in hj1 (by decide)) (by rw [kj1]; exact r4 j1 hj1) dX7_greater_61 ?_
      refine lv_iload_n C0.1 C0.2.1 dX7_greater_62 rfl (lv_at hl 3 rfl) ?_
      refine hv_iald C0 w hN_j1 (hn_in (by omega) (by decide)) dX7_greater_63 ?_
      have hc3 : (nI i).toNatClampNeg = i := nI_clamp (by omega)
      rw [hc3]
      refine lv_aload_n C0.1 C0.2.1 dX7_greater_64 rfl (lv_at hl 0 rfl) ?_
      refine gf_X7_20 C0 w hO rfl dX7_greater_65 ?_
      refine lv_iload_n C0.1 C0.2.1 dX7_greater_68 rfl (lv_at hl 2 rfl) ?_
      refine hv_aalA 6 rfl C0 w rfl r3 (hn_in hj2 (by decide)) (by rw [kj2]; exact r4 j2 hj2) dX7_greater_69 ?_
      refine lv_iload_n C0.1 C0.2.1 dX7_greater_70 rfl (lv_at hl 3 rfl) ?_
      refine hv_iald C0 w hN_j2 (hn_in (by omega) (by decide)) dX7_greater_71 ?_
      have hc4 : (nI i).toNatClampNeg = i := nI_clamp (by omega)
      rw [hc4]
      refine lv_icmp_ne (tgt := 81) C0.1 C0.2.1 dX7_greater_72 (by decide) (fun c_72 => ?_) (fun c_72 => ?_)
      · skip
        exact fin i _ _ ls (by omega) (by rw [hsp, sp_greater, ← he, sp_dif, if_neg c_72]) w (lv_sub hl [0, 1, 2, 3] rfl)
      · skip
        refine lv_iinc (v := (nI i) + 1) (lv' := [(3, .int ((nI i) + 1)), (0, .ref mo), (1, .int (nI j1)), (2, .int (nI j2))]) C0.1 C0.2.1 dX7_greater_75 hl (k := 3) rfl rfl (by decide) rfl (fun ls hl => ?_)
        refine lv_goto (tgt := 36) C0.1 C0.2.1 dX7_greater_78 (by decide) ?_
        exact ih (i + 1) _ _ ls (by omega) (by rw [← he, sp_dif, if_pos c_72]) w (by have h9 := (lv_sub (l' := [(0, .ref mo), (1, .int (nI j1)), (2, .int (nI j2)), (3, .int (nI i + 1))]) hl [1, 2, 3, 0] rfl); rw [nI_1] at h9; exact h9)
  refine lv_iload_n C0.1 C0.2.1 dX7_greater_0 rfl (lv_at hl 1 rfl) ?_
  refine hv_cSi (As := [.int (nI j1)]) C0 w kl_X7_135 ks_X7_isRow (c_X7_isRow) (by decide) (by decide) rfl hl.1 rfl (Nat.le_of_ble_eq_true rfl) dX7_greater_1 ⟨Nat.le_refl _, Nat.le_refl _⟩ (fun x1 V2 Hq lq hp3 w => ?_)
  obtain ⟨e9, hz9⟩ := hp3
  rw [e9] at w; clear e9
  obtain ⟨ex9, -⟩ | ⟨-, hno⟩ := hz9
  rotate_left
  · exact absurd hrj hno
  rw [ex9]; clear ex9
  refine lv_if_eq (tgt := 14) C0.1 C0.2.1 dX7_greater_4 (by decide) (fun h9 => absurd h9 (by decide)) (fun _ => ?_)
  refine lv_iload_n C0.1 C0.2.1 dX7_greater_7 rfl (lv_at hl 2 rfl) ?_
  refine hv_cSi (As := [.int (nI j2)]) C0 w kl_X7_135 ks_X7_isRow (c_X7_isRow) (by decide) (by decide) rfl hl.1 rfl (Nat.le_of_ble_eq_true rfl) dX7_greater_8 ⟨Nat.le_refl _, Nat.le_refl _⟩ (fun x4 V5 Hq lq hp6 w => ?_)
  obtain ⟨e9, hz9⟩ := hp6
  rw [e9] at w; clear e9
  obtain ⟨ex9, -⟩ | ⟨-, hno⟩ := hz9
  rotate_left
  · exact absurd hrk hno
  rw [ex9]; clear ex9
  refine lv_if_ne (tgt := 16) C0.1 C0.2.1 dX7_greater_11 (by decide) (fun _ => ?_) (fun h9 => absurd h9 (by decide))
  refine lv_aload_n C0.1 C0.2.1 dX7_greater_16 rfl (lv_at hl 0 rfl) ?_
  refine gf_X7_11 C0 w hO rfl dX7_greater_17 ?_
  refine lv_iload_n C0.1 C0.2.1 dX7_greater_20 rfl (lv_at hl 1 rfl) ?_
  refine hv_iald C0 w r1 (hn_in hj1 (by decide)) dX7_greater_21 ?_
  have hc7 : (nI j1).toNatClampNeg = j1 := nI_clamp (by omega)
  rw [hc7]
  refine lv_aload_n C0.1 C0.2.1 dX7_greater_22 rfl (lv_at hl 0 rfl) ?_
  refine gf_X7_11 C0 w hO rfl dX7_greater_23 ?_
  refine lv_iload_n C0.1 C0.2.1 dX7_greater_26 rfl (lv_at hl 2 rfl) ?_
  refine hv_iald C0 w r1 (hn_in hj2 (by decide)) dX7_greater_27 ?_
  have hc8 : (nI j2).toNatClampNeg = j2 := nI_clamp (by omega)
  rw [hc8]
  refine lv_icmp_eq (tgt := 34) C0.1 C0.2.1 dX7_greater_28 (by decide) (fun c_28 => ?_) (fun c_28 => ?_)
  · skip
    refine lv_iconst (v := 0) C0.1 C0.2.1 dX7_greater_34 (by decide) ?_
    refine lv_istore_n (lv' := [(3, .int 0), (0, .ref mo), (1, .int (nI j1)), (2, .int (nI j2))]) C0.1 C0.2.1 dX7_greater_35 rfl hl (by decide) rfl (fun ls hl => ?_)
    exact loop (by rw [sp_great, if_pos ⟨hrj, hrk⟩, kj1, kj2, if_pos c_28]) (sp_mm (σ.1.1.2.1 j1) (σ.1.1.2.1 j2)) 0 _ _ ls (by omega) rfl w (lv_sub hl [1, 2, 3, 0] rfl)
  · skip
    refine lv_bipush (v := -3) C0.1 C0.2.1 dX7_greater_31 (by decide) ?_
    exact hv_iret C0 w hr hlk (by rw [sp_great, if_pos ⟨hrj, hrk⟩, kj1, kj2, if_neg c_28]; exact ⟨rfl, hM, hv_out.rf⟩) dX7_greater_33

set_option maxHeartbeats 4000000 in
set_option maxRecDepth 100000 in
theorem n_X7_greater {l : Launch} {X : hv_X} {V : hv_V} {mo : Nat} {σ : hs_S} (hM : okM X V mo σ) (hB : hs_b σ) {a b : Int32} (hno : ¬ (sp_in a 0 5 ∧ sp_in b 0 5)) : hv_Mi l X 220 yX7_greater cX7_greater 9 .int V [.ref mo, .int a, .int b] (fun y V1 => y = sp_great σ a b ∧ okM X V1 mo σ ∧ hv_out V V1 mo (mo + 50)) := by
  refine hv_enter (by decide) (Nat.le_of_ble_eq_true rfl) ?_
  intro p e s m below meth c ls C0 hr hlk hnm w hl
  have hl : lv_has ls 9 [(0, .ref mo), (1, .int a), (2, .int b)] := hl
  obtain ⟨ab, be, pl, cl, sg, ik, hO, hRw, hTx, hSc, hSe, hEv, hBk, hIm, hTp⟩ := id hM
  obtain ⟨r1, r2, ⟨rf, r3, r4⟩, r5⟩ := id hRw
  obtain ⟨⟨wd, s1⟩, ⟨td, s2⟩, ⟨sn, s3⟩, ⟨ut, s4⟩, kn, s5⟩ := id hSc
  obtain ⟨sf, sg9, sh, e1, e2, e3, ea⟩ := id hSe
  obtain ⟨ef, eg, v1, v2, va⟩ := id hEv
  obtain ⟨bf, bg, b1, b2, ba⟩ := id hBk
  obtain ⟨t1, t2, ⟨tf, t3, t4⟩, t5⟩ := id hTp
  have hbR := hB.1.1
  refine lv_iload_n C0.1 C0.2.1 dX7_greater_0 rfl (lv_at hl 1 rfl) ?_
  refine hv_cSi (As := [.int a]) C0 w kl_X7_135 ks_X7_isRow (c_X7_isRow) (by decide) (by decide) rfl hl.1 rfl (Nat.le_of_ble_eq_true rfl) dX7_greater_1 ⟨Nat.le_refl _, Nat.le_refl _⟩ (fun x1 V2 Hq lq hp3 w => ?_)
  obtain ⟨e9, hz9⟩ := hp3
  rw [e9] at w; clear e9
  rcases hz9 with ⟨rfl, hb4⟩ | ⟨rfl, hb4⟩
  · skip
    have ihb4 := hb4
    obtain ⟨j1, hj1, rfl⟩ := sp_inN (k := 5) (by decide) hb4
    have kj1 : (nI j1).toNatClampNeg = j1 := nI_clamp (by omega)
    have hN_j1 : V (mo + 4 + j1) = some (nE X (σ.1.1.2.2 j1)) := r5 j1 hj1
    have hn_j1 : σ.1.1.2.1 j1 ≤ 16 := (hbR j1 hj1).2.1
    refine lv_if_eq (tgt := 14) C0.1 C0.2.1 dX7_greater_4 (by decide) (fun h9 => absurd h9 (by decide)) (fun _ => ?_)
    refine lv_iload_n C0.1 C0.2.1 dX7_greater_7 rfl (lv_at hl 2 rfl) ?_
    refine hv_cSi (As := [.int b]) C0 w kl_X7_135 ks_X7_isRow (c_X7_isRow) (by decide) (by decide) rfl hl.1 rfl (Nat.le_of_ble_eq_true rfl) dX7_greater_8 ⟨Nat.le_refl _, Nat.le_refl _⟩ (fun x5 V6 Hq lq hp7 w => ?_)
    obtain ⟨e9, hz9⟩ := hp7
    rw [e9] at w; clear e9
    rcases hz9 with ⟨rfl, hb8⟩ | ⟨rfl, hb8⟩
    · skip
      have ihb8 := hb8
      obtain ⟨j2, hj2, rfl⟩ := sp_inN (k := 5) (by decide) hb8
      have kj2 : (nI j2).toNatClampNeg = j2 := nI_clamp (by omega)
      have hN_j2 : V (mo + 4 + j2) = some (nE X (σ.1.1.2.2 j2)) := r5 j2 hj2
      have hn_j2 : σ.1.1.2.1 j2 ≤ 16 := (hbR j2 hj2).2.1
      refine lv_if_ne (tgt := 16) C0.1 C0.2.1 dX7_greater_11 (by decide) (fun _ => ?_) (fun h9 => absurd h9 (by decide))
      exact absurd (And.intro ihb4 ihb8) hno
    · skip
      refine lv_if_ne (tgt := 16) C0.1 C0.2.1 dX7_greater_11 (by decide) (fun h9 => absurd h9 (by decide)) (fun _ => ?_)
      refine lv_iconst (v := -1) C0.1 C0.2.1 dX7_greater_14 (by decide) ?_
      exact hv_iret C0 w hr hlk (by rw [sp_great, if_neg hno]; exact ⟨rfl, hM, hv_out.rf⟩) dX7_greater_15
  · skip
    refine lv_if_eq (tgt := 14) C0.1 C0.2.1 dX7_greater_4 (by decide) (fun _ => ?_) (fun h9 => absurd h9 (by decide))
    refine lv_iconst (v := -1) C0.1 C0.2.1 dX7_greater_14 (by decide) ?_
    exact hv_iret C0 w hr hlk (by rw [sp_great, if_neg hno]; exact ⟨rfl, hM, hv_out.rf⟩) dX7_greater_15

theorem m_X7_greater {l : Launch} {X : hv_X} {V : hv_V} {mo : Nat} {σ : hs_S} (hM : okM X V mo σ) (hB : hs_b σ) {a b : Int32} : hv_Mi l X 220 yX7_greater cX7_greater 9 .int V [.ref mo, .int a, .int b] (fun y V1 => y = sp_great σ a b ∧ okM X V1 mo σ ∧ hv_out V V1 mo (mo + 50)) := by
  by_cases h : sp_in a 0 5 ∧ sp_in b 0 5
  · obtain ⟨h1, h3⟩ := h
    obtain ⟨j1, hj1, rfl⟩ := sp_inN (k := 5) (by decide) h1
    obtain ⟨j2, hj2, rfl⟩ := sp_inN (k := 5) (by decide) h3
    exact c_X7_greater hM hB hj1 hj2 h1 h3
  · exact n_X7_greater hM hB h
