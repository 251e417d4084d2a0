theorem hs_lNi {n : Nat} (h : n < 2 ^ 33) : (lN n).toInt = (n : Int) := by
  show (Int64.ofNat n).toInt = _
  exact Int64.toInt_ofNat_of_lt (by omega)
theorem hs_jl {n s : Nat} (h : n < 2 ^ 33) (h2 : s < 2 ^ 31) : lN n < (nI s).toInt64 ↔ n < s := by
  rw [nI_l h2, Int64.lt_iff_toInt_lt, hs_lNi h, hs_lNi (by omega)]; omega
def sp_jd (σ : hs_S) (j t : Nat) (i : Int32) : Nat → Nat → Int32
  | 0, _ => -5
  | m + 1, k => if i < 0 ∨ σ.2.2.2.2.1 t ≤ i.toNatClampNeg + k then 100 + nI k else if σ.2.2.2.2.2 t (i.toNatClampNeg + k) = (σ.1.1.2.2 j k).toInt64 then sp_jd σ j t i m (k + 1) else nI k
def sp_judge (σ : hs_S) (r t i : Int32) : Int32 := if sp_in r 0 5 ∧ sp_in t 0 5 then (if σ.2.2.2.1 t.toNatClampNeg = -1 ∨ σ.2.2.2.1 t.toNatClampNeg = 2 then sp_jd σ r.toNatClampNeg t.toNatClampNeg i (σ.1.1.2.1 r.toNatClampNeg) 0 else -12) else -1
set_option maxHeartbeats 4000000 in
set_option maxRecDepth 100000 in
theorem c_X6_judge {l : Launch} {X : hv_X} {V : hv_V} {x : Nat} {σ : hs_S} (hX : okX X V x σ) (hB : hs_b σ) {j1 j2 : Nat} {i : Int32} (hj1 : j1 < 6) (hj2 : j2 < 6) (hrj : sp_in (nI j1) 0 5) (hrk : sp_in (nI j2) 0 5) : hv_Mi l X 6 yX6_judge cX6_judge 9 .int V [.ref x, .int (nI j1), .int (nI j2), .int i] (fun y V1 => y = sp_judge σ (nI j1) (nI j2) i ∧ okX X V1 x σ ∧ hv_out V V1 x (x + 92)) := by
  refine hv_enter (by decide) (Nat.le_of_ble_eq_true rfl) ?_
  intro p e s m below meth c ls C0 hr hlk hnm w hl
  have hl : lv_has ls 9 [(0, .ref x), (1, .int (nI j1)), (2, .int (nI j2)), (3, .int i)] := hl
  obtain ⟨kk0, hX0, hPg, hKp, hTx, hTp, hSc⟩ := id hX
  obtain ⟨hP0, ⟨rf, hP1, hP2⟩, hP3, hP4, hP5, hP6⟩ := id hPg
  obtain ⟨⟨tf, hT1, hT2⟩, hT3⟩ := id hTp
  obtain ⟨⟨tk, tn, tg, hS1, hS2⟩, ⟨LF, hS3⟩, ⟨RF, hS4⟩, ⟨bf, hS5, hS6⟩, hS7, uf, hS8⟩ := id hSc
  have hbR := hB.1.1
  obtain ⟨sf, sg, sh, hL0, hL1, hL2, hL3, hLa⟩ := id hP4
  obtain ⟨ef, eg, eh, hM0, hM1, hM2, hM3, hMa⟩ := id hP5
  obtain ⟨kf, kg, kh, hK0, hK1, hK2, hK3, hKa⟩ := id hP6
  obtain ⟨pl, cl, wd, vl, hQ0, hQ1, hQ2, hQ3⟩ := id hTx
  have hR_j1 : V (x + 1 + 14 + 2 * j1) = some (rE (σ.1.1.1 j1) (σ.1.1.2.1 j1) (x + 1 + 14 + 2 * j1 + 1)) := (hP3 j1 hj1).1
  have hN_j1 : V (x + 1 + 14 + 2 * j1 + 1) = some (nE X (σ.1.1.2.2 j1)) := (hP3 j1 hj1).2
  have hn_j1 : σ.1.1.2.1 j1 ≤ 16 := (hbR j1 hj1).2.1
  have kj1 : (nI j1).toNatClampNeg = j1 := nI_clamp (by omega)
  have kj2 : (nI j2).toNatClampNeg = j2 := nI_clamp (by omega)
  have hA_j2 := (hT3 j2 hj2).1
  have hI_j2 := (hT3 j2 hj2).2
  have hz_j2 : σ.2.2.2.2.1 j2 ≤ 60 := (hB.2.2.2.2 j2 hj2).2.1
  have loop : ∀ (m9 : Nat) (hres : sp_judge σ (nI j1) (nI j2) i = sp_jd σ j1 j2 i (σ.1.1.2.1 j1) 0) (k : Nat) (Hq : Heap) (lq : List Loc) (ls : Array Slot), (k + m9 = σ.1.1.2.1 j1) → (sp_jd σ j1 j2 i m9 k = sp_jd σ j1 j2 i (σ.1.1.2.1 j1) 0) → hv_w X s (V) Hq lq → lv_has ls 9 [(0, .ref x), (3, .int i), (4, .ref (x + 64 + 2 * j2)), (5, .ref (x + 1 + 14 + 2 * j1)), (6, .int (nI k))] → W p l e (hv_rm 6 0 0) s m ([.ref x, .int (nI j1), .int (nI j2), .int i] : List Value).toArray below meth c Hq lq 0 0 (MQ below (hv_Qi X (fun y V1 => y = sp_judge σ (nI j1) (nI j2) i ∧ okX X V1 x σ ∧ hv_out V V1 x (x + 92))) ([.ref x, .int (nI j1), .int (nI j2), .int i] : List Value).toArray s 0 0 X.2.2.1) (F0 m 59 ls []) := by
    intro m9
    induction m9 with
    | zero =>
      intro hres k Hq lq ls hi he w hl
      have he : (-5 : Int32) = sp_jd σ j1 j2 i (σ.1.1.2.1 j1) 0 := he
      refine lv_iload C0.1 C0.2.1 dX6_judge_59 (lv_at hl 4 rfl) ?_
      refine lv_aload C0.1 C0.2.1 dX6_judge_61 (lv_at hl 3 rfl) ?_
      refine gf_X6_88 C0 w hR_j1 rfl dX6_judge_63 ?_
      refine lv_icmp_ge (tgt := 130) C0.1 C0.2.1 dX6_judge_66 (by decide) (fun c_66 => ?_) (fun c_66 => absurd (nI_le (by omega) (by omega)) c_66)
      refine lv_bipush (v := -5) C0.1 C0.2.1 dX6_judge_130 (by decide) ?_
      exact hv_iret C0 w hr hlk (⟨by rw [hres]; exact he, hX, hv_out.rf⟩) dX6_judge_132
    | succ m9 ih =>
      intro hres k Hq lq ls hi he w hl
      refine lv_iload C0.1 C0.2.1 dX6_judge_59 (lv_at hl 4 rfl) ?_
      refine lv_aload C0.1 C0.2.1 dX6_judge_61 (lv_at hl 3 rfl) ?_
      refine gf_X6_88 C0 w hR_j1 rfl dX6_judge_63 ?_
      refine lv_icmp_ge (tgt := 130) C0.1 C0.2.1 dX6_judge_66 (by decide) (fun c_66 => absurd c_66 (nI_ge (by omega) (by omega))) (fun c_66 => ?_)
      refine lv_iload_n C0.1 C0.2.1 dX6_judge_69 rfl (lv_at hl 1 rfl) ?_
      refine lv_i2l (v := i.toInt64) C0.1 C0.2.1 dX6_judge_70 rfl ?_
      refine lv_iload C0.1 C0.2.1 dX6_judge_71 (lv_at hl 4 rfl) ?_
      refine lv_i2l (v := (nI k).toInt64) C0.1 C0.2.1 dX6_judge_73 rfl ?_
      refine lv_ladd C0.1 C0.2.1 dX6_judge_74 ?_
      refine lv_lstore (lv' := [(7, .long ((i.toInt64) + ((nI k).toInt64))), (0, .ref x), (3, .int i), (4, .ref (x + 64 + 2 * j2)), (5, .ref (x + 1 + 14 + 2 * j1)), (6, .int (nI k))]) C0.1 C0.2.1 dX6_judge_75 hl (by decide) rfl (fun ls hl => ?_)
      refine lv_iload_n C0.1 C0.2.1 dX6_judge_77 rfl (lv_at hl 2 rfl) ?_
      refine lv_if_lt (tgt := 93) C0.1 C0.2.1 dX6_judge_78 (by decide) (fun c_78 => ?_) (fun c_78 => ?_)
      · skip
        refine lv_bipush (v := 100) C0.1 C0.2.1 dX6_judge_93 (by decide) ?_
        refine lv_iload C0.1 C0.2.1 dX6_judge_95 (lv_at hl 5 rfl) ?_
        refine lv_iadd C0.1 C0.2.1 dX6_judge_97 ?_
        exact hv_iret C0 w hr hlk (⟨by rw [hres, ← he, sp_jd, if_pos (Or.inl c_78)], hX, hv_out.rf⟩) dX6_judge_98
      · skip
        obtain ⟨i0, hi0, rfl⟩ := nI_of c_78
        have ki0 : (nI i0).toNatClampNeg = i0 := nI_clamp hi0
        have hl : lv_has ls 9 [(7, .long (lN (i0 + k))), (0, .ref x), (3, .int (nI i0)), (4, .ref (x + 64 + 2 * j2)), (5, .ref (x + 1 + 14 + 2 * j1)), (6, .int (nI k))] := by rw [show ((lN (i0 + k))) = ((((nI i0).toInt64) + ((nI k).toInt64))) from by rw [nI_l hi0, nI_l (by omega), lN_add]]; exact hl
        refine lv_lload C0.1 C0.2.1 dX6_judge_81 (lv_at hl 0 rfl) ?_
        refine lv_aload C0.1 C0.2.1 dX6_judge_83 (lv_at hl 3 rfl) ?_
        refine gf_X6_238 C0 w hA_j2 rfl dX6_judge_85 ?_
        refine lv_i2l (v := (nI (σ.2.2.2.2.1 j2)).toInt64) C0.1 C0.2.1 dX6_judge_88 rfl ?_
        refine hv_lc_lt (tgt := 99) C0.1 C0.2.1 dX6_judge_89 dX6_judge_90 (by decide) (fun c_89 => ?_) (fun c_89 => ?_)
        · skip
          have hlt9 : i0 + k < σ.2.2.2.2.1 j2 := (hs_jl (by omega) (by omega)).mp c_89
          have hno9 : ¬ (nI i0 < 0 ∨ σ.2.2.2.2.1 j2 ≤ (nI i0).toNatClampNeg + k) := fun h9 => h9.elim c_78 (fun h8 => by rw [ki0] at h8; omega)
          refine lv_aload C0.1 C0.2.1 dX6_judge_99 (lv_at hl 3 rfl) ?_
          refine gf_X6_239 C0 w hA_j2 rfl dX6_judge_101 ?_
          refine lv_lload C0.1 C0.2.1 dX6_judge_104 (lv_at hl 0 rfl) ?_
          refine lv_l2i (v := (lN (i0 + k)).toInt32) C0.1 C0.2.1 dX6_judge_106 rfl ?_
          rw [lN_i]
          refine hv_lald C0 w hI_j2 (hn_in (by omega) (by decide)) dX6_judge_107 ?_
          have hc1 : (nI (i0 + k)).toNatClampNeg = (i0 + k) := nI_clamp (by omega)
          rw [hc1]
          refine lv_aload C0.1 C0.2.1 dX6_judge_108 (lv_at hl 4 rfl) ?_
          refine gf_X6_139 C0 w hR_j1 rfl dX6_judge_110 ?_
          refine lv_iload C0.1 C0.2.1 dX6_judge_113 (lv_at hl 5 rfl) ?_
          refine hv_iald C0 w hN_j1 (hn_in (by omega) (by decide)) dX6_judge_115 ?_
          have hc2 : (nI k).toNatClampNeg = k := nI_clamp (by omega)
          rw [hc2]
          refine lv_i2l (v := ((σ.1.1.2.2 j1) k).toInt64) C0.1 C0.2.1 dX6_judge_116 rfl ?_
          refine hv_lc_eq (tgt := 124) C0.1 C0.2.1 dX6_judge_117 dX6_judge_118 (by decide) (fun c_117 => ?_) (fun c_117 => ?_)
          · skip
            refine lv_iinc (v := (nI k) + 1) (lv' := [(6, .int ((nI k) + 1)), (7, .long (lN (i0 + k))), (0, .ref x), (3, .int (nI i0)), (4, .ref (x + 64 + 2 * j2)), (5, .ref (x + 1 + 14 + 2 * j1))]) C0.1 C0.2.1 dX6_judge_124 hl (k := 5) rfl rfl (by decide) rfl (fun ls hl => ?_)
            refine lv_goto (tgt := 59) C0.1 C0.2.1 dX6_judge_127 (by decide) ?_
            exact ih hres (k + 1) _ _ ls (by omega) (by rw [← he, sp_jd, if_neg hno9, ki0, if_pos c_117]) w (by have h9 := (lv_sub (l' := [(0, .ref x), (3, .int (nI i0)), (4, .ref (x + 64 + 2 * j2)), (5, .ref (x + 1 + 14 + 2 * j1)), (6, .int (nI k + 1))]) hl [2, 3, 4, 5, 0] rfl); rw [nI_1] at h9; exact h9)
          · skip
            refine lv_iload C0.1 C0.2.1 dX6_judge_121 (lv_at hl 5 rfl) ?_
            exact hv_iret C0 w hr hlk (⟨by rw [hres, ← he, sp_jd, if_neg hno9, ki0, if_neg c_117], hX, hv_out.rf⟩) dX6_judge_123
        · skip
          refine lv_bipush (v := 100) C0.1 C0.2.1 dX6_judge_93 (by decide) ?_
          refine lv_iload C0.1 C0.2.1 dX6_judge_95 (lv_at hl 5 rfl) ?_
          refine lv_iadd C0.1 C0.2.1 dX6_judge_97 ?_
          exact hv_iret C0 w hr hlk (⟨by rw [hres, ← he, sp_jd, if_pos (Or.inr (by rw [ki0]; exact Nat.not_lt.mp (fun h9 => c_89 ((hs_jl (by omega) (by omega)).mpr h9))))], hX, hv_out.rf⟩) dX6_judge_98
  refine lv_iload_n C0.1 C0.2.1 dX6_judge_0 rfl (lv_at hl 1 rfl) ?_
  refine hv_cSi (As := [.int (nI j1)]) C0 w kl_X6_60 ks_X6_isRow (c_X6_isRow) (by decide) (by decide) rfl hl.1 rfl (Nat.le_of_ble_eq_true rfl) dX6_judge_1 ⟨Nat.le_refl _, Nat.le_refl _⟩ (fun x1 V2 Hq lq hp3 w => ?_)
  obtain ⟨e9, hz9⟩ := hp3
  rw [e9] at w; clear e9
  obtain ⟨ex9, -⟩ | ⟨-, hno⟩ := hz9
  rotate_left
  · exact absurd hrj hno
  rw [ex9]; clear ex9
  refine lv_if_eq (tgt := 14) C0.1 C0.2.1 dX6_judge_4 (by decide) (fun h9 => absurd h9 (by decide)) (fun _ => ?_)
  refine lv_iload_n C0.1 C0.2.1 dX6_judge_7 rfl (lv_at hl 2 rfl) ?_
  refine hv_cSi (As := [.int (nI j2)]) C0 w kl_X6_232 ks_X6_isTape (c_X6_isTape) (by decide) (by decide) rfl hl.1 rfl (Nat.le_of_ble_eq_true rfl) dX6_judge_8 ⟨Nat.le_refl _, Nat.le_refl _⟩ (fun x4 V5 Hq lq hp6 w => ?_)
  obtain ⟨e9, hz9⟩ := hp6
  rw [e9] at w; clear e9
  obtain ⟨ex9, -⟩ | ⟨-, hno⟩ := hz9
  rotate_left
  · exact absurd hrk hno
  rw [ex9]; clear ex9
  refine lv_if_ne (tgt := 16) C0.1 C0.2.1 dX6_judge_11 (by decide) (fun _ => ?_) (fun h9 => absurd h9 (by decide))
  refine lv_aload_n C0.1 C0.2.1 dX6_judge_16 rfl (lv_at hl 0 rfl) ?_
  refine gf_X6_30 C0 w hX0 rfl dX6_judge_17 ?_
  refine lv_iload_n C0.1 C0.2.1 dX6_judge_20 rfl (lv_at hl 2 rfl) ?_
  refine hv_aald 4 C0 w rfl hT1 (hn_in hj2 (by decide)) (by rw [kj2]; exact hT2 j2 hj2) dX6_judge_21 ?_
  refine lv_astore (lv' := [(4, .ref (x + 64 + 2 * j2)), (0, .ref x), (1, .int (nI j1)), (2, .int (nI j2)), (3, .int i)]) C0.1 C0.2.1 dX6_judge_22 hl (by decide) rfl (fun ls hl => ?_)
  refine lv_aload C0.1 C0.2.1 dX6_judge_24 (lv_at hl 0 rfl) ?_
  refine gf_X6_235 C0 w hA_j2 rfl dX6_judge_26 ?_
  refine lv_iconst (v := -1) C0.1 C0.2.1 dX6_judge_29 (by decide) ?_
  refine lv_icmp_eq (tgt := 45) C0.1 C0.2.1 dX6_judge_30 (by decide) (fun c_30 => ?_) (fun c_30 => ?_)
  · skip
    refine lv_aload_n C0.1 C0.2.1 dX6_judge_45 rfl (lv_at hl 1 rfl) ?_
    refine gf_X6_12 C0 w hX0 rfl dX6_judge_46 ?_
    refine gf_X6_76 C0 w hP0 rfl dX6_judge_49 ?_
    refine lv_iload_n C0.1 C0.2.1 dX6_judge_52 rfl (lv_at hl 2 rfl) ?_
    refine hv_aald 3 C0 w rfl hP1 (hn_in hj1 (by decide)) (by rw [kj1]; exact hP2 j1 hj1) dX6_judge_53 ?_
    refine lv_astore (lv' := [(5, .ref (x + 1 + 14 + 2 * j1)), (4, .ref (x + 64 + 2 * j2)), (0, .ref x), (1, .int (nI j1)), (2, .int (nI j2)), (3, .int i)]) C0.1 C0.2.1 dX6_judge_54 hl (by decide) rfl (fun ls hl => ?_)
    refine lv_iconst (v := 0) C0.1 C0.2.1 dX6_judge_56 (by decide) ?_
    refine lv_istore (lv' := [(6, .int 0), (5, .ref (x + 1 + 14 + 2 * j1)), (4, .ref (x + 64 + 2 * j2)), (0, .ref x), (1, .int (nI j1)), (2, .int (nI j2)), (3, .int i)]) C0.1 C0.2.1 dX6_judge_57 hl (by decide) rfl (fun ls hl => ?_)
    exact loop (σ.1.1.2.1 j1) (by rw [sp_judge, if_pos ⟨hrj, hrk⟩, kj1, kj2, if_pos (Or.inl c_30)]) 0 _ _ ls (by omega) rfl w (lv_sub hl [3, 6, 2, 1, 0] rfl)
  · skip
    refine lv_aload C0.1 C0.2.1 dX6_judge_33 (lv_at hl 0 rfl) ?_
    refine gf_X6_235 C0 w hA_j2 rfl dX6_judge_35 ?_
    refine lv_iconst (v := 2) C0.1 C0.2.1 dX6_judge_38 (by decide) ?_
    refine lv_icmp_eq (tgt := 45) C0.1 C0.2.1 dX6_judge_39 (by decide) (fun c_39 => ?_) (fun c_39 => ?_)
    · skip
      refine lv_aload_n C0.1 C0.2.1 dX6_judge_45 rfl (lv_at hl 1 rfl) ?_
      refine gf_X6_12 C0 w hX0 rfl dX6_judge_46 ?_
      refine gf_X6_76 C0 w hP0 rfl dX6_judge_49 ?_
      refine lv_iload_n C0.1 C0.2.1 dX6_judge_52 rfl (lv_at hl 2 rfl) ?_
      refine hv_aald 3 C0 w rfl hP1 (hn_in hj1 (by decide)) (by rw [kj1]; exact hP2 j1 hj1) dX6_judge_53 ?_
      refine lv_astore (lv' := [(5, .ref (x + 1 + 14 + 2 * j1)), (4, .ref (x + 64 + 2 * j2)), (0, .ref x), (1, .int (nI j1)), (2, .int (nI j2)), (3, .int i)]) C0.1 C0.2.1 dX6_judge_54 hl (by decide) rfl (fun ls hl => ?_)
      refine lv_iconst (v := 0) C0.1 C0.2.1 dX6_judge_56 (by decide) ?_
      refine lv_istore (lv' := [(6, .int 0), (5, .ref (x + 1 + 14 + 2 * j1)), (4, .ref (x + 64 + 2 * j2)), (0, .ref x), (1, .int (nI j1)), (2, .int (nI j2)), (3, .int i)]) C0.1 C0.2.1 dX6_judge_57 hl (by decide) rfl (fun ls hl => ?_)
      exact loop (σ.1.1.2.1 j1) (by rw [sp_judge, if_pos ⟨hrj, hrk⟩, kj1, kj2, if_pos (Or.inr c_39)]) 0 _ _ ls (by omega) rfl w (lv_sub hl [3, 6, 2, 1, 0] rfl)
    · skip
      refine lv_bipush (v := -12) C0.1 C0.2.1 dX6_judge_42 (by decide) ?_
      exact hv_iret C0 w hr hlk (⟨by rw [sp_judge, if_pos ⟨hrj, hrk⟩, kj2, if_neg (fun h9 => h9.elim c_30 c_39)], hX, hv_out.rf⟩) dX6_judge_44

set_option maxHeartbeats 4000000 in
set_option maxRecDepth 100000 in
theorem n_X6_judge {l : Launch} {X : hv_X} {V : hv_V} {x : Nat} {σ : hs_S} (hX : okX X V x σ) (hB : hs_b σ) {r t i : Int32} (hno : ¬ (sp_in r 0 5 ∧ sp_in t 0 5)) : hv_Mi l X 6 yX6_judge cX6_judge 9 .int V [.ref x, .int r, .int t, .int i] (fun y V1 => y = sp_judge σ r t i ∧ okX X V1 x σ ∧ hv_out V V1 x (x + 92)) := by
  refine hv_enter (by decide) (Nat.le_of_ble_eq_true rfl) ?_
  intro p e s m below meth c ls C0 hr hlk hnm w hl
  have hl : lv_has ls 9 [(0, .ref x), (1, .int r), (2, .int t), (3, .int i)] := hl
  obtain ⟨kk0, hX0, hPg, hKp, hTx, hTp, hSc⟩ := id hX
  obtain ⟨hP0, ⟨rf, hP1, hP2⟩, hP3, hP4, hP5, hP6⟩ := id hPg
  obtain ⟨⟨tf, hT1, hT2⟩, hT3⟩ := id hTp
  obtain ⟨⟨tk, tn, tg, hS1, hS2⟩, ⟨LF, hS3⟩, ⟨RF, hS4⟩, ⟨bf, hS5, hS6⟩, hS7, uf, hS8⟩ := id hSc
  have hbR := hB.1.1
  obtain ⟨sf, sg, sh, hL0, hL1, hL2, hL3, hLa⟩ := id hP4
  obtain ⟨ef, eg, eh, hM0, hM1, hM2, hM3, hMa⟩ := id hP5
  obtain ⟨kf, kg, kh, hK0, hK1, hK2, hK3, hKa⟩ := id hP6
  obtain ⟨pl, cl, wd, vl, hQ0, hQ1, hQ2, hQ3⟩ := id hTx
  refine lv_iload_n C0.1 C0.2.1 dX6_judge_0 rfl (lv_at hl 1 rfl) ?_
  refine hv_cSi (As := [.int r]) C0 w kl_X6_60 ks_X6_isRow (c_X6_isRow) (by decide) (by decide) rfl hl.1 rfl (Nat.le_of_ble_eq_true rfl) dX6_judge_1 ⟨Nat.le_refl _, Nat.le_refl _⟩ (fun x1 V2 Hq lq hp3 w => ?_)
  obtain ⟨e9, hz9⟩ := hp3
  rw [e9] at w; clear e9
  rcases hz9 with ⟨rfl, hb4⟩ | ⟨rfl, hb4⟩
  · skip
    have ihb4 := hb4
    obtain ⟨j1, hj1, rfl⟩ := sp_inN (k := 5) (by decide) hb4
    have kj1 : (nI j1).toNatClampNeg = j1 := nI_clamp (by omega)
    have hR_j1 : V (x + 1 + 14 + 2 * j1) = some (rE (σ.1.1.1 j1) (σ.1.1.2.1 j1) (x + 1 + 14 + 2 * j1 + 1)) := (hP3 j1 hj1).1
    have hN_j1 : V (x + 1 + 14 + 2 * j1 + 1) = some (nE X (σ.1.1.2.2 j1)) := (hP3 j1 hj1).2
    have hn_j1 : σ.1.1.2.1 j1 ≤ 16 := (hbR j1 hj1).2.1
    refine lv_if_eq (tgt := 14) C0.1 C0.2.1 dX6_judge_4 (by decide) (fun h9 => absurd h9 (by decide)) (fun _ => ?_)
    refine lv_iload_n C0.1 C0.2.1 dX6_judge_7 rfl (lv_at hl 2 rfl) ?_
    refine hv_cSi (As := [.int t]) C0 w kl_X6_232 ks_X6_isTape (c_X6_isTape) (by decide) (by decide) rfl hl.1 rfl (Nat.le_of_ble_eq_true rfl) dX6_judge_8 ⟨Nat.le_refl _, Nat.le_refl _⟩ (fun x5 V6 Hq lq hp7 w => ?_)
    obtain ⟨e9, hz9⟩ := hp7
    rw [e9] at w; clear e9
    rcases hz9 with ⟨rfl, hb8⟩ | ⟨rfl, hb8⟩
    · skip
      have ihb8 := hb8
      obtain ⟨j2, hj2, rfl⟩ := sp_inN (k := 5) (by decide) hb8
      have kj2 : (nI j2).toNatClampNeg = j2 := nI_clamp (by omega)
      have hA_j2 := (hT3 j2 hj2).1
      have hI_j2 := (hT3 j2 hj2).2
      have hz_j2 : σ.2.2.2.2.1 j2 ≤ 60 := (hB.2.2.2.2 j2 hj2).2.1
      refine lv_if_ne (tgt := 16) C0.1 C0.2.1 dX6_judge_11 (by decide) (fun _ => ?_) (fun h9 => absurd h9 (by decide))
      exact absurd ⟨ihb4, ihb8⟩ hno
    · skip
      refine lv_if_ne (tgt := 16) C0.1 C0.2.1 dX6_judge_11 (by decide) (fun h9 => absurd h9 (by decide)) (fun _ => ?_)
      refine lv_iconst (v := -1) C0.1 C0.2.1 dX6_judge_14 (by decide) ?_
      exact hv_iret C0 w hr hlk (⟨by rw [sp_judge, if_neg hno], hX, hv_out.rf⟩) dX6_judge_15
  · skip
    refine lv_if_eq (tgt := 14) C0.1 C0.2.1 dX6_judge_4 (by decide) (fun _ => ?_) (fun h9 => absurd h9 (by decide))
    refine lv_iconst (v := -1) C0.1 C0.2.1 dX6_judge_14 (by decide) ?_
    exact hv_iret C0 w hr hlk (⟨by rw [sp_judge, if_neg hno], hX, hv_out.rf⟩) dX6_judge_15

theorem m_X6_judge {l : Launch} {X : hv_X} {V : hv_V} {x : Nat} {σ : hs_S} (hX : okX X V x σ) (hB : hs_b σ) {r t i : Int32} : hv_Mi l X 6 yX6_judge cX6_judge 9 .int V [.ref x, .int r, .int t, .int i] (fun y V1 => y = sp_judge σ r t i ∧ okX X V1 x σ ∧ hv_out V V1 x (x + 92)) := by
  by_cases h : sp_in r 0 5 ∧ sp_in t 0 5
  · obtain ⟨h1, h3⟩ := id h
    obtain ⟨j1, hj1, rfl⟩ := sp_inN (k := 5) (by decide) h1
    obtain ⟨j2, hj2, rfl⟩ := sp_inN (k := 5) (by decide) h3
    exact c_X6_judge hX hB hj1 hj2 h1 h3
  · exact n_X6_judge hX hB h
def fx_last (up low : Int64) (a : Int32) : Int32 := if up ≤ 0 ∨ ¬ low - low / up * up = 0 then 0 else if a.toInt64 < low / up ∧ low / up ≤ 60 then (low / up).toInt32 else 0
/-- b, b + 1 .. (m of them): the first with a last unit behind it -/
def fx_fp (up low : Int64) : Nat → Nat → Option (Nat × Int32)
  | 0, _ => none
  | m + 1, b => if 0 < fx_last (up * (nI b).toInt64 - low) (low * (nI b).toInt64) (nI b) then some (b, fx_last (up * (nI b).toInt64 - low) (low * (nI b).toInt64) (nI b)) else fx_fp up low m (b + 1)
set_option maxHeartbeats 4000000 in
set_option maxRecDepth 100000 in
theorem c_X6_lastUnit {l : Launch} {X : hv_X} {V : hv_V} {up low : Int64} {a : Int32} : hv_Mi l X 0 yX6_lastUnit cX6_lastUnit 7 .int V [.long up, .long low, .int a] (fun y V1 => V1 = V ∧ y = fx_last up low a) := by
  refine hv_enter (by decide) (Nat.le_of_ble_eq_true rfl) ?_
  intro p e s m below meth c ls C0 hr hlk hnm w hl
  have hl : lv_has ls 7 [(0, .long up), (2, .long low), (4, .int a)] := hl
  refine lv_lload_n C0.1 C0.2.1 dX6_lastUnit_0 rfl (lv_at hl 0 rfl) ?_
  refine lv_lconst (v := 0) C0.1 C0.2.1 dX6_lastUnit_1 (by decide) ?_
  refine hv_lc_le (tgt := 14) C0.1 C0.2.1 dX6_lastUnit_2 dX6_lastUnit_3 (by decide) (fun c_2 => ?_) (fun c_2 => ?_)
  · skip
    refine lv_iconst (v := 0) C0.1 C0.2.1 dX6_lastUnit_14 (by decide) ?_
    exact hv_iret C0 w hr hlk (⟨rfl, by rw [fx_last, if_pos (Or.inl c_2)]⟩) dX6_lastUnit_15
  · skip
    refine lv_lload_n C0.1 C0.2.1 dX6_lastUnit_6 rfl (lv_at hl 1 rfl) ?_
    refine lv_lload_n C0.1 C0.2.1 dX6_lastUnit_7 rfl (lv_at hl 0 rfl) ?_
    refine lv_lrem C0.1 C0.2.1 dX6_lastUnit_8 (fun h9 => c_2 (by rw [h9]; decide)) ?_
    refine lv_lconst (v := 0) C0.1 C0.2.1 dX6_lastUnit_9 (by decide) ?_
    refine hv_lc_eq (tgt := 16) C0.1 C0.2.1 dX6_lastUnit_10 dX6_lastUnit_11 (by decide) (fun c_10 => ?_) (fun c_10 => ?_)
    · skip
      refine lv_lload_n C0.1 C0.2.1 dX6_lastUnit_16 rfl (lv_at hl 1 rfl) ?_
      refine lv_lload_n C0.1 C0.2.1 dX6_lastUnit_17 rfl (lv_at hl 0 rfl) ?_
      refine lv_ldiv C0.1 C0.2.1 dX6_lastUnit_18 (fun h9 => c_2 (by rw [h9]; decide)) ?_
      refine lv_lstore (lv' := [(5, .long (low / up)), (0, .long up), (2, .long low), (4, .int a)]) C0.1 C0.2.1 dX6_lastUnit_19 hl (by decide) rfl (fun ls hl => ?_)
      refine lv_lload C0.1 C0.2.1 dX6_lastUnit_21 (lv_at hl 0 rfl) ?_
      refine lv_iload C0.1 C0.2.1 dX6_lastUnit_23 (lv_at hl 3 rfl) ?_
      refine lv_i2l (v := a.toInt64) C0.1 C0.2.1 dX6_lastUnit_25 rfl ?_
      refine hv_lc_le (tgt := 45) C0.1 C0.2.1 dX6_lastUnit_26 dX6_lastUnit_27 (by decide) (fun c_26 => ?_) (fun c_26 => ?_)
      · skip
        refine lv_iconst (v := 0) C0.1 C0.2.1 dX6_lastUnit_45 (by decide) ?_
        exact hv_iret C0 w hr hlk (⟨rfl, by rw [fx_last, if_neg (fun h9 => h9.elim c_2 (fun h8 => h8 c_10)), if_neg (fun h9 => absurd c_26 (Int64.not_le.mpr h9.1))]⟩) dX6_lastUnit_46
      · skip
        refine lv_lload C0.1 C0.2.1 dX6_lastUnit_30 (lv_at hl 0 rfl) ?_
        refine lv_ldc2 C0.1 C0.2.1 C0.2.2.2.1 (C0.2.2.2.2.1 _ kk_X6_303) dX6_lastUnit_32 ?_
        refine hv_lc_gt (tgt := 45) C0.1 C0.2.1 dX6_lastUnit_35 dX6_lastUnit_36 (by decide) (fun c_35 => ?_) (fun c_35 => ?_)
        · skip
          refine lv_iconst (v := 0) C0.1 C0.2.1 dX6_lastUnit_45 (by decide) ?_
          exact hv_iret C0 w hr hlk (⟨rfl, by rw [fx_last, if_neg (fun h9 => h9.elim c_2 (fun h8 => h8 c_10)), if_neg (fun h9 => absurd c_35 (Int64.not_lt.mpr h9.2))]⟩) dX6_lastUnit_46
        · skip
          refine lv_lload C0.1 C0.2.1 dX6_lastUnit_39 (lv_at hl 0 rfl) ?_
          refine lv_l2i (v := (low / up).toInt32) C0.1 C0.2.1 dX6_lastUnit_41 rfl ?_
          refine lv_goto (tgt := 46) C0.1 C0.2.1 dX6_lastUnit_42 (by decide) ?_
          exact hv_iret C0 w hr hlk (⟨rfl, by rw [fx_last, if_neg (fun h9 => h9.elim c_2 (fun h8 => h8 c_10)), if_pos ⟨Int64.not_le.mp c_26, Int64.not_lt.mp c_35⟩]⟩) dX6_lastUnit_46
    · skip
      refine lv_iconst (v := 0) C0.1 C0.2.1 dX6_lastUnit_14 (by decide) ?_
      exact hv_iret C0 w hr hlk (⟨rfl, by rw [fx_last, if_pos (Or.inr c_10)]⟩) dX6_lastUnit_15

set_option maxHeartbeats 4000000 in
set_option maxRecDepth 100000 in
theorem c_X6_findPair {l : Launch} {X : hv_X} {V : hv_V} {x : Nat} {kk0 : Int32} {u : Nat → Int32} (hX0 : V x = some (xE x kk0)) (hU : V (x + 63) = some (iE X 3 u)) {up low : Int64} {a : Nat} (ha : a ≤ 60) : hv_Mi l X 1 yX6_findPair cX6_findPair 7 .boolean V [.ref x, .long up, .long low, .int (nI a)] (fun y V1 => ∃ u1 : Nat → Int32, u1 0 = u 0 ∧ V1 = hv_up V (x + 63) (iE X 3 u1) ∧ ((∃ q : Nat × Int32, fx_fp up low (60 - a) (a + 1) = some q ∧ u1 1 = nI q.1 ∧ u1 2 = q.2 ∧ y = 1) ∨ (fx_fp up low (60 - a) (a + 1) = none ∧ y = 0))) := by
  refine hv_enter (by decide) (Nat.le_of_ble_eq_true rfl) ?_
  intro p e s m below meth c ls C0 hr hlk hnm w hl
  have hl : lv_has ls 7 [(0, .ref x), (1, .long up), (3, .long low), (5, .int (nI a))] := hl
  have loop : ∀ (m9 b : Nat) (u8 : Nat → Int32) (Hq : Heap) (lq : List Loc) (ls : Array Slot), (b + m9 = 61) → (fx_fp up low m9 b = fx_fp up low (60 - a) (a + 1)) → (u8 0 = u 0) → hv_w X s (hv_up V (x + 63) (iE X 3 u8)) Hq lq → lv_has ls 7 [(0, .ref x), (1, .long up), (3, .long low), (6, .int (nI b))] → W p l e (hv_rm 1 0 0) s m ([.ref x, .long up, .long low, .int (nI a)] : List Value).toArray below meth c Hq lq 0 0 (MQ below (hv_Qi X (fun y V1 => ∃ u1 : Nat → Int32, u1 0 = u 0 ∧ V1 = hv_up V (x + 63) (iE X 3 u1) ∧ ((∃ q : Nat × Int32, fx_fp up low (60 - a) (a + 1) = some q ∧ u1 1 = nI q.1 ∧ u1 2 = q.2 ∧ y = 1) ∨ (fx_fp up low (60 - a) (a + 1) = none ∧ y = 0)))) ([.ref x, .long up, .long low, .int (nI a)] : List Value).toArray s 0 0 X.2.2.1) (F0 m 6 ls []) := by
    intro m9
    induction m9 with
    | zero =>
      intro b u8 Hq lq ls hi he hu w hl
      have he : none = fx_fp up low (60 - a) (a + 1) := he
      obtain ⟨V8, e8⟩ : ∃ V8, V8 = hv_up V (x + 63) (iE X 3 u8) := ⟨_, rfl⟩
      rw [← e8] at w
      have q0 : V8 x = some (xE x kk0) := by rw [e8, hv_un (by omega)]; exact hX0
      have q1 : V8 (x + 63) = some (iE X 3 u8) := by rw [e8]; exact hv_us
      refine lv_iload C0.1 C0.2.1 dX6_findPair_6 (lv_at hl 3 rfl) ?_
      refine lv_bipush (v := 60) C0.1 C0.2.1 dX6_findPair_8 (by decide) ?_
      refine lv_icmp_gt (tgt := 61) C0.1 C0.2.1 dX6_findPair_10 (by decide) (fun c_10 => ?_) (fun c_10 => absurd (show nI 60 < nI b from nI_lt (by omega) (by omega)) c_10)
      refine lv_iconst (v := 0) C0.1 C0.2.1 dX6_findPair_61 (by decide) ?_
      exact hv_zret C0 w hr hlk (by decide) (⟨u8, hu, e8, Or.inr ⟨he.symm, rfl⟩⟩) dX6_findPair_62
    | succ m9 ih =>
      intro b u8 Hq lq ls hi he hu w hl
      obtain ⟨V8, e8⟩ : ∃ V8, V8 = hv_up V (x + 63) (iE X 3 u8) := ⟨_, rfl⟩
      rw [← e8] at w
      have q0 : V8 x = some (xE x kk0) := by rw [e8, hv_un (by omega)]; exact hX0
      have q1 : V8 (x + 63) = some (iE X 3 u8) := by rw [e8]; exact hv_us
      refine lv_iload C0.1 C0.2.1 dX6_findPair_6 (lv_at hl 3 rfl) ?_
      refine lv_bipush (v := 60) C0.1 C0.2.1 dX6_findPair_8 (by decide) ?_
      refine lv_icmp_gt (tgt := 61) C0.1 C0.2.1 dX6_findPair_10 (by decide) (fun c_10 => absurd c_10 (show ¬ nI 60 < nI b from nI_nlt (by omega) (by omega))) (fun c_10 => ?_)
      refine lv_aload_n C0.1 C0.2.1 dX6_findPair_13 rfl (lv_at hl 0 rfl) ?_
      refine gf_X6_55 C0 w q0 rfl dX6_findPair_14 ?_
      refine lv_iconst (v := 1) C0.1 C0.2.1 dX6_findPair_17 (by decide) ?_
      refine lv_iload C0.1 C0.2.1 dX6_findPair_18 (lv_at hl 3 rfl) ?_
      refine hv_iast C0 w q1 (hn_in (n := 1) (by decide) (by decide)) dX6_findPair_20 (fun Hq lq w => ?_)
      have hc9 : (1 : Int32).toNatClampNeg = 1 := by decide
      rw [hc9] at w; clear hc9
      obtain ⟨V1, eV2⟩ : ∃ V9, V9 = hv_up V8 (x + 63) (.inl (X.2.1 0, 3, .inl (upd u8 1 (nI b)))) := ⟨_, rfl⟩
      have w : hv_w X s V1 Hq lq := by rw [eV2]; exact w
      have hV3 : V1 x = some (.inr (6, [.ref (x + 1), .ref (x + 27), .int kk0, .ref (x + 53), .ref (x + 57), .ref (x + 58), .ref (x + 60), .ref (x + 61), .ref (x + 62), .ref (x + 63)])) := by rw [eV2, hv_un (by omega)]; exact q0
      have hV5 : V1 (x + 63) = some (.inl (X.2.1 0, 3, .inl (upd u8 1 (nI b)))) := by rw [eV2]; exact hv_us
      refine lv_aload_n C0.1 C0.2.1 dX6_findPair_21 rfl (lv_at hl 0 rfl) ?_
      refine gf_X6_55 C0 w hV3 rfl dX6_findPair_22 ?_
      refine lv_iconst (v := 2) C0.1 C0.2.1 dX6_findPair_25 (by decide) ?_
      refine lv_lload_n C0.1 C0.2.1 dX6_findPair_26 rfl (lv_at hl 1 rfl) ?_
      refine lv_iload C0.1 C0.2.1 dX6_findPair_27 (lv_at hl 3 rfl) ?_
      refine lv_i2l (v := (nI b).toInt64) C0.1 C0.2.1 dX6_findPair_29 rfl ?_
      refine lv_lmul C0.1 C0.2.1 dX6_findPair_30 ?_
      refine lv_lload_n C0.1 C0.2.1 dX6_findPair_31 rfl (lv_at hl 2 rfl) ?_
      refine lv_lsub C0.1 C0.2.1 dX6_findPair_32 ?_
      refine lv_lload_n C0.1 C0.2.1 dX6_findPair_33 rfl (lv_at hl 2 rfl) ?_
      refine lv_iload C0.1 C0.2.1 dX6_findPair_34 (lv_at hl 3 rfl) ?_
      refine lv_i2l (v := (nI b).toInt64) C0.1 C0.2.1 dX6_findPair_36 rfl ?_
      refine lv_lmul C0.1 C0.2.1 dX6_findPair_37 ?_
      refine lv_iload C0.1 C0.2.1 dX6_findPair_38 (lv_at hl 3 rfl) ?_
      refine hv_cSi (As := [.long ((up * ((nI b).toInt64)) - low), .long (low * ((nI b).toInt64)), .int (nI b)]) C0 w kl_X6_295 ks_X6_lastUnit (c_X6_lastUnit) (by decide) (by decide) rfl hl.1 rfl (Nat.le_of_ble_eq_true rfl) dX6_findPair_40 ⟨Nat.le_refl _, Nat.le_refl _⟩ (fun x6 V7 Hq lq hp8 w => ?_)
      obtain ⟨e9, e8⟩ := hp8
      rw [e9] at w; rw [e8]; clear e9 e8
      refine hv_iast C0 w hV5 (hn_in (n := 2) (by decide) (by decide)) dX6_findPair_43 (fun Hq lq w => ?_)
      have hc9 : (2 : Int32).toNatClampNeg = 2 := by decide
      rw [hc9] at w; clear hc9
      obtain ⟨V9, eV10⟩ : ∃ V9, V9 = hv_up V1 (x + 63) (.inl (X.2.1 0, 3, .inl (upd (upd u8 1 (nI b)) 2 (fx_last ((up * ((nI b).toInt64)) - low) (low * ((nI b).toInt64)) (nI b))))) := ⟨_, rfl⟩
      have w : hv_w X s V9 Hq lq := by rw [eV10]; exact w
      have hV11 : V9 x = some (.inr (6, [.ref (x + 1), .ref (x + 27), .int kk0, .ref (x + 53), .ref (x + 57), .ref (x + 58), .ref (x + 60), .ref (x + 61), .ref (x + 62), .ref (x + 63)])) := by rw [eV10, hv_un (by omega)]; exact hV3
      have hV13 : V9 (x + 63) = some (.inl (X.2.1 0, 3, .inl (upd (upd u8 1 (nI b)) 2 (fx_last ((up * ((nI b).toInt64)) - low) (low * ((nI b).toInt64)) (nI b))))) := by rw [eV10]; exact hv_us
      refine lv_aload_n C0.1 C0.2.1 dX6_findPair_44 rfl (lv_at hl 0 rfl) ?_
      refine gf_X6_55 C0 w hV11 rfl dX6_findPair_45 ?_
      refine lv_iconst (v := 2) C0.1 C0.2.1 dX6_findPair_48 (by decide) ?_
      refine hv_iald C0 w hV13 (hn_in (n := 2) (by decide) (by decide)) dX6_findPair_49 ?_
      have hc9 : (2 : Int32).toNatClampNeg = 2 := by decide
      rw [hc9]; clear hc9
      rw [show ∀ (g : Nat → Int32) (v : Int32), upd g 2 v 2 = v from fun g v => by simp [upd]]
      refine lv_if_le (tgt := 55) C0.1 C0.2.1 dX6_findPair_50 (by decide) (fun c_50 => ?_) (fun c_50 => ?_)
      · skip
        have hz := c_50
        refine lv_iinc (v := (nI b) + 1) (lv' := [(6, .int ((nI b) + 1)), (0, .ref x), (1, .long up), (3, .long low)]) C0.1 C0.2.1 dX6_findPair_55 hl (k := 3) rfl rfl (by decide) rfl (fun ls hl => ?_)
        refine lv_goto (tgt := 6) C0.1 C0.2.1 dX6_findPair_58 (by decide) ?_
        exact ih (b + 1) (upd (upd u8 1 (nI b)) 2 (fx_last (up * (nI b).toInt64 - low) (low * (nI b).toInt64) (nI b))) _ _ ls (by omega) (by rw [← he, fx_fp, if_neg (fun h9 => absurd hz (Int32.not_le.mpr h9))]) (by simp [upd, hu]) (by rw [eV10, eV2, e8, hv_uu, hv_uu] at w; exact w) (by have h9 := (lv_sub (l' := [(0, .ref x), (1, .long up), (3, .long low), (6, .int (nI b + 1))]) hl [1, 2, 3, 0] rfl); rw [nI_1] at h9; exact h9)
      · skip
        refine lv_iconst (v := 1) C0.1 C0.2.1 dX6_findPair_53 (by decide) ?_
        exact hv_zret C0 w hr hlk (by decide) (⟨(upd (upd u8 1 (nI b)) 2 (fx_last (up * (nI b).toInt64 - low) (low * (nI b).toInt64) (nI b))), by simp [upd, hu], by rw [eV10, eV2, e8, hv_uu, hv_uu], Or.inl ⟨(b, _), by rw [← he, fx_fp, if_pos (Int32.not_le.mp c_50)], by simp [upd], by simp [upd], rfl⟩⟩) dX6_findPair_54
  refine lv_iload C0.1 C0.2.1 dX6_findPair_0 (lv_at hl 3 rfl) ?_
  refine lv_iconst (v := 1) C0.1 C0.2.1 dX6_findPair_2 (by decide) ?_
  refine lv_iadd C0.1 C0.2.1 dX6_findPair_3 ?_
  refine lv_istore (lv' := [(6, .int ((nI a) + 1)), (0, .ref x), (1, .long up), (3, .long low), (5, .int (nI a))]) C0.1 C0.2.1 dX6_findPair_4 hl (by decide) rfl (fun ls hl => ?_)
  have hl : lv_has ls 7 [(6, .int (nI (a + 1))), (0, .ref x), (1, .long up), (3, .long low), (5, .int (nI a))] := by rw [show ((nI (a + 1))) = (((nI a) + 1)) from (nI_1 a).symm]; exact hl
  exact loop (60 - a) (a + 1) u _ _ ls (by omega) rfl rfl (by rw [hv_id hU]; exact w) (lv_sub hl [1, 2, 3, 0] rfl)

