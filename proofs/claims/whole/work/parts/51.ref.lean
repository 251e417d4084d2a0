section HV7
variable {p : Program} {l : Launch} {e : Env} {R : Room} {s : State} {m : MethodId} {args : Array Value} {below : List Frame} {meth : Method} {c : Code} {H : Heap} {locs : List Loc} {cells slots : Nat}
variable {cc : ByteArray} {pc nL : Nat} {ls : Array Slot} {X : hv_X} {V : hv_V} {own : String}
theorem hv_aret {pr : Nat → hv_V → Prop} {rt : FieldType} (C0 : hv_C X p s m args c cc nL own) (w : hv_w X s V H locs) (hr : meth.sig.returnType = some rt) (hrt : (∃ n, rt = .object n) ∨ ∃ t, rt = .array t) (hlk : meth.locks = false) {a : Nat} (hp : pr a V) (hdg : decode cc pc = .ok (.areturn, 1)) : W p l e R s m args below meth c H locs cells slots (MQ below (hv_Qr X pr) args s cells slots X.2.2.1) (F0 m pc ls [.ref a]) :=
  W.aret C0.1 C0.2.1 hr hrt (Or.inr ⟨a, rfl⟩) (fun t ht _ => ⟨⟨V, a, rfl, trivial, by show hv_ok X V t.heap ∧ pr a V; rw [ht]; exact ⟨w.1, hp⟩⟩, w.2.F ht⟩) w.2.2.2 hdg hlk
end HV7
theorem hs_jk {i : Int32} {k s : Nat} (hi : 0 ≤ i) (hk : k < 100) (hs : s ≤ 60) : nI k < nI s - i ↔ ¬ (i < 0 ∨ s ≤ i.toNatClampNeg + k) := by
  have h0 : ¬ i < 0 := Int32.not_lt.mpr hi
  have e := hs_nn h0
  have l := Int32.toInt_lt i
  have e0 : (0 : Int32).toInt = 0 := by decide
  have p := Int32.le_iff_toInt_le.mp hi
  rw [e0] at p
  rw [Int32.lt_iff_toInt_lt, Int32.toInt_sub, nI_toInt (by omega), nI_toInt (by omega), Int.bmod_eq_of_le (by omega) (by omega)]
  constructor
  · intro h h9; rcases h9 with h9 | h9
    · exact h0 h9
    · omega
  · intro h
    have h2 : ¬ s ≤ i.toNatClampNeg + k := fun h9 => h (Or.inr h9)
    omega
theorem hs_iadd {i : Int32} {k : Nat} (hi : 0 ≤ i) (h : i.toNatClampNeg + k < 100) : i + nI k = nI (i.toNatClampNeg + k) := by
  have h0 : ¬ i < 0 := Int32.not_lt.mpr hi
  obtain ⟨j, hj, rfl⟩ := nI_of h0
  rw [nI_clamp hj]; exact nI_add j k
set_option maxHeartbeats 4000000 in
set_option maxRecDepth 100000 in
theorem c_X7_judge {l : Launch} {X : hv_X} {V : hv_V} {mo : Nat} {σ : hs_S} (hM : okM X V mo σ) (hB : hs_b σ) {j1 j2 : Nat} {i : Int32} (hj1 : j1 < 6) (hj2 : j2 < 6) (hrj : sp_in (nI j1) 0 5) (hrk : sp_in (nI j2) 0 5) : hv_Mi l X 220 yX7_judge cX7_judge 5 .int V [.ref mo, .int (nI j1), .int (nI j2), .int i] (fun y V1 => y = sp_judge σ (nI j1) (nI j2) i ∧ okM X V1 mo σ ∧ hv_out V V1 mo (mo + 50)) := by
  refine hv_enter (by decide) (Nat.le_of_ble_eq_true rfl) ?_
  intro p e s m below meth c ls C0 hr hlk hnm w hl
  have hl : lv_has ls 5 [(0, .ref mo), (1, .int (nI j1)), (2, .int (nI j2)), (3, .int i)] := hl
  obtain ⟨ab, be, pl, cl, sg, ik, hO, hRw, hTx, hSc, hSe, hEv, hBk, hIm, hTp⟩ := id hM
  obtain ⟨r1, r2, ⟨rf, r3, r4⟩, r5⟩ := id hRw
  obtain ⟨⟨wd, s1⟩, ⟨td, s2⟩, ⟨sn, s3⟩, ⟨ut, s4⟩, kn, s5⟩ := id hSc
  obtain ⟨sf, sg9, sh, e1, e2, e3, ea⟩ := id hSe
  obtain ⟨ef, eg, v1, v2, va⟩ := id hEv
  obtain ⟨bf, bg, b1, b2, ba⟩ := id hBk
  obtain ⟨t1, t2, ⟨tf, t3, t4⟩, t5⟩ := id hTp
  have hbR := hB.1.1
  have kj1 : (nI j1).toNatClampNeg = j1 := nI_clamp (by omega)
  have kj2 : (nI j2).toNatClampNeg = j2 := nI_clamp (by omega)
  have hN_j1 : V (mo + 4 + j1) = some (nE X (σ.1.1.2.2 j1)) := r5 j1 hj1
  have hI_j2 : V (mo + 44 + j2) = some (jE X (σ.2.2.2.2.2 j2)) := t5 j2 hj2
  have hn_j1 : σ.1.1.2.1 j1 ≤ 16 := (hbR j1 hj1).2.1
  have hz2 : σ.2.2.2.2.1 j2 ≤ 60 := (hB.2.2.2.2 j2 hj2).2.1
  have loop : ∀ (m9 k : Nat) (Hq : Heap) (lq : List Loc) (ls : Array Slot), (k + m9 = σ.1.1.2.1 j1) → (sp_jd σ j1 j2 i m9 k = sp_judge σ (nI j1) (nI j2) i) → hv_w X s (V) Hq lq → lv_has ls 5 [(0, .ref mo), (1, .int (nI j1)), (2, .int (nI j2)), (3, .int i), (4, .int (nI k))] → W p l e (hv_rm 220 0 0) s m ([.ref mo, .int (nI j1), .int (nI j2), .int i] : List Value).toArray below meth c Hq lq 0 0 (MQ below (hv_Qi X (fun y V1 => y = sp_judge σ (nI j1) (nI j2) i ∧ okM X V1 mo σ ∧ hv_out V V1 mo (mo + 50))) ([.ref mo, .int (nI j1), .int (nI j2), .int i] : List Value).toArray s 0 0 X.2.2.1) (F0 m 41 ls []) := by
    intro m9
    induction m9 with
    | zero =>
      intro k Hq lq ls hi he w hl
      have he : (-5 : Int32) = sp_judge σ (nI j1) (nI j2) i := he
      refine lv_iload C0.1 C0.2.1 dX7_judge_41 (lv_at hl 4 rfl) ?_
      refine lv_aload_n C0.1 C0.2.1 dX7_judge_43 rfl (lv_at hl 0 rfl) ?_
      refine gf_X7_15 C0 w hO rfl dX7_judge_44 ?_
      refine lv_iload_n C0.1 C0.2.1 dX7_judge_47 rfl (lv_at hl 1 rfl) ?_
      refine hv_iald C0 w r2 (hn_in hj1 (by decide)) dX7_judge_48 ?_
      have hc1 : (nI j1).toNatClampNeg = j1 := nI_clamp (by omega)
      rw [hc1]
      refine lv_icmp_ge (tgt := 118) C0.1 C0.2.1 dX7_judge_49 (by decide) (fun c_49 => ?_) (fun c_49 => absurd (nI_le (by omega) (by omega)) c_49)
      refine lv_bipush (v := -5) C0.1 C0.2.1 dX7_judge_118 (by decide) ?_
      exact hv_iret C0 w hr hlk (⟨he, hM, hv_out.rf⟩) dX7_judge_120
    | succ m9 ih =>
      intro k Hq lq ls hi he w hl
      refine lv_iload C0.1 C0.2.1 dX7_judge_41 (lv_at hl 4 rfl) ?_
      refine lv_aload_n C0.1 C0.2.1 dX7_judge_43 rfl (lv_at hl 0 rfl) ?_
      refine gf_X7_15 C0 w hO rfl dX7_judge_44 ?_
      refine lv_iload_n C0.1 C0.2.1 dX7_judge_47 rfl (lv_at hl 1 rfl) ?_
      refine hv_iald C0 w r2 (hn_in hj1 (by decide)) dX7_judge_48 ?_
      have hc1 : (nI j1).toNatClampNeg = j1 := nI_clamp (by omega)
      rw [hc1]
      refine lv_icmp_ge (tgt := 118) C0.1 C0.2.1 dX7_judge_49 (by decide) (fun c_49 => absurd c_49 (nI_ge (by omega) (by omega))) (fun c_49 => ?_)
      refine lv_aload_n C0.1 C0.2.1 dX7_judge_52 rfl (lv_at hl 0 rfl) ?_
      refine gf_X7_78 C0 w hO rfl dX7_judge_53 ?_
      refine lv_iload_n C0.1 C0.2.1 dX7_judge_56 rfl (lv_at hl 2 rfl) ?_
      refine hv_iald C0 w t1 (hn_in hj2 (by decide)) dX7_judge_57 ?_
      have hc2 : (nI j2).toNatClampNeg = j2 := nI_clamp (by omega)
      rw [hc2]
      refine lv_if_lt (tgt := 78) C0.1 C0.2.1 dX7_judge_58 (by decide) (fun c_58 => ?_) (fun c_58 => ?_)
      · skip
        refine lv_bipush (v := 100) C0.1 C0.2.1 dX7_judge_78 (by decide) ?_
        refine lv_iload C0.1 C0.2.1 dX7_judge_80 (lv_at hl 4 rfl) ?_
        refine lv_iadd C0.1 C0.2.1 dX7_judge_82 ?_
        exact hv_iret C0 w hr hlk (⟨by rw [← he, sp_jd, if_pos (Or.inr (by have h9 := (hB.2.2.2.2 j2 hj2).2.2 (hs_m1 c_58 (hB.2.2.2.2 j2 hj2).1.1); omega))], hM, hv_out.rf⟩) dX7_judge_83
      · skip
        refine lv_iload_n C0.1 C0.2.1 dX7_judge_61 rfl (lv_at hl 3 rfl) ?_
        refine lv_if_lt (tgt := 78) C0.1 C0.2.1 dX7_judge_62 (by decide) (fun c_62 => ?_) (fun c_62 => ?_)
        · skip
          refine lv_bipush (v := 100) C0.1 C0.2.1 dX7_judge_78 (by decide) ?_
          refine lv_iload C0.1 C0.2.1 dX7_judge_80 (lv_at hl 4 rfl) ?_
          refine lv_iadd C0.1 C0.2.1 dX7_judge_82 ?_
          exact hv_iret C0 w hr hlk (⟨by rw [← he, sp_jd, if_pos (Or.inl c_62)], hM, hv_out.rf⟩) dX7_judge_83
        · skip
          refine lv_iload C0.1 C0.2.1 dX7_judge_65 (lv_at hl 4 rfl) ?_
          refine lv_aload_n C0.1 C0.2.1 dX7_judge_67 rfl (lv_at hl 0 rfl) ?_
          refine gf_X7_81 C0 w hO rfl dX7_judge_68 ?_
          refine lv_iload_n C0.1 C0.2.1 dX7_judge_71 rfl (lv_at hl 2 rfl) ?_
          refine hv_iald C0 w t2 (hn_in hj2 (by decide)) dX7_judge_72 ?_
          have hc3 : (nI j2).toNatClampNeg = j2 := nI_clamp (by omega)
          rw [hc3]
          refine lv_iload_n C0.1 C0.2.1 dX7_judge_73 rfl (lv_at hl 3 rfl) ?_
          refine lv_isub C0.1 C0.2.1 dX7_judge_74 ?_
          refine lv_icmp_lt (tgt := 84) C0.1 C0.2.1 dX7_judge_75 (by decide) (fun c_75 => ?_) (fun c_75 => ?_)
          · skip
            have hi9 : 0 ≤ i := Int32.not_lt.mp c_62
            have hno9 := (hs_jk hi9 (by omega) hz2).mp c_75
            have hlt9 : i.toNatClampNeg + k < σ.2.2.2.2.1 j2 := Nat.not_le.mp (fun h9 => hno9 (Or.inr h9))
            refine lv_aload_n C0.1 C0.2.1 dX7_judge_84 rfl (lv_at hl 0 rfl) ?_
            refine gf_X7_86 C0 w hO rfl dX7_judge_85 ?_
            refine lv_iload_n C0.1 C0.2.1 dX7_judge_88 rfl (lv_at hl 2 rfl) ?_
            refine hv_aalA 7 rfl C0 w rfl t3 (hn_in hj2 (by decide)) (by rw [kj2]; exact t4 j2 hj2) dX7_judge_89 ?_
            refine lv_iload_n C0.1 C0.2.1 dX7_judge_90 rfl (lv_at hl 3 rfl) ?_
            refine lv_iload C0.1 C0.2.1 dX7_judge_91 (lv_at hl 4 rfl) ?_
            refine lv_iadd C0.1 C0.2.1 dX7_judge_93 ?_
            rw [hs_iadd hi9 (by omega)]
            refine hv_lald C0 w hI_j2 (hn_in (by omega) (by decide)) dX7_judge_94 ?_
            have hc4 : (nI (i.toNatClampNeg + k)).toNatClampNeg = (i.toNatClampNeg + k) := nI_clamp (by omega)
            rw [hc4]
            refine lv_aload_n C0.1 C0.2.1 dX7_judge_95 rfl (lv_at hl 0 rfl) ?_
            refine gf_X7_20 C0 w hO rfl dX7_judge_96 ?_
            refine lv_iload_n C0.1 C0.2.1 dX7_judge_99 rfl (lv_at hl 1 rfl) ?_
            refine hv_aalA 6 rfl C0 w rfl r3 (hn_in hj1 (by decide)) (by rw [kj1]; exact r4 j1 hj1) dX7_judge_100 ?_
            refine lv_iload C0.1 C0.2.1 dX7_judge_101 (lv_at hl 4 rfl) ?_
            refine hv_iald C0 w hN_j1 (hn_in (by omega) (by decide)) dX7_judge_103 ?_
            have hc5 : (nI k).toNatClampNeg = k := nI_clamp (by omega)
            rw [hc5]
            refine lv_i2l (v := ((σ.1.1.2.2 j1) k).toInt64) C0.1 C0.2.1 dX7_judge_104 rfl ?_
            refine hv_lc_eq (tgt := 112) C0.1 C0.2.1 dX7_judge_105 dX7_judge_106 (by decide) (fun c_105 => ?_) (fun c_105 => ?_)
            · skip
              refine lv_iinc (v := (nI k) + 1) (lv' := [(4, .int ((nI k) + 1)), (0, .ref mo), (1, .int (nI j1)), (2, .int (nI j2)), (3, .int i)]) C0.1 C0.2.1 dX7_judge_112 hl (k := 4) rfl rfl (by decide) rfl (fun ls hl => ?_)
              refine lv_goto (tgt := 41) C0.1 C0.2.1 dX7_judge_115 (by decide) ?_
              exact ih (k + 1) _ _ ls (by omega) (by rw [← he, sp_jd, if_neg hno9, if_pos c_105]) w (by have h9 := (lv_sub (l' := [(0, .ref mo), (1, .int (nI j1)), (2, .int (nI j2)), (3, .int i), (4, .int (nI k + 1))]) hl [1, 2, 3, 4, 0] rfl); rw [nI_1] at h9; exact h9)
            · skip
              refine lv_iload C0.1 C0.2.1 dX7_judge_109 (lv_at hl 4 rfl) ?_
              exact hv_iret C0 w hr hlk (⟨by rw [← he, sp_jd, if_neg hno9, if_neg c_105], hM, hv_out.rf⟩) dX7_judge_111
          · skip
            refine lv_bipush (v := 100) C0.1 C0.2.1 dX7_judge_78 (by decide) ?_
            refine lv_iload C0.1 C0.2.1 dX7_judge_80 (lv_at hl 4 rfl) ?_
            refine lv_iadd C0.1 C0.2.1 dX7_judge_82 ?_
            exact hv_iret C0 w hr hlk (⟨by rw [← he, sp_jd, if_pos (Classical.byContradiction (fun h9 => c_75 ((hs_jk (Int32.not_lt.mp c_62) (by omega) hz2).mpr h9)))], hM, hv_out.rf⟩) dX7_judge_83
  refine lv_iload_n C0.1 C0.2.1 dX7_judge_0 rfl (lv_at hl 1 rfl) ?_
  refine hv_cSi (As := [.int (nI j1)]) C0 w kl_X7_135 ks_X7_isRow (c_X7_isRow) (by decide) (by decide) rfl hl.1 rfl (Nat.le_of_ble_eq_true rfl) dX7_judge_1 ⟨Nat.le_refl _, Nat.le_refl _⟩ (fun x1 V2 Hq lq hp3 w => ?_)
  obtain ⟨e9, hz9⟩ := hp3
  rw [e9] at w; clear e9
  obtain ⟨ex9, -⟩ | ⟨-, hno⟩ := hz9
  rotate_left
  · exact absurd hrj hno
  rw [ex9]; clear ex9
  refine lv_if_eq (tgt := 14) C0.1 C0.2.1 dX7_judge_4 (by decide) (fun h9 => absurd h9 (by decide)) (fun _ => ?_)
  refine lv_iload_n C0.1 C0.2.1 dX7_judge_7 rfl (lv_at hl 2 rfl) ?_
  refine hv_cSi (As := [.int (nI j2)]) C0 w kl_X7_303 ks_X7_isTape (c_X7_isTape) (by decide) (by decide) rfl hl.1 rfl (Nat.le_of_ble_eq_true rfl) dX7_judge_8 ⟨Nat.le_refl _, Nat.le_refl _⟩ (fun x4 V5 Hq lq hp6 w => ?_)
  obtain ⟨e9, hz9⟩ := hp6
  rw [e9] at w; clear e9
  obtain ⟨ex9, -⟩ | ⟨-, hno⟩ := hz9
  rotate_left
  · exact absurd hrk hno
  rw [ex9]; clear ex9
  refine lv_if_ne (tgt := 16) C0.1 C0.2.1 dX7_judge_11 (by decide) (fun _ => ?_) (fun h9 => absurd h9 (by decide))
  refine lv_aload_n C0.1 C0.2.1 dX7_judge_16 rfl (lv_at hl 0 rfl) ?_
  refine gf_X7_78 C0 w hO rfl dX7_judge_17 ?_
  refine lv_iload_n C0.1 C0.2.1 dX7_judge_20 rfl (lv_at hl 2 rfl) ?_
  refine hv_iald C0 w t1 (hn_in hj2 (by decide)) dX7_judge_21 ?_
  have hc7 : (nI j2).toNatClampNeg = j2 := nI_clamp (by omega)
  rw [hc7]
  refine lv_if_lt (tgt := 38) C0.1 C0.2.1 dX7_judge_22 (by decide) (fun c_22 => ?_) (fun c_22 => ?_)
  · skip
    refine lv_iconst (v := 0) C0.1 C0.2.1 dX7_judge_38 (by decide) ?_
    refine lv_istore (lv' := [(4, .int 0), (0, .ref mo), (1, .int (nI j1)), (2, .int (nI j2)), (3, .int i)]) C0.1 C0.2.1 dX7_judge_39 hl (by decide) rfl (fun ls hl => ?_)
    exact loop (σ.1.1.2.1 j1) 0 _ _ ls (by omega) (by rw [sp_judge, if_pos ⟨hrj, hrk⟩, kj1, kj2, if_pos (Or.inl (hs_m1 c_22 (hB.2.2.2.2 j2 hj2).1.1))]) w (lv_sub hl [1, 2, 3, 4, 0] rfl)
  · skip
    refine lv_aload_n C0.1 C0.2.1 dX7_judge_25 rfl (lv_at hl 0 rfl) ?_
    refine gf_X7_78 C0 w hO rfl dX7_judge_26 ?_
    refine lv_iload_n C0.1 C0.2.1 dX7_judge_29 rfl (lv_at hl 2 rfl) ?_
    refine hv_iald C0 w t1 (hn_in hj2 (by decide)) dX7_judge_30 ?_
    have hc8 : (nI j2).toNatClampNeg = j2 := nI_clamp (by omega)
    rw [hc8]
    refine lv_iconst (v := 2) C0.1 C0.2.1 dX7_judge_31 (by decide) ?_
    refine lv_icmp_eq (tgt := 38) C0.1 C0.2.1 dX7_judge_32 (by decide) (fun c_32 => ?_) (fun c_32 => ?_)
    · skip
      refine lv_iconst (v := 0) C0.1 C0.2.1 dX7_judge_38 (by decide) ?_
      refine lv_istore (lv' := [(4, .int 0), (0, .ref mo), (1, .int (nI j1)), (2, .int (nI j2)), (3, .int i)]) C0.1 C0.2.1 dX7_judge_39 hl (by decide) rfl (fun ls hl => ?_)
      exact loop (σ.1.1.2.1 j1) 0 _ _ ls (by omega) (by rw [sp_judge, if_pos ⟨hrj, hrk⟩, kj1, kj2, if_pos (Or.inr c_32)]) w (lv_sub hl [1, 2, 3, 4, 0] rfl)
    · skip
      refine lv_bipush (v := -12) C0.1 C0.2.1 dX7_judge_35 (by decide) ?_
      exact hv_iret C0 w hr hlk (by rw [sp_judge, if_pos ⟨hrj, hrk⟩, kj1, kj2, if_neg (fun h9 => h9.elim (fun h8 => c_22 (by rw [h8]; decide)) c_32)]; exact ⟨rfl, hM, hv_out.rf⟩) dX7_judge_37

set_option maxHeartbeats 4000000 in
set_option maxRecDepth 100000 in
theorem n_X7_judge {l : Launch} {X : hv_X} {V : hv_V} {mo : Nat} {σ : hs_S} (hM : okM X V mo σ) (hB : hs_b σ) {a b i : Int32} (hno : ¬ (sp_in a 0 5 ∧ sp_in b 0 5)) : hv_Mi l X 220 yX7_judge cX7_judge 5 .int V [.ref mo, .int a, .int b, .int i] (fun y V1 => y = sp_judge σ a b i ∧ okM X V1 mo σ ∧ hv_out V V1 mo (mo + 50)) := by
  refine hv_enter (by decide) (Nat.le_of_ble_eq_true rfl) ?_
  intro p e s m below meth c ls C0 hr hlk hnm w hl
  have hl : lv_has ls 5 [(0, .ref mo), (1, .int a), (2, .int b), (3, .int i)] := hl
  obtain ⟨ab, be, pl, cl, sg, ik, hO, hRw, hTx, hSc, hSe, hEv, hBk, hIm, hTp⟩ := id hM
  obtain ⟨r1, r2, ⟨rf, r3, r4⟩, r5⟩ := id hRw
  obtain ⟨⟨wd, s1⟩, ⟨td, s2⟩, ⟨sn, s3⟩, ⟨ut, s4⟩, kn, s5⟩ := id hSc
  obtain ⟨sf, sg9, sh, e1, e2, e3, ea⟩ := id hSe
  obtain ⟨ef, eg, v1, v2, va⟩ := id hEv
  obtain ⟨bf, bg, b1, b2, ba⟩ := id hBk
  obtain ⟨t1, t2, ⟨tf, t3, t4⟩, t5⟩ := id hTp
  have hbR := hB.1.1
  refine lv_iload_n C0.1 C0.2.1 dX7_judge_0 rfl (lv_at hl 1 rfl) ?_
  refine hv_cSi (As := [.int a]) C0 w kl_X7_135 ks_X7_isRow (c_X7_isRow) (by decide) (by decide) rfl hl.1 rfl (Nat.le_of_ble_eq_true rfl) dX7_judge_1 ⟨Nat.le_refl _, Nat.le_refl _⟩ (fun x1 V2 Hq lq hp3 w => ?_)
  obtain ⟨e9, hz9⟩ := hp3
  rw [e9] at w; clear e9
  rcases hz9 with ⟨rfl, hb4⟩ | ⟨rfl, hb4⟩
  · skip
    have ihb4 := hb4
    obtain ⟨j1, hj1, rfl⟩ := sp_inN (k := 5) (by decide) hb4
    have kj1 : (nI j1).toNatClampNeg = j1 := nI_clamp (by omega)
    have hN_j1 : V (mo + 4 + j1) = some (nE X (σ.1.1.2.2 j1)) := r5 j1 hj1
    have hn_j1 : σ.1.1.2.1 j1 ≤ 16 := (hbR j1 hj1).2.1
    refine lv_if_eq (tgt := 14) C0.1 C0.2.1 dX7_judge_4 (by decide) (fun h9 => absurd h9 (by decide)) (fun _ => ?_)
    refine lv_iload_n C0.1 C0.2.1 dX7_judge_7 rfl (lv_at hl 2 rfl) ?_
    refine hv_cSi (As := [.int b]) C0 w kl_X7_303 ks_X7_isTape (c_X7_isTape) (by decide) (by decide) rfl hl.1 rfl (Nat.le_of_ble_eq_true rfl) dX7_judge_8 ⟨Nat.le_refl _, Nat.le_refl _⟩ (fun x5 V6 Hq lq hp7 w => ?_)
    obtain ⟨e9, hz9⟩ := hp7
    rw [e9] at w; clear e9
    rcases hz9 with ⟨rfl, hb8⟩ | ⟨rfl, hb8⟩
    · skip
      have ihb8 := hb8
      obtain ⟨j2, hj2, rfl⟩ := sp_inN (k := 5) (by decide) hb8
      have kj2 : (nI j2).toNatClampNeg = j2 := nI_clamp (by omega)
      have hI_j2 : V (mo + 44 + j2) = some (jE X (σ.2.2.2.2.2 j2)) := t5 j2 hj2
      have hz_j2 : σ.2.2.2.2.1 j2 ≤ 60 := (hB.2.2.2.2 j2 hj2).2.1
      refine lv_if_ne (tgt := 16) C0.1 C0.2.1 dX7_judge_11 (by decide) (fun _ => ?_) (fun h9 => absurd h9 (by decide))
      exact absurd (And.intro ihb4 ihb8) hno
    · skip
      refine lv_if_ne (tgt := 16) C0.1 C0.2.1 dX7_judge_11 (by decide) (fun h9 => absurd h9 (by decide)) (fun _ => ?_)
      refine lv_iconst (v := -1) C0.1 C0.2.1 dX7_judge_14 (by decide) ?_
      exact hv_iret C0 w hr hlk (by rw [sp_judge, if_neg hno]; exact ⟨rfl, hM, hv_out.rf⟩) dX7_judge_15
  · skip
    refine lv_if_eq (tgt := 14) C0.1 C0.2.1 dX7_judge_4 (by decide) (fun _ => ?_) (fun h9 => absurd h9 (by decide))
    refine lv_iconst (v := -1) C0.1 C0.2.1 dX7_judge_14 (by decide) ?_
    exact hv_iret C0 w hr hlk (by rw [sp_judge, if_neg hno]; exact ⟨rfl, hM, hv_out.rf⟩) dX7_judge_15

theorem m_X7_judge {l : Launch} {X : hv_X} {V : hv_V} {mo : Nat} {σ : hs_S} (hM : okM X V mo σ) (hB : hs_b σ) {a b i : Int32} : hv_Mi l X 220 yX7_judge cX7_judge 5 .int V [.ref mo, .int a, .int b, .int i] (fun y V1 => y = sp_judge σ a b i ∧ okM X V1 mo σ ∧ hv_out V V1 mo (mo + 50)) := by
  by_cases h : sp_in a 0 5 ∧ sp_in b 0 5
  · obtain ⟨h1, h3⟩ := h
    obtain ⟨j1, hj1, rfl⟩ := sp_inN (k := 5) (by decide) h1
    obtain ⟨j2, hj2, rfl⟩ := sp_inN (k := 5) (by decide) h3
    exact c_X7_judge hM hB hj1 hj2 h1 h3
  · exact n_X7_judge hM hB h
abbrev sp_one9 (f : Nat → Int32) (i : Nat) : Int32 := f i + 1
theorem sp_one8 (f : Nat → Int32) (i : Nat) : (if sp_one9 f i < 1000000000 then sp_one9 f i else 1000000000) = sp_one (f i) := by
  show (if f i + 1 < 1000000000 then f i + 1 else 1000000000) = if 1000000000 < f i + 1 then 1000000000 else f i + 1
  by_cases h : f i + 1 < 1000000000
  · rw [if_pos h, if_neg (fun h9 => absurd h (Int32.not_lt.mpr (Int32.le_of_lt h9)))]
  · rw [if_neg h]
    by_cases h2 : 1000000000 < f i + 1
    · rw [if_pos h2]
    · rw [if_neg h2]; exact Int32.le_antisymm (Int32.not_lt.mp h) (Int32.not_lt.mp h2)
set_option maxHeartbeats 4000000 in
set_option maxRecDepth 100000 in
theorem c_X7_happens {l : Launch} {X : hv_X} {V : hv_V} {mo : Nat} {ab be : Int64} {tx se ev bk : Nat} {pl cl sg ik : Int32} (hO : V mo = some (mE mo ab be tx pl cl sg se ev bk ik)) {ki ma : Nat → Int32} {rf : Nat → Option Nat} {j n : Nat} {f : Nat → Int32} (r1 : V (mo + 1) = some (iE X 6 ki)) (r2 : V (mo + 2) = some (iE X 6 ma)) (hma : ma j = nI n) (r3 : V (mo + 3) = some (qE X 6 6 rf)) (rj : rf j = some (mo + 4 + j)) (hj : j < 6) (hN : V (mo + 4 + j) = some (nE X f)) (hn : n ≤ 16) {what : Int32} : hv_Mv l X 1 yX7_happens cX7_happens 4 V [.ref mo, .int what, .int (nI j)] (fun V1 => V1 = hv_up (hv_up (hv_up V (mo + 1) (iE X 6 (upd ki j (sp_und what (ki j) n f).1))) (mo + 2) (iE X 6 (upd ma j (nI (sp_und what (ki j) n f).2.1)))) (mo + 4 + j) (nE X ((sp_und what (ki j) n f).2.2))) := by
  refine hv_enter (by decide) (Nat.le_of_ble_eq_true rfl) ?_
  intro p e s m below meth c ls C0 hr hlk hnm w hl
  have hl : lv_has ls 4 [(0, .ref mo), (1, .int what), (2, .int (nI j))] := hl
  have kj : (nI j).toNatClampNeg = j := nI_clamp (by omega)
  have loop : ∀ (hw1 : what = 1) (m9 i : Nat) (Hq : Heap) (lq : List Loc) (ls : Array Slot), (i + m9 = n) → hv_w X s (hv_up V (mo + 4 + j) (nE X (sp_inc f i))) Hq lq → lv_has ls 4 [(0, .ref mo), (2, .int (nI j)), (3, .int (nI i))] → W p l e (hv_rm 1 0 0) s m ([.ref mo, .int what, .int (nI j)] : List Value).toArray below meth c Hq lq 0 0 (MQ below (hv_Qv X (fun V1 => V1 = hv_up (hv_up (hv_up V (mo + 1) (iE X 6 (upd ki j (sp_und what (ki j) n f).1))) (mo + 2) (iE X 6 (upd ma j (nI (sp_und what (ki j) n f).2.1)))) (mo + 4 + j) (nE X ((sp_und what (ki j) n f).2.2)))) ([.ref mo, .int what, .int (nI j)] : List Value).toArray s 0 0 X.2.2.1) (F0 m 51 ls []) := by
    intro hw1 m9
    induction m9 with
    | zero =>
      intro i Hq lq ls hi w hl
      obtain ⟨V8, e8⟩ : ∃ W9, W9 = hv_up V (mo + 4 + j) (nE X (sp_inc f i)) := ⟨_, rfl⟩
      rw [← e8] at w
      have q0 : V8 mo = some (.inr (7, [.ref (mo + 1), .ref (mo + 2), .ref (mo + 3), .long ab, .long be, .ref (mo + 10), .int (nI tx), .int pl, .int cl, .ref (mo + 11), .ref (mo + 12), .ref (mo + 13), .int sg, .ref (mo + 14), .ref (mo + 15), .ref (mo + 16), .ref (mo + 17), .int (nI se), .ref (mo + 18), .ref (mo + 19), .int (nI ev), .ref (mo + 20), .ref (mo + 21), .ref (mo + 22), .int (nI bk), .int ik, .ref (mo + 23), .ref (mo + 24), .ref (mo + 25), .ref (mo + 26), .ref (mo + 33), .ref (mo + 41), .ref (mo + 42), .ref (mo + 43)])) := by rw [e8, hv_un (by omega)]; exact hO
      have q2 : V8 (mo + 2) = some (iE X 6 ma) := by rw [e8, hv_un (by omega)]; exact r2
      have q3 : V8 (mo + 3) = some (qE X 6 6 rf) := by rw [e8, hv_un (by omega)]; exact r3
      have q4 : V8 (mo + 4 + j) = some (nE X (sp_inc f i)) := by rw [e8]; exact hv_us
      refine lv_iload_n C0.1 C0.2.1 dX7_happens_51 rfl (lv_at hl 2 rfl) ?_
      refine lv_aload_n C0.1 C0.2.1 dX7_happens_52 rfl (lv_at hl 0 rfl) ?_
      refine gf_X7_15 C0 w q0 rfl dX7_happens_53 ?_
      refine lv_iload_n C0.1 C0.2.1 dX7_happens_56 rfl (lv_at hl 1 rfl) ?_
      refine hv_iald C0 w q2 (hn_in hj (by decide)) dX7_happens_57 ?_
      have hc1 : (nI j).toNatClampNeg = j := nI_clamp (by omega)
      rw [hc1]
      rw [hma]
      refine lv_icmp_ge (tgt := 90) C0.1 C0.2.1 dX7_happens_58 (by decide) (fun c_58 => ?_) (fun c_58 => absurd (nI_le (by omega) (by omega)) c_58)
      refine lv_goto (tgt := 109) C0.1 C0.2.1 dX7_happens_90 (by decide) ?_
      exact hv_vret C0 w hr hlk (by rw [sp_und, if_neg (by rw [hw1]; decide), if_pos hw1, hs_uid, ← hma, hs_uid, hv_id r1, hv_id r2, e8, show i = n by omega]) dX7_happens_109
    | succ m9 ih =>
      intro i Hq lq ls hi w hl
      obtain ⟨V8, e8⟩ : ∃ W9, W9 = hv_up V (mo + 4 + j) (nE X (sp_inc f i)) := ⟨_, rfl⟩
      rw [← e8] at w
      have q0 : V8 mo = some (.inr (7, [.ref (mo + 1), .ref (mo + 2), .ref (mo + 3), .long ab, .long be, .ref (mo + 10), .int (nI tx), .int pl, .int cl, .ref (mo + 11), .ref (mo + 12), .ref (mo + 13), .int sg, .ref (mo + 14), .ref (mo + 15), .ref (mo + 16), .ref (mo + 17), .int (nI se), .ref (mo + 18), .ref (mo + 19), .int (nI ev), .ref (mo + 20), .ref (mo + 21), .ref (mo + 22), .int (nI bk), .int ik, .ref (mo + 23), .ref (mo + 24), .ref (mo + 25), .ref (mo + 26), .ref (mo + 33), .ref (mo + 41), .ref (mo + 42), .ref (mo + 43)])) := by rw [e8, hv_un (by omega)]; exact hO
      have q2 : V8 (mo + 2) = some (iE X 6 ma) := by rw [e8, hv_un (by omega)]; exact r2
      have q3 : V8 (mo + 3) = some (qE X 6 6 rf) := by rw [e8, hv_un (by omega)]; exact r3
      have q4 : V8 (mo + 4 + j) = some (nE X (sp_inc f i)) := by rw [e8]; exact hv_us
      refine lv_iload_n C0.1 C0.2.1 dX7_happens_51 rfl (lv_at hl 2 rfl) ?_
      refine lv_aload_n C0.1 C0.2.1 dX7_happens_52 rfl (lv_at hl 0 rfl) ?_
      refine gf_X7_15 C0 w q0 rfl dX7_happens_53 ?_
      refine lv_iload_n C0.1 C0.2.1 dX7_happens_56 rfl (lv_at hl 1 rfl) ?_
      refine hv_iald C0 w q2 (hn_in hj (by decide)) dX7_happens_57 ?_
      have hc1 : (nI j).toNatClampNeg = j := nI_clamp (by omega)
      rw [hc1]
      rw [hma]
      refine lv_icmp_ge (tgt := 90) C0.1 C0.2.1 dX7_happens_58 (by decide) (fun c_58 => absurd c_58 (nI_ge (by omega) (by omega))) (fun c_58 => ?_)
      refine lv_aload_n C0.1 C0.2.1 dX7_happens_61 rfl (lv_at hl 0 rfl) ?_
      refine gf_X7_20 C0 w q0 rfl dX7_happens_62 ?_
      refine lv_iload_n C0.1 C0.2.1 dX7_happens_65 rfl (lv_at hl 1 rfl) ?_
      refine hv_aalA 6 rfl C0 w rfl q3 (hn_in hj (by decide)) (by rw [kj]; exact rj) dX7_happens_66 ?_
      refine lv_iload_n C0.1 C0.2.1 dX7_happens_67 rfl (lv_at hl 2 rfl) ?_
      refine lv_ldc C0.1 C0.2.1 C0.2.2.2.1 (C0.2.2.2.2.1 _ kk_X7_147) dX7_happens_68 ?_
      refine lv_aload_n C0.1 C0.2.1 dX7_happens_70 rfl (lv_at hl 0 rfl) ?_
      refine gf_X7_20 C0 w q0 rfl dX7_happens_71 ?_
      refine lv_iload_n C0.1 C0.2.1 dX7_happens_74 rfl (lv_at hl 1 rfl) ?_
      refine hv_aalA 6 rfl C0 w rfl q3 (hn_in hj (by decide)) (by rw [kj]; exact rj) dX7_happens_75 ?_
      refine lv_iload_n C0.1 C0.2.1 dX7_happens_76 rfl (lv_at hl 2 rfl) ?_
      refine hv_iald C0 w q4 (hn_in (by omega) (by decide)) dX7_happens_77 ?_
      have hc2 : (nI i).toNatClampNeg = i := nI_clamp (by omega)
      rw [hc2]
      refine lv_iconst (v := 1) C0.1 C0.2.1 dX7_happens_78 (by decide) ?_
      refine lv_iadd C0.1 C0.2.1 dX7_happens_79 ?_
      refine va_mmin C0.1 C0.2.1 (C0.2.2.1.trans hl.1.symm) C0.2.2.2.1 (C0.2.2.2.2.1 _ kj_X7_291) (C0.2.2.2.2.1 _ kj_min_s) (C0.2.2.2.2.1 _ kj_Math) (C0.2.2.2.2.1 _ kj_min_c) (by decide) (Nat.le_of_ble_eq_true rfl) (Nat.le_refl _) (Nat.le_refl _) dX7_happens_80 ?_
      refine hv_iast C0 w q4 (hn_in (by omega) (by decide)) dX7_happens_83 (fun Hq lq w => ?_)
      have hc3 : (nI i).toNatClampNeg = i := nI_clamp (by omega)
      rw [hc3] at w
      obtain ⟨V4, eV5⟩ : ∃ W9, W9 = hv_up V8 (mo + 4 + j) (.inl (X.2.1 0, 16, .inl (upd (sp_inc f i) i (if (((sp_inc f i) i) + 1) < 1000000000 then (((sp_inc f i) i) + 1) else 1000000000)))) := ⟨_, rfl⟩
      have w : hv_w X s V4 Hq lq := by rw [eV5]; exact w
      have hV6 : V4 mo = some (.inr (7, [.ref (mo + 1), .ref (mo + 2), .ref (mo + 3), .long ab, .long be, .ref (mo + 10), .int (nI tx), .int pl, .int cl, .ref (mo + 11), .ref (mo + 12), .ref (mo + 13), .int sg, .ref (mo + 14), .ref (mo + 15), .ref (mo + 16), .ref (mo + 17), .int (nI se), .ref (mo + 18), .ref (mo + 19), .int (nI ev), .ref (mo + 20), .ref (mo + 21), .ref (mo + 22), .int (nI bk), .int ik, .ref (mo + 23), .ref (mo + 24), .ref (mo + 25), .ref (mo + 26), .ref (mo + 33), .ref (mo + 41), .ref (mo + 42), .ref (mo + 43)])) := by rw [eV5, hv_un (by omega)]; exact q0
      have hV7 : V4 (mo + 2) = some (.inl (X.2.1 0, 6, .inl ma)) := by rw [eV5, hv_un (by omega)]; exact q2
      have hV8 : V4 (mo + 3) = some (.inl (X.2.1 6, 6, .inr (.inr (.inr (.inr rf))))) := by rw [eV5, hv_un (by omega)]; exact q3
      have hV10 : V4 (mo + 4 + j) = some (.inl (X.2.1 0, 16, .inl (upd (sp_inc f i) i (if (((sp_inc f i) i) + 1) < 1000000000 then (((sp_inc f i) i) + 1) else 1000000000)))) := by rw [eV5]; exact hv_us
      refine lv_iinc (v := (nI i) + 1) (lv' := [(3, .int ((nI i) + 1)), (0, .ref mo), (2, .int (nI j))]) C0.1 C0.2.1 dX7_happens_84 hl (k := 2) rfl rfl (by decide) rfl (fun ls hl => ?_)
      refine lv_goto (tgt := 51) C0.1 C0.2.1 dX7_happens_87 (by decide) ?_
      exact ih (i + 1) _ _ ls (by omega) (by rw [eV5, e8, hv_uu, sp_incn, show (if sp_one9 f i < 1000000000 then sp_one9 f i else 1000000000) = sp_one (f i) from sp_one8 f i, sp_incs] at w; exact w) (by have h9 := (lv_sub (l' := [(0, .ref mo), (2, .int (nI j)), (3, .int (nI i + 1))]) hl [1, 2, 0] rfl); rw [nI_1] at h9; exact h9)
  refine lv_iload_n C0.1 C0.2.1 dX7_happens_0 rfl (lv_at hl 1 rfl) ?_
  by_cases c_1_0 : what = 0
  · refine lv_lookup (off := 27) (tgt := 28) C0.1 C0.2.1 dX7_happens_1 (by decide) (by rw [c_1_0]; decide) (by decide) ?_
    refine lv_aload_n C0.1 C0.2.1 dX7_happens_28 rfl (lv_at hl 0 rfl) ?_
    refine gf_X7_15 C0 w hO rfl dX7_happens_29 ?_
    refine lv_iload_n C0.1 C0.2.1 dX7_happens_32 rfl (lv_at hl 2 rfl) ?_
    refine lv_iconst (v := 0) C0.1 C0.2.1 dX7_happens_33 (by decide) ?_
    refine lv_aload_n C0.1 C0.2.1 dX7_happens_34 rfl (lv_at hl 0 rfl) ?_
    refine gf_X7_15 C0 w hO rfl dX7_happens_35 ?_
    refine lv_iload_n C0.1 C0.2.1 dX7_happens_38 rfl (lv_at hl 2 rfl) ?_
    refine hv_iald C0 w r2 (hn_in hj (by decide)) dX7_happens_39 ?_
    have hc1 : (nI j).toNatClampNeg = j := nI_clamp (by omega)
    rw [hc1]
    rw [hma]
    refine lv_iconst (v := 1) C0.1 C0.2.1 dX7_happens_40 (by decide) ?_
    refine lv_isub C0.1 C0.2.1 dX7_happens_41 ?_
    refine va_mmax C0.1 C0.2.1 (C0.2.2.1.trans hl.1.symm) C0.2.2.2.1 (C0.2.2.2.2.1 _ kj_X7_288) (C0.2.2.2.2.1 _ kj_max_s) (C0.2.2.2.2.1 _ kj_Math) (C0.2.2.2.2.1 _ kj_max_c) (by decide) (Nat.le_of_ble_eq_true rfl) (Nat.le_refl _) (Nat.le_refl _) dX7_happens_42 ?_
    refine hv_iast C0 w r2 (hn_in hj (by decide)) dX7_happens_45 (fun Hq lq w => ?_)
    have hc2 : (nI j).toNatClampNeg = j := nI_clamp (by omega)
    rw [hc2] at w
    obtain ⟨V3, eV4⟩ : ∃ W9, W9 = hv_up V (mo + 2) (.inl (X.2.1 0, 6, .inl (upd ma j (if 0 < ((nI n) - 1) then ((nI n) - 1) else 0)))) := ⟨_, rfl⟩
    have w : hv_w X s V3 Hq lq := by rw [eV4]; exact w
    have hV5 : V3 mo = some (.inr (7, [.ref (mo + 1), .ref (mo + 2), .ref (mo + 3), .long ab, .long be, .ref (mo + 10), .int (nI tx), .int pl, .int cl, .ref (mo + 11), .ref (mo + 12), .ref (mo + 13), .int sg, .ref (mo + 14), .ref (mo + 15), .ref (mo + 16), .ref (mo + 17), .int (nI se), .ref (mo + 18), .ref (mo + 19), .int (nI ev), .ref (mo + 20), .ref (mo + 21), .ref (mo + 22), .int (nI bk), .int ik, .ref (mo + 23), .ref (mo + 24), .ref (mo + 25), .ref (mo + 26), .ref (mo + 33), .ref (mo + 41), .ref (mo + 42), .ref (mo + 43)])) := by rw [eV4, hv_un (by omega)]; exact hO
    have hV6 : V3 (mo + 1) = some (.inl (X.2.1 0, 6, .inl ki)) := by rw [eV4, hv_un (by omega)]; exact r1
    have hV8 : V3 (mo + 3) = some (.inl (X.2.1 6, 6, .inr (.inr (.inr (.inr rf))))) := by rw [eV4, hv_un (by omega)]; exact r3
    have hV9 : V3 (mo + 4 + j) = some (.inl (X.2.1 0, 16, .inl f)) := by rw [eV4, hv_un (by omega)]; exact hN
    have hV10 : V3 (mo + 2) = some (.inl (X.2.1 0, 6, .inl (upd ma j (if 0 < ((nI n) - 1) then ((nI n) - 1) else 0)))) := by rw [eV4]; exact hv_us
    refine lv_goto (tgt := 109) C0.1 C0.2.1 dX7_happens_46 (by decide) ?_
    exact hv_vret C0 w hr hlk (by rw [sp_und, if_pos c_1_0, hs_uid, hv_id r1, eV4, hs_pred hn, hv_id (a := mo + 4 + j) (by rw [hv_un (by omega)]; exact hN)]) dX7_happens_109
  by_cases c_1_1 : what = 1
  · refine lv_lookup (off := 48) (tgt := 49) C0.1 C0.2.1 dX7_happens_1 (by decide) (by rw [c_1_1]; decide) (by decide) ?_
    refine lv_iconst (v := 0) C0.1 C0.2.1 dX7_happens_49 (by decide) ?_
    refine lv_istore_n (lv' := [(3, .int 0), (0, .ref mo), (1, .int what), (2, .int (nI j))]) C0.1 C0.2.1 dX7_happens_50 rfl hl (by decide) rfl (fun ls hl => ?_)
    exact loop c_1_1 n 0 _ _ ls (by omega) (by rw [sp_inc0, hv_id hN]; exact w) (lv_sub hl [1, 3, 0] rfl)
  refine lv_lookup (off := 92) (tgt := 93) C0.1 C0.2.1 dX7_happens_1 (by decide) (by show Op.lookupswitch.offset ((0, 27) :: _) _ _ = _; rw [lv_osw c_1_0 (by decide)]; show Op.lookupswitch.offset ((1, 48) :: _) _ _ = _; rw [lv_osw c_1_1 (by decide)]; rfl) (by decide) ?_
  refine lv_aload_n C0.1 C0.2.1 dX7_happens_93 rfl (lv_at hl 0 rfl) ?_
  refine gf_X7_11 C0 w hO rfl dX7_happens_94 ?_
  refine lv_iload_n C0.1 C0.2.1 dX7_happens_97 rfl (lv_at hl 2 rfl) ?_
  refine lv_aload_n C0.1 C0.2.1 dX7_happens_98 rfl (lv_at hl 0 rfl) ?_
  refine gf_X7_11 C0 w hO rfl dX7_happens_99 ?_
  refine lv_iload_n C0.1 C0.2.1 dX7_happens_102 rfl (lv_at hl 2 rfl) ?_
  refine hv_iald C0 w r1 (hn_in hj (by decide)) dX7_happens_103 ?_
  have hc11 : (nI j).toNatClampNeg = j := nI_clamp (by omega)
  rw [hc11]
  refine lv_iconst (v := 1) C0.1 C0.2.1 dX7_happens_104 (by decide) ?_
  refine lv_iadd C0.1 C0.2.1 dX7_happens_105 ?_
  refine lv_iconst (v := 4) C0.1 C0.2.1 dX7_happens_106 (by decide) ?_
  refine lv_irem C0.1 C0.2.1 dX7_happens_107 (by decide) ?_
  refine hv_iast C0 w r1 (hn_in hj (by decide)) dX7_happens_108 (fun Hq lq w => ?_)
  have hc12 : (nI j).toNatClampNeg = j := nI_clamp (by omega)
  rw [hc12] at w
  obtain ⟨V13, eV14⟩ : ∃ W9, W9 = hv_up V (mo + 1) (.inl (X.2.1 0, 6, .inl (upd ki j (((ki j) + 1) - ((ki j) + 1) / 4 * 4)))) := ⟨_, rfl⟩
  have w : hv_w X s V13 Hq lq := by rw [eV14]; exact w
  have hV15 : V13 mo = some (.inr (7, [.ref (mo + 1), .ref (mo + 2), .ref (mo + 3), .long ab, .long be, .ref (mo + 10), .int (nI tx), .int pl, .int cl, .ref (mo + 11), .ref (mo + 12), .ref (mo + 13), .int sg, .ref (mo + 14), .ref (mo + 15), .ref (mo + 16), .ref (mo + 17), .int (nI se), .ref (mo + 18), .ref (mo + 19), .int (nI ev), .ref (mo + 20), .ref (mo + 21), .ref (mo + 22), .int (nI bk), .int ik, .ref (mo + 23), .ref (mo + 24), .ref (mo + 25), .ref (mo + 26), .ref (mo + 33), .ref (mo + 41), .ref (mo + 42), .ref (mo + 43)])) := by rw [eV14, hv_un (by omega)]; exact hO
  have hV17 : V13 (mo + 2) = some (.inl (X.2.1 0, 6, .inl ma)) := by rw [eV14, hv_un (by omega)]; exact r2
  have hV18 : V13 (mo + 3) = some (.inl (X.2.1 6, 6, .inr (.inr (.inr (.inr rf))))) := by rw [eV14, hv_un (by omega)]; exact r3
  have hV19 : V13 (mo + 4 + j) = some (.inl (X.2.1 0, 16, .inl f)) := by rw [eV14, hv_un (by omega)]; exact hN
  have hV20 : V13 (mo + 1) = some (.inl (X.2.1 0, 6, .inl (upd ki j (((ki j) + 1) - ((ki j) + 1) / 4 * 4)))) := by rw [eV14]; exact hv_us
  exact hv_vret C0 w hr hlk (by rw [sp_und, if_neg c_1_0, if_neg c_1_1, eV14, ← hma, hs_uid, hv_id (a := mo + 2) (by rw [hv_un (by omega)]; exact r2), hv_id (a := mo + 4 + j) (by rw [hv_un (by omega)]; exact hN)]) dX7_happens_109

