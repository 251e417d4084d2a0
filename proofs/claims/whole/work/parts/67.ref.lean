theorem rd_ix0 (c : Nat) : 4 * nI c = nI (4 * c + 0) := by rw [show (4 : Int32) = nI 4 from rfl, nI_mul, Nat.add_zero]
set_option maxHeartbeats 4000000 in
set_option maxRecDepth 100000 in
theorem c_X7_done {l : Launch} {X : hv_X} {V : hv_V} {mo : Nat} {σ : hs_S} (hM : okM X V mo σ) (hB : hs_b σ) {T : rd_T} {i N : Nat} {wd td : Nat → Int32} (hw : V (mo + 11) = some (iE X 12 wd)) (hv : V (mo + 12) = some (iE X 48 td)) (hh : rd_h T N wd td) (hi : i < N) (hN : N ≤ 12) : hv_Mi l X 221 yX7_done cX7_done 4 .int V [.ref mo, .int (nI i)] (fun y V1 => y = (sp_do T i σ).1 ∧ okM X V1 mo (sp_do T i σ).2 ∧ hv_out V V1 mo (mo + 50) ∧ om_kp V V1 mo) := by
  refine hv_enter (by decide) (Nat.le_of_ble_eq_true rfl) ?_
  intro p e s m below meth c ls C0 hr hlk hnm w hl
  have hl : lv_has ls 4 [(0, .ref mo), (1, .int (nI i))] := hl
  obtain ⟨ab, be, pl, cl, sg, ik, hO, -⟩ := id hM
  obtain ⟨hw5, hwi, hvi⟩ := hh i hi
  have hd := rd_due4 (rd_w T (rd_P T i)).1
  refine lv_aload_n C0.1 C0.2.1 dX7_done_0 rfl (lv_at hl 0 rfl) ?_
  refine gf_X7_30 C0 w hO rfl dX7_done_1 ?_
  refine lv_iconst (v := 4) C0.1 C0.2.1 dX7_done_4 (by decide) ?_
  refine lv_iload_n C0.1 C0.2.1 dX7_done_5 rfl (lv_at hl 1 rfl) ?_
  refine lv_imul C0.1 C0.2.1 dX7_done_6 ?_
  rw [rd_ix0 i]
  refine hv_iald C0 w hv (hn_in (by omega) (by decide)) dX7_done_7 ?_
  have hc1 : (nI (4 * i + 0)).toNatClampNeg = (4 * i + 0) := nI_clamp (by omega)
  rw [hc1]
  rw [hvi 0 (by omega)]
  refine lv_istore_n (lv' := [(2, .int (rd_v T i 0)), (0, .ref mo), (1, .int (nI i))]) C0.1 C0.2.1 dX7_done_8 rfl hl (by decide) rfl (fun ls hl => ?_)
  refine lv_aload_n C0.1 C0.2.1 dX7_done_9 rfl (lv_at hl 1 rfl) ?_
  refine gf_X7_30 C0 w hO rfl dX7_done_10 ?_
  refine lv_iconst (v := 4) C0.1 C0.2.1 dX7_done_13 (by decide) ?_
  refine lv_iload_n C0.1 C0.2.1 dX7_done_14 rfl (lv_at hl 2 rfl) ?_
  refine lv_imul C0.1 C0.2.1 dX7_done_15 ?_
  refine lv_iconst (v := 1) C0.1 C0.2.1 dX7_done_16 (by decide) ?_
  refine lv_iadd C0.1 C0.2.1 dX7_done_17 ?_
  rw [show (4 : Int32) * nI i + 1 = nI (4 * i + 1) from rd_ix2 i 1]
  refine hv_iald C0 w hv (hn_in (by omega) (by decide)) dX7_done_18 ?_
  have hc2 : (nI (4 * i + 1)).toNatClampNeg = (4 * i + 1) := nI_clamp (by omega)
  rw [hc2]
  rw [hvi 1 (by omega)]
  refine lv_istore_n (lv' := [(3, .int (rd_v T i 1)), (2, .int (rd_v T i 0)), (0, .ref mo), (1, .int (nI i))]) C0.1 C0.2.1 dX7_done_19 rfl hl (by decide) rfl (fun ls hl => ?_)
  refine lv_aload_n C0.1 C0.2.1 dX7_done_20 rfl (lv_at hl 2 rfl) ?_
  refine gf_X7_27 C0 w hO rfl dX7_done_21 ?_
  refine lv_iload_n C0.1 C0.2.1 dX7_done_24 rfl (lv_at hl 3 rfl) ?_
  refine hv_iald C0 w hw (hn_in (by omega) (by decide)) dX7_done_25 ?_
  have hc3 : (nI i).toNatClampNeg = i := nI_clamp (by omega)
  rw [hc3]
  rw [hwi]
  by_cases c_26_0 : (nI (rd_w T (rd_P T i)).1) = 0
  · refine lv_tableIn (off := 30) (tgt := 56) C0.1 C0.2.1 dX7_done_26 (by rw [c_26_0]; decide) (by rw [c_26_0]; decide) (by rw [c_26_0]; rfl) (by decide) ?_
    have hW : (rd_w T (rd_P T i)).1 = 0 := (nI_eq (b := 0) (by omega) (by omega)).mp c_26_0
    refine lv_aload_n C0.1 C0.2.1 dX7_done_56 rfl (lv_at hl 2 rfl) ?_
    refine lv_iload_n C0.1 C0.2.1 dX7_done_57 rfl (lv_at hl 1 rfl) ?_
    refine lv_iload_n C0.1 C0.2.1 dX7_done_58 rfl (lv_at hl 0 rfl) ?_
    refine lv_aload_n C0.1 C0.2.1 dX7_done_59 rfl (lv_at hl 2 rfl) ?_
    refine gf_X7_30 C0 w hO rfl dX7_done_60 ?_
    refine lv_iconst (v := 4) C0.1 C0.2.1 dX7_done_63 (by decide) ?_
    refine lv_iload_n C0.1 C0.2.1 dX7_done_64 rfl (lv_at hl 3 rfl) ?_
    refine lv_imul C0.1 C0.2.1 dX7_done_65 ?_
    refine lv_iconst (v := 2) C0.1 C0.2.1 dX7_done_66 (by decide) ?_
    refine lv_iadd C0.1 C0.2.1 dX7_done_67 ?_
    rw [show (4 : Int32) * nI i + 2 = nI (4 * i + 2) from rd_ix2 i 2]
    refine hv_iald C0 w hv (hn_in (by omega) (by decide)) dX7_done_68 ?_
    have hc4 : (nI (4 * i + 2)).toNatClampNeg = (4 * i + 2) := nI_clamp (by omega)
    rw [hc4]
    rw [hvi 2 (by rw [hW]; decide)]
    refine lv_aload_n C0.1 C0.2.1 dX7_done_69 rfl (lv_at hl 2 rfl) ?_
    refine gf_X7_30 C0 w hO rfl dX7_done_70 ?_
    refine lv_iconst (v := 4) C0.1 C0.2.1 dX7_done_73 (by decide) ?_
    refine lv_iload_n C0.1 C0.2.1 dX7_done_74 rfl (lv_at hl 3 rfl) ?_
    refine lv_imul C0.1 C0.2.1 dX7_done_75 ?_
    refine lv_iconst (v := 3) C0.1 C0.2.1 dX7_done_76 (by decide) ?_
    refine lv_iadd C0.1 C0.2.1 dX7_done_77 ?_
    rw [show (4 : Int32) * nI i + 3 = nI (4 * i + 3) from rd_ix2 i 3]
    refine hv_iald C0 w hv (hn_in (by omega) (by decide)) dX7_done_78 ?_
    have hc5 : (nI (4 * i + 3)).toNatClampNeg = (4 * i + 3) := nI_clamp (by omega)
    rw [hc5]
    rw [hvi 3 (by rw [hW]; decide)]
    refine hv_cVi C0 w kl_X7_212 kv_X7_spread rfl hO (k_X7_spread hM hB) (by decide) (by decide) rfl hl.1 rfl (Nat.le_of_ble_eq_true rfl) dX7_done_79 ⟨Nat.le_refl _, Nat.le_refl _⟩ (fun x6 V7 Hq lq hp8 w => ?_)
    exact hv_iret C0 w hr hlk (by rw [sp_do, if_pos hW]; exact hp8) dX7_done_82
  by_cases c_26_1 : (nI (rd_w T (rd_P T i)).1) = 1
  · refine lv_tableIn (off := 57) (tgt := 83) C0.1 C0.2.1 dX7_done_26 (by rw [c_26_1]; decide) (by rw [c_26_1]; decide) (by rw [c_26_1]; rfl) (by decide) ?_
    have hW : (rd_w T (rd_P T i)).1 = 1 := (nI_eq (b := 1) (by omega) (by omega)).mp c_26_1
    have nW0 : ¬ (rd_w T (rd_P T i)).1 = 0 := fun h9 => c_26_0 (by rw [h9]; rfl)
    refine lv_aload_n C0.1 C0.2.1 dX7_done_83 rfl (lv_at hl 2 rfl) ?_
    refine lv_iload_n C0.1 C0.2.1 dX7_done_84 rfl (lv_at hl 1 rfl) ?_
    refine lv_iload_n C0.1 C0.2.1 dX7_done_85 rfl (lv_at hl 0 rfl) ?_
    refine hv_cVi C0 w kl_X7_215 kv_X7_begin rfl hO (k_X7_begin hM hB) (by decide) (by decide) rfl hl.1 rfl (Nat.le_of_ble_eq_true rfl) dX7_done_86 ⟨Nat.le_refl _, Nat.le_refl _⟩ (fun x9 V10 Hq lq hp11 w => ?_)
    exact hv_iret C0 w hr hlk (by rw [sp_do, if_neg nW0, if_pos hW]; exact hp11) dX7_done_89
  by_cases c_26_2 : (nI (rd_w T (rd_P T i)).1) = 2
  · refine lv_tableIn (off := 64) (tgt := 90) C0.1 C0.2.1 dX7_done_26 (by rw [c_26_2]; decide) (by rw [c_26_2]; decide) (by rw [c_26_2]; rfl) (by decide) ?_
    have hW : (rd_w T (rd_P T i)).1 = 2 := (nI_eq (b := 2) (by omega) (by omega)).mp c_26_2
    have nW0 : ¬ (rd_w T (rd_P T i)).1 = 0 := fun h9 => c_26_0 (by rw [h9]; rfl)
    have nW1 : ¬ (rd_w T (rd_P T i)).1 = 1 := fun h9 => c_26_1 (by rw [h9]; rfl)
    refine lv_aload_n C0.1 C0.2.1 dX7_done_90 rfl (lv_at hl 2 rfl) ?_
    refine lv_iload_n C0.1 C0.2.1 dX7_done_91 rfl (lv_at hl 1 rfl) ?_
    refine lv_iload_n C0.1 C0.2.1 dX7_done_92 rfl (lv_at hl 0 rfl) ?_
    refine hv_cVi C0 w kl_X7_218 kv_X7_add rfl hO (k_X7_add hM hB) (by decide) (by decide) rfl hl.1 rfl (Nat.le_of_ble_eq_true rfl) dX7_done_93 ⟨Nat.le_refl _, Nat.le_refl _⟩ (fun x12 V13 Hq lq hp14 w => ?_)
    exact hv_iret C0 w hr hlk (by rw [sp_do, if_neg nW0, if_neg nW1, if_pos hW]; exact hp14) dX7_done_96
  by_cases c_26_3 : (nI (rd_w T (rd_P T i)).1) = 3
  · refine lv_tableIn (off := 71) (tgt := 97) C0.1 C0.2.1 dX7_done_26 (by rw [c_26_3]; decide) (by rw [c_26_3]; decide) (by rw [c_26_3]; rfl) (by decide) ?_
    have hW : (rd_w T (rd_P T i)).1 = 3 := (nI_eq (b := 3) (by omega) (by omega)).mp c_26_3
    have nW0 : ¬ (rd_w T (rd_P T i)).1 = 0 := fun h9 => c_26_0 (by rw [h9]; rfl)
    have nW1 : ¬ (rd_w T (rd_P T i)).1 = 1 := fun h9 => c_26_1 (by rw [h9]; rfl)
    have nW2 : ¬ (rd_w T (rd_P T i)).1 = 2 := fun h9 => c_26_2 (by rw [h9]; rfl)
    refine lv_aload_n C0.1 C0.2.1 dX7_done_97 rfl (lv_at hl 2 rfl) ?_
    refine lv_iload_n C0.1 C0.2.1 dX7_done_98 rfl (lv_at hl 1 rfl) ?_
    refine lv_iload_n C0.1 C0.2.1 dX7_done_99 rfl (lv_at hl 0 rfl) ?_
    refine hv_cVi C0 w kl_X7_220 kv_X7_cut rfl hO (k_X7_cut hM hB) (by decide) (by decide) rfl hl.1 rfl (Nat.le_of_ble_eq_true rfl) dX7_done_100 ⟨Nat.le_refl _, Nat.le_refl _⟩ (fun x15 V16 Hq lq hp17 w => ?_)
    exact hv_iret C0 w hr hlk (by rw [sp_do, if_neg nW0, if_neg nW1, if_neg nW2, if_pos hW]; exact hp17) dX7_done_103
  have tc_26_0 : (nI (rd_w T (rd_P T i)).1).toInt ≠ 0 := fun h9 => c_26_0 (Int32.toInt_inj.mp (h9.trans (by decide)))
  have tc_26_1 : (nI (rd_w T (rd_P T i)).1).toInt ≠ 1 := fun h9 => c_26_1 (Int32.toInt_inj.mp (h9.trans (by decide)))
  have tc_26_2 : (nI (rd_w T (rd_P T i)).1).toInt ≠ 2 := fun h9 => c_26_2 (Int32.toInt_inj.mp (h9.trans (by decide)))
  have tc_26_3 : (nI (rd_w T (rd_P T i)).1).toInt ≠ 3 := fun h9 => c_26_3 (Int32.toInt_inj.mp (h9.trans (by decide)))
  refine lv_tableOut (tgt := 104) C0.1 C0.2.1 dX7_done_26 (by omega) (by decide) ?_
  have nW0 : ¬ (rd_w T (rd_P T i)).1 = 0 := fun h9 => c_26_0 (by rw [h9]; rfl)
  have nW1 : ¬ (rd_w T (rd_P T i)).1 = 1 := fun h9 => c_26_1 (by rw [h9]; rfl)
  have nW2 : ¬ (rd_w T (rd_P T i)).1 = 2 := fun h9 => c_26_2 (by rw [h9]; rfl)
  have nW3 : ¬ (rd_w T (rd_P T i)).1 = 3 := fun h9 => c_26_3 (by rw [h9]; rfl)
  refine lv_aload_n C0.1 C0.2.1 dX7_done_104 rfl (lv_at hl 2 rfl) ?_
  refine lv_iload_n C0.1 C0.2.1 dX7_done_105 rfl (lv_at hl 1 rfl) ?_
  refine lv_iload_n C0.1 C0.2.1 dX7_done_106 rfl (lv_at hl 0 rfl) ?_
  refine hv_cVi C0 w kl_X7_222 kv_X7_copies rfl hO (k_X7_copies hM hB) (by decide) (by decide) rfl hl.1 rfl (Nat.le_of_ble_eq_true rfl) dX7_done_107 ⟨Nat.le_refl _, Nat.le_refl _⟩ (fun x18 V19 Hq lq hp20 w => ?_)
  exact hv_iret C0 w hr hlk (by rw [sp_do, if_neg nW0, if_neg nW1, if_neg nW2, if_neg nW3]; exact hp20) dX7_done_110

set_option maxHeartbeats 4000000 in
set_option maxRecDepth 100000 in
theorem m_X7_read {l : Launch} {X : hv_X} {V : hv_V} {mo : Nat} {σ : hs_S} (hM : okM X V mo σ) (hB : hs_b σ) : hv_Mi l X 222 yX7_read cX7_read 4 .int V [.ref mo] (fun y V1 => y = (sp_read σ).1 ∧ okM X V1 mo (sp_read σ).2 ∧ hv_out V V1 mo (mo + 50)) := by
  refine hv_enter (by decide) (Nat.le_of_ble_eq_true rfl) ?_
  intro p e s m below meth c ls C0 hr hlk hnm w hl
  have hl : lv_has ls 4 [(0, .ref mo)] := hl
  obtain ⟨ab, be, pl, cl, sg, ik, hO, hRw, hTx, hSc, hSe, hEv, hBk, hIm, hTp⟩ := id hM
  obtain ⟨r1, r2, ⟨rf, r3, r4⟩, r5⟩ := id hRw
  obtain ⟨⟨wd, s1⟩, ⟨td, s2⟩, ⟨sn, s3⟩, ⟨ut, s4⟩, kn, s5⟩ := id hSc
  obtain ⟨sf, sg9, sh, e1, e2, e3, ea⟩ := id hSe
  obtain ⟨ef, eg, v1, v2, va⟩ := id hEv
  obtain ⟨bf, bg, b1, b2, ba⟩ := id hBk
  obtain ⟨t1, t2, ⟨tf, t3, t4⟩, t5⟩ := id hTp
  have hbR := hB.1.1
  have loop : ∀ (wd1 td1 : Nat → Int32) (hr1 : (rd_all σ.2.2.1 12 0).1 = true) (hN : (rd_all σ.2.2.1 12 0).2.2 ≤ 12) (hh1 : rd_h σ.2.2.1 (rd_all σ.2.2.1 12 0).2.2 wd1 td1) (m9 i9 d9 : Nat) (σ9 : hs_S) (V8 : hv_V) (Hq : Heap) (lq : List Loc) (ls : Array Slot), (i9 + m9 = (rd_all σ.2.2.1 12 0).2.2) → (okM X V8 mo σ9) → (hs_b σ9) → (hv_out V V8 mo (mo + 50)) → (om_cl V8 mo (nI (rd_all σ.2.2.1 12 0).2.2)) → (V8 (mo + 11) = some (iE X 12 wd1)) → (V8 (mo + 12) = some (iE X 48 td1)) → (sp_run σ.2.2.1 m9 i9 d9 σ9 = sp_run σ.2.2.1 (rd_all σ.2.2.1 12 0).2.2 0 0 (hs_gone σ)) → hv_w X s (V8) Hq lq → lv_has ls 4 [(0, .ref mo), (2, .int (nI d9)), (3, .int (nI i9))] → W p l e (hv_rm 222 0 0) s m ([.ref mo] : List Value).toArray below meth c Hq lq 0 0 (MQ below (hv_Qi X (fun y V1 => y = (sp_read σ).1 ∧ okM X V1 mo (sp_read σ).2 ∧ hv_out V V1 mo (mo + 50))) ([.ref mo] : List Value).toArray s 0 0 X.2.2.1) (F0 m 26 ls []) := by
    intro wd1 td1 hr1 hN hh1 m9
    induction m9 with
    | zero =>
      intro i9 d9 σ9 V8 Hq lq ls hi hO9 hB9 ho9 hcl9 q11 q12 he w hl
      have he : (d9, σ9) = sp_run σ.2.2.1 (rd_all σ.2.2.1 12 0).2.2 0 0 (hs_gone σ) := he
      obtain ⟨ab9, be9, tx9, pl9, sg9, se9, ev9, bk9, ik9, q0⟩ := id hcl9
      refine lv_iload_n C0.1 C0.2.1 dX7_read_26 rfl (lv_at hl 2 rfl) ?_
      refine lv_aload_n C0.1 C0.2.1 dX7_read_27 rfl (lv_at hl 0 rfl) ?_
      refine gf_X7_197 C0 w q0 rfl dX7_read_28 ?_
      refine lv_icmp_ge (tgt := 51) C0.1 C0.2.1 dX7_read_31 (by decide) (fun c_31 => ?_) (fun c_31 => absurd (nI_le (by omega) (by omega)) c_31)
      refine lv_iload_n C0.1 C0.2.1 dX7_read_51 rfl (lv_at hl 1 rfl) ?_
      exact hv_iret C0 w hr hlk (by rw [sp_read, if_pos hr1, ← he]; exact ⟨rfl, hO9, ho9⟩) dX7_read_52
    | succ m9 ih =>
      intro i9 d9 σ9 V8 Hq lq ls hi hO9 hB9 ho9 hcl9 q11 q12 he w hl
      obtain ⟨ab9, be9, tx9, pl9, sg9, se9, ev9, bk9, ik9, q0⟩ := id hcl9
      refine lv_iload_n C0.1 C0.2.1 dX7_read_26 rfl (lv_at hl 2 rfl) ?_
      refine lv_aload_n C0.1 C0.2.1 dX7_read_27 rfl (lv_at hl 0 rfl) ?_
      refine gf_X7_197 C0 w q0 rfl dX7_read_28 ?_
      refine lv_icmp_ge (tgt := 51) C0.1 C0.2.1 dX7_read_31 (by decide) (fun c_31 => absurd c_31 (nI_ge (by omega) (by omega))) (fun c_31 => ?_)
      refine lv_aload_n C0.1 C0.2.1 dX7_read_34 rfl (lv_at hl 0 rfl) ?_
      refine lv_iload_n C0.1 C0.2.1 dX7_read_35 rfl (lv_at hl 2 rfl) ?_
      refine hv_cVi C0 w kl_X7_228 kv_X7_done rfl q0 (c_X7_done hO9 hB9 q11 q12 hh1 (i := i9) (by omega) hN) (by decide) (by decide) rfl hl.1 rfl (Nat.le_of_ble_eq_true rfl) dX7_read_36 ⟨Nat.le_refl _, Nat.le_refl _⟩ (fun x1 V2 Hq lq hp3 w => ?_)
      obtain ⟨ey9, hO8, ho8, hk8⟩ := hp3
      refine lv_if_lt (tgt := 45) C0.1 C0.2.1 dX7_read_39 (by decide) (fun c_39 => ?_) (fun c_39 => ?_)
      · skip
        refine lv_iinc (v := (nI i9) + 1) (lv' := [(3, .int ((nI i9) + 1)), (0, .ref mo), (2, .int (nI d9))]) C0.1 C0.2.1 dX7_read_45 hl (k := 2) rfl rfl (by decide) rfl (fun ls hl => ?_)
        refine lv_goto (tgt := 26) C0.1 C0.2.1 dX7_read_48 (by decide) ?_
        exact ih (i9 + 1) (d9) (sp_do σ.2.2.1 i9 σ9).2 V2 _ _ ls (by omega) hO8 (hb_do hB9 _ i9) (fun q9 h9 => (ho8 q9 h9).trans (ho9 q9 h9)) (hk8.1 _ hcl9) (hk8.2.1.trans q11) (hk8.2.2.trans q12) (by rw [← he, sp_run, if_neg (fun h9 => by rw [ey9] at c_39; exact absurd c_39 (Int32.not_lt.mpr h9))]) w (by have h9 := (lv_sub (l' := [(0, .ref mo), (2, .int (nI d9)), (3, .int (nI i9 + 1))]) hl [1, 2, 0] rfl); rw [nI_1] at h9; exact h9)
      · skip
        refine lv_iinc (v := (nI d9) + 1) (lv' := [(2, .int ((nI d9) + 1)), (0, .ref mo), (3, .int (nI i9))]) C0.1 C0.2.1 dX7_read_42 hl (k := 1) rfl rfl (by decide) rfl (fun ls hl => ?_)
        refine lv_iinc (v := (nI i9) + 1) (lv' := [(3, .int ((nI i9) + 1)), (2, .int ((nI d9) + 1)), (0, .ref mo)]) C0.1 C0.2.1 dX7_read_45 hl (k := 2) rfl rfl (by decide) rfl (fun ls hl => ?_)
        refine lv_goto (tgt := 26) C0.1 C0.2.1 dX7_read_48 (by decide) ?_
        exact ih (i9 + 1) (d9 + 1) (sp_do σ.2.2.1 i9 σ9).2 V2 _ _ ls (by omega) hO8 (hb_do hB9 _ i9) (fun q9 h9 => (ho8 q9 h9).trans (ho9 q9 h9)) (hk8.1 _ hcl9) (hk8.2.1.trans q11) (hk8.2.2.trans q12) (by rw [← he, sp_run, if_pos (by rw [ey9] at c_39; exact Int32.not_lt.mp c_39)]) w (by have h9 := (lv_sub (l' := [(0, .ref mo), (2, .int (nI d9 + 1)), (3, .int (nI i9 + 1))]) hl [2, 1, 0] rfl); rw [nI_1, nI_1] at h9; exact h9)
  refine lv_aload_n C0.1 C0.2.1 dX7_read_0 rfl (lv_at hl 0 rfl) ?_
  refine hv_cVi C0 w kl_X7_225 kv_X7_takesAll rfl hO (c_X7_takesAll (n := σ.2.2.1.1) (f := σ.2.2.1.2) hO hTx hB.2.2.1 s1 s2) (by decide) (by decide) rfl hl.1 rfl (Nat.le_of_ble_eq_true rfl) dX7_read_1 ⟨Nat.le_refl _, Nat.le_refl _⟩ (fun x1 V2 Hq lq hp3 w => ?_)
  obtain ⟨wd1, td1, e1, hz1⟩ := hp3
  have e1 : V2 = hv_up (hv_up (hv_up V mo (mE mo ab be σ.2.2.1.1 (nI (rd_all σ.2.2.1 12 0).2.1) (nI (rd_all σ.2.2.1 12 0).2.2) sg σ.1.2.1.1 σ.1.2.2.1.1 σ.1.2.2.2.1 ik)) (mo + 11) (iE X 12 wd1)) (mo + 12) (iE X 48 td1) := e1
  have hz1 : (x1 = 1 ∧ (rd_all σ.2.2.1 12 0).1 = true ∧ rd_h σ.2.2.1 (rd_all σ.2.2.1 12 0).2.2 wd1 td1) ∨ (x1 = 0 ∧ ¬ (rd_all σ.2.2.1 12 0).1 = true) := hz1
  have hV4 : V2 mo = some (.inr (7, [.ref (mo + 1), .ref (mo + 2), .ref (mo + 3), .long ab, .long be, .ref (mo + 10), .int (nI σ.2.2.1.1), .int (nI (rd_all σ.2.2.1 12 0).2.1), .int (nI (rd_all σ.2.2.1 12 0).2.2), .ref (mo + 11), .ref (mo + 12), .ref (mo + 13), .int sg, .ref (mo + 14), .ref (mo + 15), .ref (mo + 16), .ref (mo + 17), .int (nI σ.1.2.1.1), .ref (mo + 18), .ref (mo + 19), .int (nI σ.1.2.2.1.1), .ref (mo + 20), .ref (mo + 21), .ref (mo + 22), .int (nI σ.1.2.2.2.1), .int ik, .ref (mo + 23), .ref (mo + 24), .ref (mo + 25), .ref (mo + 26), .ref (mo + 33), .ref (mo + 41), .ref (mo + 42), .ref (mo + 43)])) := by rw [e1, hv_un (by omega), hv_un (by omega)]; exact hv_us
  have hV5 : V2 (mo + 11) = some (.inl (X.2.1 0, 12, .inl wd1)) := by rw [e1, hv_un (by omega)]; exact hv_us
  have hV6 : V2 (mo + 12) = some (.inl (X.2.1 0, 48, .inl td1)) := by rw [e1]; exact hv_us
  rcases hz1 with ⟨rfl, hr1, hh1⟩ | ⟨rfl, hr1⟩
  · skip
    refine lv_istore_n (lv' := [(1, .int 1), (0, .ref mo)]) C0.1 C0.2.1 dX7_read_4 rfl hl (by decide) rfl (fun ls hl => ?_)
    refine lv_aload_n C0.1 C0.2.1 dX7_read_5 rfl (lv_at hl 1 rfl) ?_
    refine lv_iconst (v := 0) C0.1 C0.2.1 dX7_read_6 (by decide) ?_
    refine pf_X7_162 C0 w hV4 (by simp) dX7_read_7 (fun Hq lq w => ?_)
    obtain ⟨V7, eV8⟩ : ∃ W9, W9 = hv_up V2 mo (.inr (7, [.ref (mo + 1), .ref (mo + 2), .ref (mo + 3), .long ab, .long be, .ref (mo + 10), .int 0, .int (nI (rd_all σ.2.2.1 12 0).2.1), .int (nI (rd_all σ.2.2.1 12 0).2.2), .ref (mo + 11), .ref (mo + 12), .ref (mo + 13), .int sg, .ref (mo + 14), .ref (mo + 15), .ref (mo + 16), .ref (mo + 17), .int (nI σ.1.2.1.1), .ref (mo + 18), .ref (mo + 19), .int (nI σ.1.2.2.1.1), .ref (mo + 20), .ref (mo + 21), .ref (mo + 22), .int (nI σ.1.2.2.2.1), .int ik, .ref (mo + 23), .ref (mo + 24), .ref (mo + 25), .ref (mo + 26), .ref (mo + 33), .ref (mo + 41), .ref (mo + 42), .ref (mo + 43)])) := ⟨_, rfl⟩
    have w : hv_w X s V7 Hq lq := by rw [eV8]; exact w
    have hV10 : V7 (mo + 11) = some (.inl (X.2.1 0, 12, .inl wd1)) := by rw [eV8, hv_un (by omega)]; exact hV5
    have hV11 : V7 (mo + 12) = some (.inl (X.2.1 0, 48, .inl td1)) := by rw [eV8, hv_un (by omega)]; exact hV6
    have hV12 : V7 mo = some (.inr (7, [.ref (mo + 1), .ref (mo + 2), .ref (mo + 3), .long ab, .long be, .ref (mo + 10), .int 0, .int (nI (rd_all σ.2.2.1 12 0).2.1), .int (nI (rd_all σ.2.2.1 12 0).2.2), .ref (mo + 11), .ref (mo + 12), .ref (mo + 13), .int sg, .ref (mo + 14), .ref (mo + 15), .ref (mo + 16), .ref (mo + 17), .int (nI σ.1.2.1.1), .ref (mo + 18), .ref (mo + 19), .int (nI σ.1.2.2.1.1), .ref (mo + 20), .ref (mo + 21), .ref (mo + 22), .int (nI σ.1.2.2.2.1), .int ik, .ref (mo + 23), .ref (mo + 24), .ref (mo + 25), .ref (mo + 26), .ref (mo + 33), .ref (mo + 41), .ref (mo + 42), .ref (mo + 43)])) := by rw [eV8]; exact hv_us
    refine lv_iload_n C0.1 C0.2.1 dX7_read_10 rfl (lv_at hl 0 rfl) ?_
    refine lv_if_ne (tgt := 22) C0.1 C0.2.1 dX7_read_11 (by decide) (fun _ => ?_) (fun h9 => absurd h9 (by decide))
    refine lv_iconst (v := 0) C0.1 C0.2.1 dX7_read_22 (by decide) ?_
    refine lv_istore_n (lv' := [(2, .int 0), (1, .int 1), (0, .ref mo)]) C0.1 C0.2.1 dX7_read_23 rfl hl (by decide) rfl (fun ls hl => ?_)
    refine lv_iconst (v := 0) C0.1 C0.2.1 dX7_read_24 (by decide) ?_
    refine lv_istore_n (lv' := [(3, .int 0), (2, .int 0), (1, .int 1), (0, .ref mo)]) C0.1 C0.2.1 dX7_read_25 rfl hl (by decide) rfl (fun ls hl => ?_)
    have hl : lv_has ls 4 [(3, .int 0), (2, .int (nI 0)), (1, .int 1), (0, .ref mo)] := by rw [show ((nI 0)) = (0) from rfl]; exact hl
    have hl : lv_has ls 4 [(3, .int (nI 0)), (2, .int (nI 0)), (1, .int 1), (0, .ref mo)] := by rw [show ((nI 0)) = (0) from rfl]; exact hl
    have hg9 : okM X V7 mo (hs_gone σ) := ⟨ab, be, (nI (rd_all σ.2.2.1 12 0).2.1), (nI (rd_all σ.2.2.1 12 0).2.2), sg, ik, (by rw [eV8]; exact hv_us), hRw.fr (fun q h7 h8 => by rw [eV8, hv_un (by omega), e1, hv_un (by omega), hv_un (by omega), hv_un (by omega)]), (by rw [eV8, hv_un (by omega), e1, hv_un (by omega), hv_un (by omega), hv_un (by omega)] : _ = V (mo + 10)).trans hTx, ⟨⟨wd1, by rw [eV8, hv_un (by omega), e1, hv_un (by omega)]; exact hv_us⟩, ⟨td1, by rw [eV8, hv_un (by omega), e1]; exact hv_us⟩, ⟨sn, (by rw [eV8, hv_un (by omega), e1, hv_un (by omega), hv_un (by omega), hv_un (by omega)] : _ = V (mo + 13)).trans s3⟩, ⟨ut, (by rw [eV8, hv_un (by omega), e1, hv_un (by omega), hv_un (by omega), hv_un (by omega)] : _ = V (mo + 14)).trans s4⟩, kn, (by rw [eV8, hv_un (by omega), e1, hv_un (by omega), hv_un (by omega), hv_un (by omega)] : _ = V (mo + 20)).trans s5⟩, hSe.fr (fun q h7 h8 => by rw [eV8, hv_un (by omega), e1, hv_un (by omega), hv_un (by omega), hv_un (by omega)]), hEv.fr (by rw [eV8, hv_un (by omega), e1, hv_un (by omega), hv_un (by omega), hv_un (by omega)]) (by rw [eV8, hv_un (by omega), e1, hv_un (by omega), hv_un (by omega), hv_un (by omega)]), hBk.fr (by rw [eV8, hv_un (by omega), e1, hv_un (by omega), hv_un (by omega), hv_un (by omega)]) (by rw [eV8, hv_un (by omega), e1, hv_un (by omega), hv_un (by omega), hv_un (by omega)]), hIm.fr (fun q h7 h8 => by rw [eV8, hv_un (by omega), e1, hv_un (by omega), hv_un (by omega), hv_un (by omega)]), hTp.fr (fun q h7 h8 => by rw [eV8, hv_un (by omega), e1, hv_un (by omega), hv_un (by omega), hv_un (by omega)])⟩
    exact loop wd1 td1 hr1 (by have := (rd_allb (T := σ.2.2.1) 12 0 (Nat.zero_le _)).2; omega) hh1 (rd_all σ.2.2.1 12 0).2.2 0 0 (hs_gone σ) V7 _ _ ls (by omega) hg9 (hb_gone hB) (fun q h7 => by rw [eV8, hv_un (by omega), e1, hv_un (by omega), hv_un (by omega), hv_un (by omega)]) ⟨ab, be, 0, _, _, _, _, _, _, hV12⟩ hV10 hV11 rfl w (lv_sub hl [3, 1, 0] rfl)
  · skip
    refine lv_istore_n (lv' := [(1, .int 0), (0, .ref mo)]) C0.1 C0.2.1 dX7_read_4 rfl hl (by decide) rfl (fun ls hl => ?_)
    refine lv_aload_n C0.1 C0.2.1 dX7_read_5 rfl (lv_at hl 1 rfl) ?_
    refine lv_iconst (v := 0) C0.1 C0.2.1 dX7_read_6 (by decide) ?_
    refine pf_X7_162 C0 w hV4 (by simp) dX7_read_7 (fun Hq lq w => ?_)
    obtain ⟨V13, eV14⟩ : ∃ W9, W9 = hv_up V2 mo (.inr (7, [.ref (mo + 1), .ref (mo + 2), .ref (mo + 3), .long ab, .long be, .ref (mo + 10), .int 0, .int (nI (rd_all σ.2.2.1 12 0).2.1), .int (nI (rd_all σ.2.2.1 12 0).2.2), .ref (mo + 11), .ref (mo + 12), .ref (mo + 13), .int sg, .ref (mo + 14), .ref (mo + 15), .ref (mo + 16), .ref (mo + 17), .int (nI σ.1.2.1.1), .ref (mo + 18), .ref (mo + 19), .int (nI σ.1.2.2.1.1), .ref (mo + 20), .ref (mo + 21), .ref (mo + 22), .int (nI σ.1.2.2.2.1), .int ik, .ref (mo + 23), .ref (mo + 24), .ref (mo + 25), .ref (mo + 26), .ref (mo + 33), .ref (mo + 41), .ref (mo + 42), .ref (mo + 43)])) := ⟨_, rfl⟩
    have w : hv_w X s V13 Hq lq := by rw [eV14]; exact w
    have hV16 : V13 (mo + 11) = some (.inl (X.2.1 0, 12, .inl wd1)) := by rw [eV14, hv_un (by omega)]; exact hV5
    have hV17 : V13 (mo + 12) = some (.inl (X.2.1 0, 48, .inl td1)) := by rw [eV14, hv_un (by omega)]; exact hV6
    have hV18 : V13 mo = some (.inr (7, [.ref (mo + 1), .ref (mo + 2), .ref (mo + 3), .long ab, .long be, .ref (mo + 10), .int 0, .int (nI (rd_all σ.2.2.1 12 0).2.1), .int (nI (rd_all σ.2.2.1 12 0).2.2), .ref (mo + 11), .ref (mo + 12), .ref (mo + 13), .int sg, .ref (mo + 14), .ref (mo + 15), .ref (mo + 16), .ref (mo + 17), .int (nI σ.1.2.1.1), .ref (mo + 18), .ref (mo + 19), .int (nI σ.1.2.2.1.1), .ref (mo + 20), .ref (mo + 21), .ref (mo + 22), .int (nI σ.1.2.2.2.1), .int ik, .ref (mo + 23), .ref (mo + 24), .ref (mo + 25), .ref (mo + 26), .ref (mo + 33), .ref (mo + 41), .ref (mo + 42), .ref (mo + 43)])) := by rw [eV14]; exact hv_us
    refine lv_iload_n C0.1 C0.2.1 dX7_read_10 rfl (lv_at hl 0 rfl) ?_
    refine lv_if_ne (tgt := 22) C0.1 C0.2.1 dX7_read_11 (by decide) (fun h9 => absurd h9 (by decide)) (fun _ => ?_)
    refine lv_bipush (v := -10) C0.1 C0.2.1 dX7_read_14 (by decide) ?_
    refine lv_aload_n C0.1 C0.2.1 dX7_read_16 rfl (lv_at hl 1 rfl) ?_
    refine gf_X7_176 C0 w hV18 rfl dX7_read_17 ?_
    refine lv_isub C0.1 C0.2.1 dX7_read_20 ?_
    exact hv_iret C0 w hr hlk (by rw [sp_read, if_neg hr1]; exact ⟨rfl, ⟨ab, be, (nI (rd_all σ.2.2.1 12 0).2.1), (nI (rd_all σ.2.2.1 12 0).2.2), sg, ik, (by rw [eV14]; exact hv_us), hRw.fr (fun q h7 h8 => by rw [eV14, hv_un (by omega), e1, hv_un (by omega), hv_un (by omega), hv_un (by omega)]), (by rw [eV14, hv_un (by omega), e1, hv_un (by omega), hv_un (by omega), hv_un (by omega)] : _ = V (mo + 10)).trans hTx, ⟨⟨wd1, by rw [eV14, hv_un (by omega), e1, hv_un (by omega)]; exact hv_us⟩, ⟨td1, by rw [eV14, hv_un (by omega), e1]; exact hv_us⟩, ⟨sn, (by rw [eV14, hv_un (by omega), e1, hv_un (by omega), hv_un (by omega), hv_un (by omega)] : _ = V (mo + 13)).trans s3⟩, ⟨ut, (by rw [eV14, hv_un (by omega), e1, hv_un (by omega), hv_un (by omega), hv_un (by omega)] : _ = V (mo + 14)).trans s4⟩, kn, (by rw [eV14, hv_un (by omega), e1, hv_un (by omega), hv_un (by omega), hv_un (by omega)] : _ = V (mo + 20)).trans s5⟩, hSe.fr (fun q h7 h8 => by rw [eV14, hv_un (by omega), e1, hv_un (by omega), hv_un (by omega), hv_un (by omega)]), hEv.fr (by rw [eV14, hv_un (by omega), e1, hv_un (by omega), hv_un (by omega), hv_un (by omega)]) (by rw [eV14, hv_un (by omega), e1, hv_un (by omega), hv_un (by omega), hv_un (by omega)]), hBk.fr (by rw [eV14, hv_un (by omega), e1, hv_un (by omega), hv_un (by omega), hv_un (by omega)]) (by rw [eV14, hv_un (by omega), e1, hv_un (by omega), hv_un (by omega), hv_un (by omega)]), hIm.fr (fun q h7 h8 => by rw [eV14, hv_un (by omega), e1, hv_un (by omega), hv_un (by omega), hv_un (by omega)]), hTp.fr (fun q h7 h8 => by rw [eV14, hv_un (by omega), e1, hv_un (by omega), hv_un (by omega), hv_un (by omega)])⟩, (fun q h7 => by rw [eV14, hv_un (by omega), e1, hv_un (by omega), hv_un (by omega), hv_un (by omega)])⟩) dX7_read_21

