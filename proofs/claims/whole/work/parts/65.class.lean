set_option maxHeartbeats 4000000 in
set_option maxRecDepth 100000 in
theorem c_X6_follow {l : Launch} {X : hv_X} {V : hv_V} {x : Nat} {σ : hs_S} (hX : okX X V x σ) (hB : hs_b σ) {T : rd_T} {i N tl : Nat} {pl : Int32} {wd vl : Nat → Int32} (hq : V (x + 53) = some (sE (x + 53) tl pl (nI N))) (hw : V (x + 53 + 2) = some (iE X 12 wd)) (hv : V (x + 53 + 3) = some (iE X 48 vl)) (hh : rd_h T N wd vl) (hi : i < N) (hN : N ≤ 12) : hv_Mi l X 7 yX6_follow cX6_follow 4 .int V [.ref x, .int (nI i)] (fun y V1 => y = (sp_do T i σ).1 ∧ okX X V1 x (sp_do T i σ).2 ∧ hv_out V V1 x (x + 92) ∧ hv_but V V1 (x + 53) (x + 57)) := by
  refine hv_enter (by decide) (Nat.le_of_ble_eq_true rfl) ?_
  intro p e s m below meth c ls C0 hr hlk hnm w hl
  have hl : lv_has ls 4 [(0, .ref x), (1, .int (nI i))] := hl
  obtain ⟨kk0, hX0, -⟩ := id hX
  obtain ⟨hw5, hwi, hvi⟩ := hh i hi
  have hd := rd_due4 (rd_w T (rd_P T i)).1
  refine lv_aload_n C0.1 C0.2.1 dX6_follow_0 rfl (lv_at hl 0 rfl) ?_
  refine gf_X6_24 C0 w hX0 rfl dX6_follow_1 ?_
  refine lv_iload_n C0.1 C0.2.1 dX6_follow_4 rfl (lv_at hl 1 rfl) ?_
  refine lv_iconst (v := 0) C0.1 C0.2.1 dX6_follow_5 (by decide) ?_
  refine hv_cVi C0 w kl_X6_269 kv_X4_valueOf rfl hq (c_X4_valueOf (k := 0) hq hw hv hi hN (by decide)) (by decide) (by decide) rfl hl.1 rfl (Nat.le_of_ble_eq_true rfl) dX6_follow_6 ⟨Nat.le_refl _, Nat.le_refl _⟩ (fun x1 V2 Hq lq hp3 w => ?_)
  obtain ⟨e9, e8⟩ := hp3
  rw [e9] at w; rw [e8, hvi 0 (by omega)]; clear e9 e8
  refine lv_istore_n (lv' := [(2, .int (rd_v T i 0)), (0, .ref x), (1, .int (nI i))]) C0.1 C0.2.1 dX6_follow_9 rfl hl (by decide) rfl (fun ls hl => ?_)
  refine lv_aload_n C0.1 C0.2.1 dX6_follow_10 rfl (lv_at hl 1 rfl) ?_
  refine gf_X6_24 C0 w hX0 rfl dX6_follow_11 ?_
  refine lv_iload_n C0.1 C0.2.1 dX6_follow_14 rfl (lv_at hl 2 rfl) ?_
  refine lv_iconst (v := 1) C0.1 C0.2.1 dX6_follow_15 (by decide) ?_
  refine hv_cVi C0 w kl_X6_269 kv_X4_valueOf rfl hq (c_X4_valueOf (k := 1) hq hw hv hi hN (by decide)) (by decide) (by decide) rfl hl.1 rfl (Nat.le_of_ble_eq_true rfl) dX6_follow_16 ⟨Nat.le_refl _, Nat.le_refl _⟩ (fun x4 V5 Hq lq hp6 w => ?_)
  obtain ⟨e9, e8⟩ := hp6
  rw [e9] at w; rw [e8, hvi 1 (by omega)]; clear e9 e8
  refine lv_istore_n (lv' := [(3, .int (rd_v T i 1)), (2, .int (rd_v T i 0)), (0, .ref x), (1, .int (nI i))]) C0.1 C0.2.1 dX6_follow_19 rfl hl (by decide) rfl (fun ls hl => ?_)
  refine lv_aload_n C0.1 C0.2.1 dX6_follow_20 rfl (lv_at hl 2 rfl) ?_
  refine gf_X6_24 C0 w hX0 rfl dX6_follow_21 ?_
  refine lv_iload_n C0.1 C0.2.1 dX6_follow_24 rfl (lv_at hl 3 rfl) ?_
  refine hv_cVi C0 w kl_X6_273 kv_X4_wordOf rfl hq (c_X4_wordOf hq hw hv hi hN) (by decide) (by decide) rfl hl.1 rfl (Nat.le_of_ble_eq_true rfl) dX6_follow_25 ⟨Nat.le_refl _, Nat.le_refl _⟩ (fun x7 V8 Hq lq hp9 w => ?_)
  obtain ⟨e9, e8⟩ := hp9
  rw [e9] at w; rw [e8, hwi]; clear e9 e8
  by_cases c_28_0 : (nI (rd_w T (rd_P T i)).1) = 0
  · refine lv_tableIn (off := 32) (tgt := 60) C0.1 C0.2.1 dX6_follow_28 (by rw [c_28_0]; decide) (by rw [c_28_0]; decide) (by rw [c_28_0]; rfl) (by decide) ?_
    have hW : (rd_w T (rd_P T i)).1 = 0 := (nI_eq (b := 0) (by omega) (by omega)).mp c_28_0
    refine lv_aload_n C0.1 C0.2.1 dX6_follow_60 rfl (lv_at hl 2 rfl) ?_
    refine lv_iload_n C0.1 C0.2.1 dX6_follow_61 rfl (lv_at hl 1 rfl) ?_
    refine lv_iload_n C0.1 C0.2.1 dX6_follow_62 rfl (lv_at hl 0 rfl) ?_
    refine lv_aload_n C0.1 C0.2.1 dX6_follow_63 rfl (lv_at hl 2 rfl) ?_
    refine gf_X6_24 C0 w hX0 rfl dX6_follow_64 ?_
    refine lv_iload_n C0.1 C0.2.1 dX6_follow_67 rfl (lv_at hl 3 rfl) ?_
    refine lv_iconst (v := 2) C0.1 C0.2.1 dX6_follow_68 (by decide) ?_
    refine hv_cVi C0 w kl_X6_269 kv_X4_valueOf rfl hq (c_X4_valueOf (k := 2) hq hw hv hi hN (by decide)) (by decide) (by decide) rfl hl.1 rfl (Nat.le_of_ble_eq_true rfl) dX6_follow_69 ⟨Nat.le_refl _, Nat.le_refl _⟩ (fun x10 V11 Hq lq hp12 w => ?_)
    obtain ⟨e9, e8⟩ := hp12
    rw [e9] at w; rw [e8, hvi 2 (by rw [hW]; decide)]; clear e9 e8
    refine lv_aload_n C0.1 C0.2.1 dX6_follow_72 rfl (lv_at hl 2 rfl) ?_
    refine gf_X6_24 C0 w hX0 rfl dX6_follow_73 ?_
    refine lv_iload_n C0.1 C0.2.1 dX6_follow_76 rfl (lv_at hl 3 rfl) ?_
    refine lv_iconst (v := 3) C0.1 C0.2.1 dX6_follow_77 (by decide) ?_
    refine hv_cVi C0 w kl_X6_269 kv_X4_valueOf rfl hq (c_X4_valueOf (k := 3) hq hw hv hi hN (by decide)) (by decide) (by decide) rfl hl.1 rfl (Nat.le_of_ble_eq_true rfl) dX6_follow_78 ⟨Nat.le_refl _, Nat.le_refl _⟩ (fun x13 V14 Hq lq hp15 w => ?_)
    obtain ⟨e9, e8⟩ := hp15
    rw [e9] at w; rw [e8, hvi 3 (by rw [hW]; decide)]; clear e9 e8
    refine hv_cVi C0 w kl_X6_276 kv_X6_spread rfl hX0 (k_X6_spread hX hB) (by decide) (by decide) rfl hl.1 rfl (Nat.le_of_ble_eq_true rfl) dX6_follow_81 ⟨Nat.le_refl _, Nat.le_refl _⟩ (fun x16 V17 Hq lq hp18 w => ?_)
    exact hv_iret C0 w hr hlk (by rw [sp_do, if_pos hW]; exact hp18) dX6_follow_84
  by_cases c_28_1 : (nI (rd_w T (rd_P T i)).1) = 1
  · refine lv_tableIn (off := 57) (tgt := 85) C0.1 C0.2.1 dX6_follow_28 (by rw [c_28_1]; decide) (by rw [c_28_1]; decide) (by rw [c_28_1]; rfl) (by decide) ?_
    have hW : (rd_w T (rd_P T i)).1 = 1 := (nI_eq (b := 1) (by omega) (by omega)).mp c_28_1
    have nW0 : ¬ (rd_w T (rd_P T i)).1 = 0 := fun h9 => c_28_0 (by rw [h9]; rfl)
    refine lv_aload_n C0.1 C0.2.1 dX6_follow_85 rfl (lv_at hl 2 rfl) ?_
    refine lv_iload_n C0.1 C0.2.1 dX6_follow_86 rfl (lv_at hl 1 rfl) ?_
    refine lv_iload_n C0.1 C0.2.1 dX6_follow_87 rfl (lv_at hl 0 rfl) ?_
    refine hv_cVi C0 w kl_X6_280 kv_X6_begin rfl hX0 (k_X6_begin hX hB) (by decide) (by decide) rfl hl.1 rfl (Nat.le_of_ble_eq_true rfl) dX6_follow_88 ⟨Nat.le_refl _, Nat.le_refl _⟩ (fun x19 V20 Hq lq hp21 w => ?_)
    exact hv_iret C0 w hr hlk (by rw [sp_do, if_neg nW0, if_pos hW]; exact hp21) dX6_follow_91
  by_cases c_28_2 : (nI (rd_w T (rd_P T i)).1) = 2
  · refine lv_tableIn (off := 64) (tgt := 92) C0.1 C0.2.1 dX6_follow_28 (by rw [c_28_2]; decide) (by rw [c_28_2]; decide) (by rw [c_28_2]; rfl) (by decide) ?_
    have hW : (rd_w T (rd_P T i)).1 = 2 := (nI_eq (b := 2) (by omega) (by omega)).mp c_28_2
    have nW0 : ¬ (rd_w T (rd_P T i)).1 = 0 := fun h9 => c_28_0 (by rw [h9]; rfl)
    have nW1 : ¬ (rd_w T (rd_P T i)).1 = 1 := fun h9 => c_28_1 (by rw [h9]; rfl)
    refine lv_aload_n C0.1 C0.2.1 dX6_follow_92 rfl (lv_at hl 2 rfl) ?_
    refine lv_iload_n C0.1 C0.2.1 dX6_follow_93 rfl (lv_at hl 1 rfl) ?_
    refine lv_iload_n C0.1 C0.2.1 dX6_follow_94 rfl (lv_at hl 0 rfl) ?_
    refine hv_cVi C0 w kl_X6_283 kv_X6_add rfl hX0 (k_X6_add hX hB) (by decide) (by decide) rfl hl.1 rfl (Nat.le_of_ble_eq_true rfl) dX6_follow_95 ⟨Nat.le_refl _, Nat.le_refl _⟩ (fun x22 V23 Hq lq hp24 w => ?_)
    exact hv_iret C0 w hr hlk (by rw [sp_do, if_neg nW0, if_neg nW1, if_pos hW]; exact hp24) dX6_follow_98
  by_cases c_28_3 : (nI (rd_w T (rd_P T i)).1) = 3
  · refine lv_tableIn (off := 71) (tgt := 99) C0.1 C0.2.1 dX6_follow_28 (by rw [c_28_3]; decide) (by rw [c_28_3]; decide) (by rw [c_28_3]; rfl) (by decide) ?_
    have hW : (rd_w T (rd_P T i)).1 = 3 := (nI_eq (b := 3) (by omega) (by omega)).mp c_28_3
    have nW0 : ¬ (rd_w T (rd_P T i)).1 = 0 := fun h9 => c_28_0 (by rw [h9]; rfl)
    have nW1 : ¬ (rd_w T (rd_P T i)).1 = 1 := fun h9 => c_28_1 (by rw [h9]; rfl)
    have nW2 : ¬ (rd_w T (rd_P T i)).1 = 2 := fun h9 => c_28_2 (by rw [h9]; rfl)
    refine lv_aload_n C0.1 C0.2.1 dX6_follow_99 rfl (lv_at hl 2 rfl) ?_
    refine lv_iload_n C0.1 C0.2.1 dX6_follow_100 rfl (lv_at hl 1 rfl) ?_
    refine lv_iload_n C0.1 C0.2.1 dX6_follow_101 rfl (lv_at hl 0 rfl) ?_
    refine hv_cVi C0 w kl_X6_286 kv_X6_cut rfl hX0 (k_X6_cut hX hB) (by decide) (by decide) rfl hl.1 rfl (Nat.le_of_ble_eq_true rfl) dX6_follow_102 ⟨Nat.le_refl _, Nat.le_refl _⟩ (fun x25 V26 Hq lq hp27 w => ?_)
    exact hv_iret C0 w hr hlk (by rw [sp_do, if_neg nW0, if_neg nW1, if_neg nW2, if_pos hW]; exact hp27) dX6_follow_105
  have tc_28_0 : (nI (rd_w T (rd_P T i)).1).toInt ≠ 0 := fun h9 => c_28_0 (Int32.toInt_inj.mp (h9.trans (by decide)))
  have tc_28_1 : (nI (rd_w T (rd_P T i)).1).toInt ≠ 1 := fun h9 => c_28_1 (Int32.toInt_inj.mp (h9.trans (by decide)))
  have tc_28_2 : (nI (rd_w T (rd_P T i)).1).toInt ≠ 2 := fun h9 => c_28_2 (Int32.toInt_inj.mp (h9.trans (by decide)))
  have tc_28_3 : (nI (rd_w T (rd_P T i)).1).toInt ≠ 3 := fun h9 => c_28_3 (Int32.toInt_inj.mp (h9.trans (by decide)))
  refine lv_tableOut (tgt := 106) C0.1 C0.2.1 dX6_follow_28 (by omega) (by decide) ?_
  have nW0 : ¬ (rd_w T (rd_P T i)).1 = 0 := fun h9 => c_28_0 (by rw [h9]; rfl)
  have nW1 : ¬ (rd_w T (rd_P T i)).1 = 1 := fun h9 => c_28_1 (by rw [h9]; rfl)
  have nW2 : ¬ (rd_w T (rd_P T i)).1 = 2 := fun h9 => c_28_2 (by rw [h9]; rfl)
  have nW3 : ¬ (rd_w T (rd_P T i)).1 = 3 := fun h9 => c_28_3 (by rw [h9]; rfl)
  refine lv_aload_n C0.1 C0.2.1 dX6_follow_106 rfl (lv_at hl 2 rfl) ?_
  refine lv_iload_n C0.1 C0.2.1 dX6_follow_107 rfl (lv_at hl 1 rfl) ?_
  refine lv_iload_n C0.1 C0.2.1 dX6_follow_108 rfl (lv_at hl 0 rfl) ?_
  refine hv_cVi C0 w kl_X6_289 kv_X6_copies rfl hX0 (k_X6_copies hX hB) (by decide) (by decide) rfl hl.1 rfl (Nat.le_of_ble_eq_true rfl) dX6_follow_109 ⟨Nat.le_refl _, Nat.le_refl _⟩ (fun x28 V29 Hq lq hp30 w => ?_)
  exact hv_iret C0 w hr hlk (by rw [sp_do, if_neg nW0, if_neg nW1, if_neg nW2, if_neg nW3]; exact hp30) dX6_follow_112

set_option maxHeartbeats 4000000 in
set_option maxRecDepth 100000 in
theorem m_X6_read {l : Launch} {X : hv_X} {V : hv_V} {x : Nat} {σ : hs_S} (hX : okX X V x σ) (hB : hs_b σ) : hv_Mi l X 8 yX6_read cX6_read 4 .int V [.ref x] (fun y V1 => y = (sp_read σ).1 ∧ okX X V1 x (sp_read σ).2 ∧ hv_out V V1 x (x + 92)) := by
  refine hv_enter (by decide) (Nat.le_of_ble_eq_true rfl) ?_
  intro p e s m below meth c ls C0 hr hlk hnm w hl
  have hl : lv_has ls 4 [(0, .ref x)] := hl
  obtain ⟨kk0, hX0, hPg, hKp, hTx, hTp, hSc⟩ := id hX
  obtain ⟨pl0, cl0, wd0, vl0, hq0, hq1, hq2, hq3⟩ := id hTx
  have loop : ∀ (pl1 : Int32) (wd1 vl1 : Nat → Int32) (hr1 : (rd_all σ.2.2.1 12 0).1 = true) (hN : (rd_all σ.2.2.1 12 0).2.2 ≤ 12) (hh1 : rd_h σ.2.2.1 (rd_all σ.2.2.1 12 0).2.2 wd1 vl1) (m9 i9 d9 : Nat) (σ9 : hs_S) (V8 : hv_V) (Hq : Heap) (lq : List Loc) (ls : Array Slot), (i9 + m9 = (rd_all σ.2.2.1 12 0).2.2) → (okX X V8 x σ9) → (hs_b σ9) → (hv_out V V8 x (x + 92)) → (V8 (x + 53) = some (sE (x + 53) 0 pl1 (nI (rd_all σ.2.2.1 12 0).2.2))) → (V8 (x + 53 + 2) = some (iE X 12 wd1)) → (V8 (x + 53 + 3) = some (iE X 48 vl1)) → (sp_run σ.2.2.1 m9 i9 d9 σ9 = sp_run σ.2.2.1 (rd_all σ.2.2.1 12 0).2.2 0 0 (hs_gone σ)) → hv_w X s (V8) Hq lq → lv_has ls 4 [(0, .ref x), (2, .int (nI d9)), (3, .int (nI i9))] → W p l e (hv_rm 8 0 0) s m ([.ref x] : List Value).toArray below meth c Hq lq 0 0 (MQ below (hv_Qi X (fun y V1 => y = (sp_read σ).1 ∧ okX X V1 x (sp_read σ).2 ∧ hv_out V V1 x (x + 92))) ([.ref x] : List Value).toArray s 0 0 X.2.2.1) (F0 m 30 ls []) := by
    intro pl1 wd1 vl1 hr1 hN hh1 m9
    induction m9 with
    | zero =>
      intro i9 d9 σ9 V8 Hq lq ls hi hO9 hB9 ho9 q53 q55 q56 he w hl
      have he : (d9, σ9) = sp_run σ.2.2.1 (rd_all σ.2.2.1 12 0).2.2 0 0 (hs_gone σ) := he
      obtain ⟨kk9, q0, -⟩ := id hO9
      refine lv_iload_n C0.1 C0.2.1 dX6_read_30 rfl (lv_at hl 2 rfl) ?_
      refine lv_aload_n C0.1 C0.2.1 dX6_read_31 rfl (lv_at hl 0 rfl) ?_
      refine gf_X6_24 C0 w q0 rfl dX6_read_32 ?_
      refine gf_X6_132 C0 w q53 rfl dX6_read_35 ?_
      refine lv_icmp_ge (tgt := 58) C0.1 C0.2.1 dX6_read_38 (by decide) (fun c_38 => ?_) (fun c_38 => absurd (nI_le (by omega) (by omega)) c_38)
      refine lv_iload_n C0.1 C0.2.1 dX6_read_58 rfl (lv_at hl 1 rfl) ?_
      exact hv_iret C0 w hr hlk (by rw [sp_read, if_pos hr1, ← he]; exact ⟨rfl, hO9, ho9⟩) dX6_read_59
    | succ m9 ih =>
      intro i9 d9 σ9 V8 Hq lq ls hi hO9 hB9 ho9 q53 q55 q56 he w hl
      obtain ⟨kk9, q0, -⟩ := id hO9
      refine lv_iload_n C0.1 C0.2.1 dX6_read_30 rfl (lv_at hl 2 rfl) ?_
      refine lv_aload_n C0.1 C0.2.1 dX6_read_31 rfl (lv_at hl 0 rfl) ?_
      refine gf_X6_24 C0 w q0 rfl dX6_read_32 ?_
      refine gf_X6_132 C0 w q53 rfl dX6_read_35 ?_
      refine lv_icmp_ge (tgt := 58) C0.1 C0.2.1 dX6_read_38 (by decide) (fun c_38 => absurd c_38 (nI_ge (by omega) (by omega))) (fun c_38 => ?_)
      refine lv_aload_n C0.1 C0.2.1 dX6_read_41 rfl (lv_at hl 0 rfl) ?_
      refine lv_iload_n C0.1 C0.2.1 dX6_read_42 rfl (lv_at hl 2 rfl) ?_
      refine hv_cVi C0 w kl_X6_135 kv_X6_follow rfl q0 (c_X6_follow hO9 hB9 q53 q55 q56 hh1 (i := i9) (by omega) hN) (by decide) (by decide) rfl hl.1 rfl (Nat.le_of_ble_eq_true rfl) dX6_read_43 ⟨Nat.le_refl _, Nat.le_refl _⟩ (fun x1 V2 Hq lq hp3 w => ?_)
      obtain ⟨ey9, hO8, ho8, hb8⟩ := hp3
      refine lv_if_lt (tgt := 52) C0.1 C0.2.1 dX6_read_46 (by decide) (fun c_46 => ?_) (fun c_46 => ?_)
      · skip
        refine lv_iinc (v := (nI i9) + 1) (lv' := [(3, .int ((nI i9) + 1)), (0, .ref x), (2, .int (nI d9))]) C0.1 C0.2.1 dX6_read_52 hl (k := 2) rfl rfl (by decide) rfl (fun ls hl => ?_)
        refine lv_goto (tgt := 30) C0.1 C0.2.1 dX6_read_55 (by decide) ?_
        exact ih (i9 + 1) (d9) (sp_do σ.2.2.1 i9 σ9).2 V2 _ _ ls (by omega) hO8 (hb_do hB9 _ i9) (fun q9 h9 => (ho8 q9 h9).trans (ho9 q9 h9)) ((hb8 _ (by omega) (by omega)).trans q53) ((hb8 _ (by omega) (by omega)).trans q55) ((hb8 _ (by omega) (by omega)).trans q56) (by rw [← he, sp_run, if_neg (fun h9 => by rw [ey9] at c_46; exact absurd c_46 (Int32.not_lt.mpr h9))]) w (by have h9 := (lv_sub (l' := [(0, .ref x), (2, .int (nI d9)), (3, .int (nI i9 + 1))]) hl [1, 2, 0] rfl); rw [nI_1] at h9; exact h9)
      · skip
        refine lv_iinc (v := (nI d9) + 1) (lv' := [(2, .int ((nI d9) + 1)), (0, .ref x), (3, .int (nI i9))]) C0.1 C0.2.1 dX6_read_49 hl (k := 1) rfl rfl (by decide) rfl (fun ls hl => ?_)
        refine lv_iinc (v := (nI i9) + 1) (lv' := [(3, .int ((nI i9) + 1)), (2, .int ((nI d9) + 1)), (0, .ref x)]) C0.1 C0.2.1 dX6_read_52 hl (k := 2) rfl rfl (by decide) rfl (fun ls hl => ?_)
        refine lv_goto (tgt := 30) C0.1 C0.2.1 dX6_read_55 (by decide) ?_
        exact ih (i9 + 1) (d9 + 1) (sp_do σ.2.2.1 i9 σ9).2 V2 _ _ ls (by omega) hO8 (hb_do hB9 _ i9) (fun q9 h9 => (ho8 q9 h9).trans (ho9 q9 h9)) ((hb8 _ (by omega) (by omega)).trans q53) ((hb8 _ (by omega) (by omega)).trans q55) ((hb8 _ (by omega) (by omega)).trans q56) (by rw [← he, sp_run, if_pos (by rw [ey9] at c_46; exact Int32.not_lt.mp c_46)]) w (by have h9 := (lv_sub (l' := [(0, .ref x), (2, .int (nI d9 + 1)), (3, .int (nI i9 + 1))]) hl [2, 1, 0] rfl); rw [nI_1, nI_1] at h9; exact h9)
  refine lv_aload_n C0.1 C0.2.1 dX6_read_0 rfl (lv_at hl 0 rfl) ?_
  refine gf_X6_24 C0 w hX0 rfl dX6_read_1 ?_
  refine hv_cVi C0 w kl_X6_128 kv_X4_parse rfl hq0 (c_X4_parse (n := σ.2.2.1.1) (f := σ.2.2.1.2) hq0 hq1 hB.2.2.1 hq2 hq3) (by decide) (by decide) rfl hl.1 rfl (Nat.le_of_ble_eq_true rfl) dX6_read_4 ⟨Nat.le_refl _, Nat.le_refl _⟩ (fun x1 V2 Hq lq hp3 w => ?_)
  obtain ⟨pl1, wd1, vl1, e1, hz1⟩ := hp3
  have e1 : V2 = hv_up (hv_up (hv_up V (x + 53) (sE (x + 53) σ.2.2.1.1 pl1 (nI (rd_all σ.2.2.1 12 0).2.2))) (x + 53 + 2) (iE X 12 wd1)) (x + 53 + 3) (iE X 48 vl1) := e1
  have hz1 : ((rd_all σ.2.2.1 12 0).1 = true ∧ x1 = -1 ∧ rd_h σ.2.2.1 (rd_all σ.2.2.1 12 0).2.2 wd1 vl1) ∨ (¬ (rd_all σ.2.2.1 12 0).1 = true ∧ x1 = nI (rd_all σ.2.2.1 12 0).2.1) := hz1
  have hV4 : V2 x = some (.inr (6, [.ref (x + 1), .ref (x + 27), .int kk0, .ref (x + 53), .ref (x + 57), .ref (x + 58), .ref (x + 60), .ref (x + 61), .ref (x + 62), .ref (x + 63)])) := by rw [e1, hv_un (by omega), hv_un (by omega), hv_un (by omega)]; exact hX0
  have hV5 : V2 (x + 53) = some (.inr (4, [.ref (x + 53 + 1), .int (nI σ.2.2.1.1), .int pl1, .int (nI (rd_all σ.2.2.1 12 0).2.2), .ref (x + 53 + 2), .ref (x + 53 + 3)])) := by rw [e1, hv_un (by omega), hv_un (by omega)]; exact hv_us
  have hV6 : V2 (x + 53 + 1) = some (.inl (X.2.1 2, 100, .inl σ.2.2.1.2)) := by rw [e1, hv_un (by omega), hv_un (by omega), hv_un (by omega)]; exact hq1
  have hV7 : V2 (x + 53 + 2) = some (.inl (X.2.1 0, 12, .inl wd1)) := by rw [e1, hv_un (by omega)]; exact hv_us
  have hV8 : V2 (x + 53 + 3) = some (.inl (X.2.1 0, 48, .inl vl1)) := by rw [e1]; exact hv_us
  rcases hz1 with ⟨hr1, rfl, hh1⟩ | ⟨hr1, rfl⟩
  · skip
    refine lv_istore_n (lv' := [(1, .int (-1)), (0, .ref x)]) C0.1 C0.2.1 dX6_read_7 rfl hl (by decide) rfl (fun ls hl => ?_)
    refine lv_aload_n C0.1 C0.2.1 dX6_read_8 rfl (lv_at hl 1 rfl) ?_
    refine gf_X6_24 C0 w hV4 rfl dX6_read_9 ?_
    refine lv_iconst (v := 0) C0.1 C0.2.1 dX6_read_12 (by decide) ?_
    refine pf_X6_125 C0 w hV5 (by simp) dX6_read_13 (fun Hq lq w => ?_)
    obtain ⟨V9, eV10⟩ : ∃ W9, W9 = hv_up V2 (x + 53) (.inr (4, [.ref (x + 53 + 1), .int 0, .int pl1, .int (nI (rd_all σ.2.2.1 12 0).2.2), .ref (x + 53 + 2), .ref (x + 53 + 3)])) := ⟨_, rfl⟩
    have w : hv_w X s V9 Hq lq := by rw [eV10]; exact w
    have hV11 : V9 x = some (.inr (6, [.ref (x + 1), .ref (x + 27), .int kk0, .ref (x + 53), .ref (x + 57), .ref (x + 58), .ref (x + 60), .ref (x + 61), .ref (x + 62), .ref (x + 63)])) := by rw [eV10, hv_un (by omega)]; exact hV4
    have hV13 : V9 (x + 53 + 1) = some (.inl (X.2.1 2, 100, .inl σ.2.2.1.2)) := by rw [eV10, hv_un (by omega)]; exact hV6
    have hV14 : V9 (x + 53 + 2) = some (.inl (X.2.1 0, 12, .inl wd1)) := by rw [eV10, hv_un (by omega)]; exact hV7
    have hV15 : V9 (x + 53 + 3) = some (.inl (X.2.1 0, 48, .inl vl1)) := by rw [eV10, hv_un (by omega)]; exact hV8
    have hV16 : V9 (x + 53) = some (.inr (4, [.ref (x + 53 + 1), .int 0, .int pl1, .int (nI (rd_all σ.2.2.1 12 0).2.2), .ref (x + 53 + 2), .ref (x + 53 + 3)])) := by rw [eV10]; exact hv_us
    refine lv_iload_n C0.1 C0.2.1 dX6_read_16 rfl (lv_at hl 0 rfl) ?_
    refine lv_iconst (v := -1) C0.1 C0.2.1 dX6_read_17 (by decide) ?_
    refine lv_icmp_eq (tgt := 26) C0.1 C0.2.1 dX6_read_18 (by decide) (fun _ => ?_) (fun h9 => absurd h9 (by decide))
    refine lv_iconst (v := 0) C0.1 C0.2.1 dX6_read_26 (by decide) ?_
    refine lv_istore_n (lv' := [(2, .int 0), (1, .int (-1)), (0, .ref x)]) C0.1 C0.2.1 dX6_read_27 rfl hl (by decide) rfl (fun ls hl => ?_)
    refine lv_iconst (v := 0) C0.1 C0.2.1 dX6_read_28 (by decide) ?_
    refine lv_istore_n (lv' := [(3, .int 0), (2, .int 0), (1, .int (-1)), (0, .ref x)]) C0.1 C0.2.1 dX6_read_29 rfl hl (by decide) rfl (fun ls hl => ?_)
    have hl : lv_has ls 4 [(3, .int 0), (2, .int (nI 0)), (1, .int (-1)), (0, .ref x)] := by rw [show ((nI 0)) = (0) from rfl]; exact hl
    have hl : lv_has ls 4 [(3, .int (nI 0)), (2, .int (nI 0)), (1, .int (-1)), (0, .ref x)] := by rw [show ((nI 0)) = (0) from rfl]; exact hl
    have hg9 : okX X V9 x (hs_gone σ) := ⟨kk0, (by rw [eV10, hv_un (by omega), e1, hv_un (by omega), hv_un (by omega), hv_un (by omega)] : _ = V x).trans hX0, hPg.fr (fun q h7 h8 => by rw [eV10, hv_un (by omega), e1, hv_un (by omega), hv_un (by omega), hv_un (by omega)]), hKp.fr (fun q h7 h8 => by rw [eV10, hv_un (by omega), e1, hv_un (by omega), hv_un (by omega), hv_un (by omega)]), ⟨pl1, _, wd1, vl1, by rw [eV10]; exact hv_us, (by rw [eV10, hv_un (by omega), e1, hv_un (by omega), hv_un (by omega), hv_un (by omega)] : _ = V (x + 53 + 1)).trans hq1, by rw [eV10, hv_un (by omega), e1, hv_un (by omega)]; exact hv_us, by rw [eV10, hv_un (by omega), e1]; exact hv_us⟩, hTp.fr (by rw [eV10, hv_un (by omega), e1, hv_un (by omega), hv_un (by omega), hv_un (by omega)]) (fun q h7 h8 => by rw [eV10, hv_un (by omega), e1, hv_un (by omega), hv_un (by omega), hv_un (by omega)]), hSc.fr (fun q h7 h8 => by rw [eV10, hv_un (by omega), e1, hv_un (by omega), hv_un (by omega), hv_un (by omega)]) (fun q h7 h8 => by rw [eV10, hv_un (by omega), e1, hv_un (by omega), hv_un (by omega), hv_un (by omega)])⟩
    exact loop pl1 wd1 vl1 hr1 (by have := (rd_allb (T := σ.2.2.1) 12 0 (Nat.zero_le _)).2; omega) hh1 (rd_all σ.2.2.1 12 0).2.2 0 0 (hs_gone σ) V9 _ _ ls (by omega) hg9 (hb_gone hB) (fun q h7 => by rw [eV10, hv_un (by omega), e1, hv_un (by omega), hv_un (by omega), hv_un (by omega)]) hV16 hV14 hV15 rfl w (lv_sub hl [3, 1, 0] rfl)
  · skip
    refine lv_istore_n (lv' := [(1, .int (nI (rd_all σ.2.2.1 12 0).2.1)), (0, .ref x)]) C0.1 C0.2.1 dX6_read_7 rfl hl (by decide) rfl (fun ls hl => ?_)
    refine lv_aload_n C0.1 C0.2.1 dX6_read_8 rfl (lv_at hl 1 rfl) ?_
    refine gf_X6_24 C0 w hV4 rfl dX6_read_9 ?_
    refine lv_iconst (v := 0) C0.1 C0.2.1 dX6_read_12 (by decide) ?_
    refine pf_X6_125 C0 w hV5 (by simp) dX6_read_13 (fun Hq lq w => ?_)
    obtain ⟨V17, eV18⟩ : ∃ W9, W9 = hv_up V2 (x + 53) (.inr (4, [.ref (x + 53 + 1), .int 0, .int pl1, .int (nI (rd_all σ.2.2.1 12 0).2.2), .ref (x + 53 + 2), .ref (x + 53 + 3)])) := ⟨_, rfl⟩
    have w : hv_w X s V17 Hq lq := by rw [eV18]; exact w
    have hV19 : V17 x = some (.inr (6, [.ref (x + 1), .ref (x + 27), .int kk0, .ref (x + 53), .ref (x + 57), .ref (x + 58), .ref (x + 60), .ref (x + 61), .ref (x + 62), .ref (x + 63)])) := by rw [eV18, hv_un (by omega)]; exact hV4
    have hV21 : V17 (x + 53 + 1) = some (.inl (X.2.1 2, 100, .inl σ.2.2.1.2)) := by rw [eV18, hv_un (by omega)]; exact hV6
    have hV22 : V17 (x + 53 + 2) = some (.inl (X.2.1 0, 12, .inl wd1)) := by rw [eV18, hv_un (by omega)]; exact hV7
    have hV23 : V17 (x + 53 + 3) = some (.inl (X.2.1 0, 48, .inl vl1)) := by rw [eV18, hv_un (by omega)]; exact hV8
    have hV24 : V17 (x + 53) = some (.inr (4, [.ref (x + 53 + 1), .int 0, .int pl1, .int (nI (rd_all σ.2.2.1 12 0).2.2), .ref (x + 53 + 2), .ref (x + 53 + 3)])) := by rw [eV18]; exact hv_us
    refine lv_iload_n C0.1 C0.2.1 dX6_read_16 rfl (lv_at hl 0 rfl) ?_
    refine lv_iconst (v := -1) C0.1 C0.2.1 dX6_read_17 (by decide) ?_
    refine lv_icmp_eq (tgt := 26) C0.1 C0.2.1 dX6_read_18 (by decide) (fun c_18 => absurd c_18 (nI_m1 (by have h7 := (rd_allb (T := σ.2.2.1) 12 0 (Nat.zero_le _)).1; have h8 := hB.2.2.1; omega))) (fun c_18 => ?_)
    refine lv_bipush (v := -10) C0.1 C0.2.1 dX6_read_21 (by decide) ?_
    refine lv_iload_n C0.1 C0.2.1 dX6_read_23 rfl (lv_at hl 0 rfl) ?_
    refine lv_isub C0.1 C0.2.1 dX6_read_24 ?_
    exact hv_iret C0 w hr hlk (by rw [sp_read, if_neg hr1]; exact ⟨rfl, ⟨kk0, (by rw [eV18, hv_un (by omega), e1, hv_un (by omega), hv_un (by omega), hv_un (by omega)] : _ = V x).trans hX0, hPg.fr (fun q h7 h8 => by rw [eV18, hv_un (by omega), e1, hv_un (by omega), hv_un (by omega), hv_un (by omega)]), hKp.fr (fun q h7 h8 => by rw [eV18, hv_un (by omega), e1, hv_un (by omega), hv_un (by omega), hv_un (by omega)]), ⟨pl1, _, wd1, vl1, by rw [eV18]; exact hv_us, (by rw [eV18, hv_un (by omega), e1, hv_un (by omega), hv_un (by omega), hv_un (by omega)] : _ = V (x + 53 + 1)).trans hq1, by rw [eV18, hv_un (by omega), e1, hv_un (by omega)]; exact hv_us, by rw [eV18, hv_un (by omega), e1]; exact hv_us⟩, hTp.fr (by rw [eV18, hv_un (by omega), e1, hv_un (by omega), hv_un (by omega), hv_un (by omega)]) (fun q h7 h8 => by rw [eV18, hv_un (by omega), e1, hv_un (by omega), hv_un (by omega), hv_un (by omega)]), hSc.fr (fun q h7 h8 => by rw [eV18, hv_un (by omega), e1, hv_un (by omega), hv_un (by omega), hv_un (by omega)]) (fun q h7 h8 => by rw [eV18, hv_un (by omega), e1, hv_un (by omega), hv_un (by omega), hv_un (by omega)])⟩, (fun q h7 => by rw [eV18, hv_un (by omega), e1, hv_un (by omega), hv_un (by omega), hv_un (by omega)])⟩) dX6_read_25

