abbrev sp_rw (R : hs_R) (q : Nat) : fx_F := fx_reckon (R.1 q) (R.2.2 q) (R.2.1 q)
/-- is all as SEEN says, rows as R tells them? -/
def sp_so (R : hs_R) (L : hs_L) : Nat → Nat → Bool
  | 0, _ => true
  | m + 1, k => if fx_just (sp_rw R (L.2.1 k).toNatClampNeg) (L.2.2.1 k).toInt64 (L.2.2.2 k).toInt64 then sp_so R L m (k + 1) else false
theorem fx_ju {F : fx_F} {ab be a b : Int64} (h : fm F ab be) (h1 : ¬ be = 0) : fx_just F a b ↔ fx_cmp (ab * b) (a * be) = 0 := by
  obtain ⟨p1, p2, p3, -⟩ := h.yes h1
  unfold fx_cmp
  rw [p2, p3]
  constructor
  · intro h9
    rw [h9.2, if_neg Int64.lt_irrefl, if_pos rfl]
  · intro h9
    refine ⟨by rw [p1]; decide, ?_⟩
    by_cases c1 : F.1 * b < a * F.2.1
    · rw [if_pos c1] at h9; exact absurd h9 (by decide)
    · rw [if_neg c1] at h9
      by_cases c2 : F.1 * b = a * F.2.1
      · exact c2
      · rw [if_neg c2] at h9; exact absurd h9 (by decide)
set_option maxHeartbeats 4000000 in
set_option maxRecDepth 100000 in
theorem c_X7_isSo {l : Launch} {X : hv_X} {V : hv_V} {mo : Nat} {ab be : Int64} {tx ev bk : Nat} {pl cl sg ik : Int32} {R : hs_R} {L : hs_L} (hO : V mo = some (mE mo ab be tx pl cl sg L.1 ev bk ik)) (hRw : om_rows X V mo R) (hbR : hs_bR R) (hSe : om_seen X V mo L) (hL4 : L.1 ≤ 4) (hbL : ∀ k, k < L.1 → sp_in (L.2.1 k) 0 5) : hv_Mi l X 131 yX7_isSo cX7_isSo 2 .boolean V [.ref mo] (fun y V1 => ∃ ab1 be1 : Int64, V1 = hv_up V mo (mE mo ab1 be1 tx pl cl sg L.1 ev bk ik) ∧ hv_B (sp_so R L L.1 0 = true) y) := by
  refine hv_enter (by decide) (Nat.le_of_ble_eq_true rfl) ?_
  intro p e s m below meth c ls C0 hr hlk hnm w hl
  have hl : lv_has ls 2 [(0, .ref mo)] := hl
  obtain ⟨r1, r2, ⟨rf, r3, r4⟩, r5⟩ := id hRw
  obtain ⟨sf, sg9, sh, e1, e2, e3, ea⟩ := id hSe
  have loop : ∀ (m9 k : Nat) (ab2 be2 : Int64) (Hq : Heap) (lq : List Loc) (ls : Array Slot), (k + m9 = L.1) → (sp_so R L m9 k = sp_so R L L.1 0) → hv_w X s (hv_up V mo (mE mo ab2 be2 tx pl cl sg L.1 ev bk ik)) Hq lq → lv_has ls 2 [(0, .ref mo), (1, .int (nI k))] → W p l e (hv_rm 131 0 0) s m ([.ref mo] : List Value).toArray below meth c Hq lq 0 0 (MQ below (hv_Qi X (fun y V1 => ∃ ab1 be1 : Int64, V1 = hv_up V mo (mE mo ab1 be1 tx pl cl sg L.1 ev bk ik) ∧ hv_B (sp_so R L L.1 0 = true) y)) ([.ref mo] : List Value).toArray s 0 0 X.2.2.1) (F0 m 2 ls []) := by
    intro m9
    induction m9 with
    | zero =>
      intro k ab2 be2 Hq lq ls hi he w hl
      have he : true = sp_so R L L.1 0 := he
      have he := he.symm
      obtain ⟨V8, e8⟩ : ∃ W9, W9 = hv_up V mo (mE mo ab2 be2 tx pl cl sg L.1 ev bk ik) := ⟨_, rfl⟩
      rw [← e8] at w
      have hOv : V8 mo = some (.inr (7, [.ref (mo + 1), .ref (mo + 2), .ref (mo + 3), .long ab2, .long be2, .ref (mo + 10), .int (nI tx), .int pl, .int cl, .ref (mo + 11), .ref (mo + 12), .ref (mo + 13), .int sg, .ref (mo + 14), .ref (mo + 15), .ref (mo + 16), .ref (mo + 17), .int (nI L.1), .ref (mo + 18), .ref (mo + 19), .int (nI ev), .ref (mo + 20), .ref (mo + 21), .ref (mo + 22), .int (nI bk), .int ik, .ref (mo + 23), .ref (mo + 24), .ref (mo + 25), .ref (mo + 26), .ref (mo + 33), .ref (mo + 41), .ref (mo + 42), .ref (mo + 43)])) := by rw [e8]; exact hv_us
      have r1v : V8 (mo + 1) = some (.inl (X.2.1 0, 6, .inl R.1)) := by rw [e8, hv_un (by omega)]; exact r1
      have r2v : V8 (mo + 2) = some (.inl (X.2.1 0, 6, .inl (fun j => nI (R.2.1 j)))) := by rw [e8, hv_un (by omega)]; exact r2
      have r3v : V8 (mo + 3) = some (.inl (X.2.1 6, 6, .inr (.inr (.inr (.inr rf))))) := by rw [e8, hv_un (by omega)]; exact r3
      have e1v : V8 (mo + 15) = some (.inl (X.2.1 0, 4, .inl sf)) := by rw [e8, hv_un (by omega)]; exact e1
      have e2v : V8 (mo + 16) = some (.inl (X.2.1 0, 4, .inl sg9)) := by rw [e8, hv_un (by omega)]; exact e2
      have e3v : V8 (mo + 17) = some (.inl (X.2.1 0, 4, .inl sh)) := by rw [e8, hv_un (by omega)]; exact e3
      refine lv_iload_n C0.1 C0.2.1 dX7_isSo_2 rfl (lv_at hl 1 rfl) ?_
      refine lv_aload_n C0.1 C0.2.1 dX7_isSo_3 rfl (lv_at hl 0 rfl) ?_
      refine gf_X7_275 C0 w hOv rfl dX7_isSo_4 ?_
      refine lv_icmp_ge (tgt := 52) C0.1 C0.2.1 dX7_isSo_7 (by decide) (fun c_7 => ?_) (fun c_7 => absurd (nI_le (by omega) (by omega)) c_7)
      refine lv_iconst (v := 1) C0.1 C0.2.1 dX7_isSo_52 (by decide) ?_
      exact hv_zret C0 w hr hlk (by decide) (⟨_, _, by rw [e8], Or.inl ⟨rfl, he⟩⟩) dX7_isSo_53
    | succ m9 ih =>
      intro k ab2 be2 Hq lq ls hi he w hl
      obtain ⟨V8, e8⟩ : ∃ W9, W9 = hv_up V mo (mE mo ab2 be2 tx pl cl sg L.1 ev bk ik) := ⟨_, rfl⟩
      rw [← e8] at w
      have hOv : V8 mo = some (.inr (7, [.ref (mo + 1), .ref (mo + 2), .ref (mo + 3), .long ab2, .long be2, .ref (mo + 10), .int (nI tx), .int pl, .int cl, .ref (mo + 11), .ref (mo + 12), .ref (mo + 13), .int sg, .ref (mo + 14), .ref (mo + 15), .ref (mo + 16), .ref (mo + 17), .int (nI L.1), .ref (mo + 18), .ref (mo + 19), .int (nI ev), .ref (mo + 20), .ref (mo + 21), .ref (mo + 22), .int (nI bk), .int ik, .ref (mo + 23), .ref (mo + 24), .ref (mo + 25), .ref (mo + 26), .ref (mo + 33), .ref (mo + 41), .ref (mo + 42), .ref (mo + 43)])) := by rw [e8]; exact hv_us
      have r1v : V8 (mo + 1) = some (.inl (X.2.1 0, 6, .inl R.1)) := by rw [e8, hv_un (by omega)]; exact r1
      have r2v : V8 (mo + 2) = some (.inl (X.2.1 0, 6, .inl (fun j => nI (R.2.1 j)))) := by rw [e8, hv_un (by omega)]; exact r2
      have r3v : V8 (mo + 3) = some (.inl (X.2.1 6, 6, .inr (.inr (.inr (.inr rf))))) := by rw [e8, hv_un (by omega)]; exact r3
      have e1v : V8 (mo + 15) = some (.inl (X.2.1 0, 4, .inl sf)) := by rw [e8, hv_un (by omega)]; exact e1
      have e2v : V8 (mo + 16) = some (.inl (X.2.1 0, 4, .inl sg9)) := by rw [e8, hv_un (by omega)]; exact e2
      have e3v : V8 (mo + 17) = some (.inl (X.2.1 0, 4, .inl sh)) := by rw [e8, hv_un (by omega)]; exact e3
      refine lv_iload_n C0.1 C0.2.1 dX7_isSo_2 rfl (lv_at hl 1 rfl) ?_
      refine lv_aload_n C0.1 C0.2.1 dX7_isSo_3 rfl (lv_at hl 0 rfl) ?_
      refine gf_X7_275 C0 w hOv rfl dX7_isSo_4 ?_
      refine lv_icmp_ge (tgt := 52) C0.1 C0.2.1 dX7_isSo_7 (by decide) (fun c_7 => absurd c_7 (nI_ge (by omega) (by omega))) (fun c_7 => ?_)
      refine lv_aload_n C0.1 C0.2.1 dX7_isSo_10 rfl (lv_at hl 0 rfl) ?_
      refine lv_aload_n C0.1 C0.2.1 dX7_isSo_11 rfl (lv_at hl 0 rfl) ?_
      refine gf_X7_39 C0 w hOv rfl dX7_isSo_12 ?_
      refine lv_iload_n C0.1 C0.2.1 dX7_isSo_15 rfl (lv_at hl 1 rfl) ?_
      refine hv_iald C0 w e1v (hn_in (by omega) (by decide)) dX7_isSo_16 ?_
      have hc1 : (nI k).toNatClampNeg = k := nI_clamp (by omega)
      rw [hc1]
      obtain ⟨q1, hq1, eq1⟩ := sp_inN (k := 5) (by decide) (hbL k (by omega))
      have kq1 : (nI q1).toNatClampNeg = q1 := nI_clamp (by omega)
      rw [(ea k (by omega)).1, eq1]
      have hN_q : V8 (mo + 4 + q1) = some (nE X (R.2.2 q1)) := by rw [e8, hv_un (by omega)]; exact r5 q1 hq1
      refine hv_cVi C0 w kl_X7_240 kv_X7_hasWorth rfl hOv (c_X7_hasWorth (n := R.2.1 q1) hOv r1v r2v rfl r3v (r4 q1 hq1) hq1 hN_q ((hbR q1 hq1).2.1) (fun i9 => (hbR q1 hq1).2.2 i9)) (by decide) (by decide) rfl hl.1 rfl (Nat.le_of_ble_eq_true rfl) dX7_isSo_17 ⟨Nat.le_refl _, Nat.le_refl _⟩ (fun x2 V3 Hq lq hp4 w => ?_)
      obtain ⟨ab5, be6, eV7, fm8, hz9⟩ := hp4
      have hV10 : V3 (mo + 1) = some (.inl (X.2.1 0, 6, .inl R.1)) := by rw [eV7, hv_un (by omega)]; exact r1v
      have hV11 : V3 (mo + 2) = some (.inl (X.2.1 0, 6, .inl (fun j => nI (R.2.1 j)))) := by rw [eV7, hv_un (by omega)]; exact r2v
      have hV12 : V3 (mo + 3) = some (.inl (X.2.1 6, 6, .inr (.inr (.inr (.inr rf))))) := by rw [eV7, hv_un (by omega)]; exact r3v
      have hV13 : V3 (mo + 15) = some (.inl (X.2.1 0, 4, .inl sf)) := by rw [eV7, hv_un (by omega)]; exact e1v
      have hV14 : V3 (mo + 16) = some (.inl (X.2.1 0, 4, .inl sg9)) := by rw [eV7, hv_un (by omega)]; exact e2v
      have hV15 : V3 (mo + 17) = some (.inl (X.2.1 0, 4, .inl sh)) := by rw [eV7, hv_un (by omega)]; exact e3v
      have hV17 : V3 (mo + 4 + q1) = some (.inl (X.2.1 0, 16, .inl (R.2.2 q1))) := by rw [eV7, hv_un (by omega)]; exact hN_q
      have hV18 : V3 mo = some (.inr (7, [.ref (mo + 1), .ref (mo + 2), .ref (mo + 3), .long ab5, .long be6, .ref (mo + 10), .int (nI tx), .int pl, .int cl, .ref (mo + 11), .ref (mo + 12), .ref (mo + 13), .int sg, .ref (mo + 14), .ref (mo + 15), .ref (mo + 16), .ref (mo + 17), .int (nI L.1), .ref (mo + 18), .ref (mo + 19), .int (nI ev), .ref (mo + 20), .ref (mo + 21), .ref (mo + 22), .int (nI bk), .int ik, .ref (mo + 23), .ref (mo + 24), .ref (mo + 25), .ref (mo + 26), .ref (mo + 33), .ref (mo + 41), .ref (mo + 42), .ref (mo + 43)])) := by rw [eV7]; exact hv_us
      rcases hz9 with ⟨rfl, hw9⟩ | ⟨rfl, hw9⟩
      · skip
        refine lv_if_eq (tgt := 44) C0.1 C0.2.1 dX7_isSo_20 (by decide) (fun h9 => absurd h9 (by decide)) (fun _ => ?_)
        refine lv_aload_n C0.1 C0.2.1 dX7_isSo_23 rfl (lv_at hl 0 rfl) ?_
        refine lv_aload_n C0.1 C0.2.1 dX7_isSo_24 rfl (lv_at hl 0 rfl) ?_
        refine gf_X7_42 C0 w hV18 rfl dX7_isSo_25 ?_
        refine lv_iload_n C0.1 C0.2.1 dX7_isSo_28 rfl (lv_at hl 1 rfl) ?_
        refine hv_iald C0 w hV14 (hn_in (by omega) (by decide)) dX7_isSo_29 ?_
        have hc19 : (nI k).toNatClampNeg = k := nI_clamp (by omega)
        rw [hc19]
        rw [(ea k (by omega)).2.1]
        refine lv_i2l (v := (L.2.2.1 k).toInt64) C0.1 C0.2.1 dX7_isSo_30 rfl ?_
        refine lv_aload_n C0.1 C0.2.1 dX7_isSo_31 rfl (lv_at hl 0 rfl) ?_
        refine gf_X7_45 C0 w hV18 rfl dX7_isSo_32 ?_
        refine lv_iload_n C0.1 C0.2.1 dX7_isSo_35 rfl (lv_at hl 1 rfl) ?_
        refine hv_iald C0 w hV15 (hn_in (by omega) (by decide)) dX7_isSo_36 ?_
        have hc20 : (nI k).toNatClampNeg = k := nI_clamp (by omega)
        rw [hc20]
        rw [(ea k (by omega)).2.2]
        refine lv_i2l (v := (L.2.2.2 k).toInt64) C0.1 C0.2.1 dX7_isSo_37 rfl ?_
        refine hv_cVi C0 w kl_X7_268 kv_X7_against rfl hV18 (c_X7_against hV18) (by decide) (by decide) rfl hl.1 rfl (Nat.le_of_ble_eq_true rfl) dX7_isSo_38 ⟨Nat.le_refl _, Nat.le_refl _⟩ (fun x21 V22 Hq lq hp23 w => ?_)
        obtain ⟨e9, e8x⟩ := hp23
        rw [e9] at w; rw [e8x]; clear e9 e8x
        refine lv_if_eq (tgt := 46) C0.1 C0.2.1 dX7_isSo_41 (by decide) (fun c_41 => ?_) (fun c_41 => ?_)
        · skip
          refine lv_iinc (v := (nI k) + 1) (lv' := [(1, .int ((nI k) + 1)), (0, .ref mo)]) C0.1 C0.2.1 dX7_isSo_46 hl (k := 1) rfl rfl (by decide) rfl (fun ls hl => ?_)
          refine lv_goto (tgt := 2) C0.1 C0.2.1 dX7_isSo_49 (by decide) ?_
          exact ih (k + 1) _ _ _ _ ls (by omega) (by rw [← he, sp_so, eq1, kq1, if_pos ((fx_ju fm8 hw9).mpr c_41)]) (by rw [eV7, e8, hv_uu] at w; exact w) (by have h9 := (lv_sub (l' := [(0, .ref mo), (1, .int (nI k + 1))]) hl [1, 0] rfl); rw [nI_1] at h9; exact h9)
        · skip
          refine lv_iconst (v := 0) C0.1 C0.2.1 dX7_isSo_44 (by decide) ?_
          exact hv_zret C0 w hr hlk (by decide) (⟨_, _, by rw [eV7, e8, hv_uu], Or.inr ⟨rfl, fun h9 => by rw [← he, sp_so, eq1, kq1, if_neg (fun h8 => c_41 ((fx_ju fm8 hw9).mp h8))] at h9; exact absurd h9 (by decide)⟩⟩) dX7_isSo_45
      · skip
        refine lv_if_eq (tgt := 44) C0.1 C0.2.1 dX7_isSo_20 (by decide) (fun _ => ?_) (fun h9 => absurd h9 (by decide))
        refine lv_iconst (v := 0) C0.1 C0.2.1 dX7_isSo_44 (by decide) ?_
        exact hv_zret C0 w hr hlk (by decide) (⟨_, _, by rw [eV7, e8, hv_uu], Or.inr ⟨rfl, fun h9 => by rw [← he, sp_so, eq1, kq1, if_neg (fun h8 => h8.1 (fm8.no.mp (Classical.byContradiction hw9)))] at h9; exact absurd h9 (by decide)⟩⟩) dX7_isSo_45
  refine lv_iconst (v := 0) C0.1 C0.2.1 dX7_isSo_0 (by decide) ?_
  refine lv_istore_n (lv' := [(1, .int 0), (0, .ref mo)]) C0.1 C0.2.1 dX7_isSo_1 rfl hl (by decide) rfl (fun ls hl => ?_)
  exact loop L.1 0 ab be _ _ ls (by omega) rfl (by rw [hv_id hO]; exact w) (lv_sub hl [1, 0] rfl)

