theorem sp_so_all (R : hs_R) (L : hs_L) : ∀ (m k : Nat), sp_so R L m k = true ↔ ∀ q, k ≤ q → q < k + m → fx_just (sp_rw R (L.2.1 q).toNatClampNeg) (L.2.2.1 q).toInt64 (L.2.2.2 q).toInt64
  | 0, k => ⟨fun _ q h1 h2 => by omega, fun _ => rfl⟩
  | m + 1, k => by
    show (if _ then _ else _ : Bool) = true ↔ _
    by_cases c : fx_just (sp_rw R (L.2.1 k).toNatClampNeg) (L.2.2.1 k).toInt64 (L.2.2.2 k).toInt64
    · rw [if_pos c, sp_so_all R L m (k + 1)]
      constructor
      · intro h q h1 h2
        by_cases e : q = k
        · rw [e]; exact c
        · exact h q (by omega) (by omega)
      · intro h q h1 h2; exact h q (by omega) (by omega)
    · rw [if_neg c]
      exact ⟨fun h => absurd h (by decide), fun h => absurd (h k (by omega) (by omega)) c⟩
theorem sp_sn_all (σ : hs_S) (j : Int32) (F : fx_F) : ∀ (m k : Nat), sp_sn σ j F m k = true ↔ ∀ q, k ≤ q → q < k + m → σ.1.2.1.2.1 q = j → fx_just F (σ.1.2.1.2.2.1 q).toInt64 (σ.1.2.1.2.2.2 q).toInt64
  | 0, k => ⟨fun _ q h1 h2 => by omega, fun _ => rfl⟩
  | m + 1, k => by
    show (if _ then _ else _ : Bool) = true ↔ _
    by_cases c : σ.1.2.1.2.1 k = j ∧ ¬ fx_just F (σ.1.2.1.2.2.1 k).toInt64 (σ.1.2.1.2.2.2 k).toInt64
    · rw [if_pos c]
      exact ⟨fun h => absurd h (by decide), fun h => absurd (h k (by omega) (by omega) c.1) c.2⟩
    · rw [if_neg c, sp_sn_all σ j F m (k + 1)]
      constructor
      · intro h q h1 h2 h3
        by_cases e : q = k
        · rw [e] at h3 ⊢
          exact Classical.byContradiction (fun h9 => c ⟨h3, h9⟩)
        · exact h q (by omega) (by omega) h3
      · intro h q h1 h2; exact h q (by omega) (by omega)
theorem sp_ot_all (σ : hs_S) (r : Int32) : ∀ (m k : Nat), sp_ot σ r m k = true ↔ ∀ q, k ≤ q → q < k + m → ¬ nI q = r → sp_seen σ (nI q) (sp_w σ q (σ.1.1.2.1 q)) = true
  | 0, k => ⟨fun _ q h1 h2 => by omega, fun _ => rfl⟩
  | m + 1, k => by
    show (if _ then _ else _ : Bool) = true ↔ _
    by_cases c : nI k = r
    · rw [if_pos c, sp_ot_all σ r m (k + 1)]
      constructor
      · intro h q h1 h2 h3
        by_cases e : q = k
        · rw [e] at h3; exact absurd c h3
        · exact h q (by omega) (by omega) h3
      · intro h q h1 h2; exact h q (by omega) (by omega)
    · rw [if_neg c]
      by_cases c2 : sp_seen σ (nI k) (sp_w σ k (σ.1.1.2.1 k)) = true
      · rw [if_pos c2, sp_ot_all σ r m (k + 1)]
        constructor
        · intro h q h1 h2 h3
          by_cases e : q = k
          · rw [e]; exact c2
          · exact h q (by omega) (by omega) h3
        · intro h q h1 h2; exact h q (by omega) (by omega)
      · rw [if_neg c2]
        exact ⟨fun h => absurd h (by decide), fun h => absurd (h k (by omega) (by omega) c) c2⟩
/-- rows with number i of row j told otherwise -/
def sp_rn (σ : hs_S) (j i : Nat) (v : Int32) : hs_R := (σ.1.1.1, σ.1.1.2.1, hs_up σ.1.1.2.2 j (upd (σ.1.1.2.2 j) i v))
theorem sp_so_iff {σ : hs_S} (hB : hs_b σ) {j i : Nat} {v : Int32} (hj : j < 6) : sp_so (sp_rn σ j i v) σ.1.2.1 σ.1.2.1.1 0 = true ↔ sp_others σ (nI j) = true ∧ sp_seen σ (nI j) (fx_reckon (σ.1.1.1 j) (upd (σ.1.1.2.2 j) i v) (σ.1.1.2.1 j)) = true := by
  have hbL := hB.1.2.1.2
  have e1 : ∀ q, q < 6 → ¬ nI q = nI j → sp_rw (sp_rn σ j i v) q = sp_w σ q (σ.1.1.2.1 q) := fun q hq hne => by
    show fx_reckon (σ.1.1.1 q) (hs_up σ.1.1.2.2 j _ q) (σ.1.1.2.1 q) = _
    rw [hs_un (fun e => hne (by rw [e]))]
  have e2 : sp_rw (sp_rn σ j i v) j = fx_reckon (σ.1.1.1 j) (upd (σ.1.1.2.2 j) i v) (σ.1.1.2.1 j) := by
    show fx_reckon (σ.1.1.1 j) (hs_up σ.1.1.2.2 j _ j) (σ.1.1.2.1 j) = _
    rw [hs_us]
  rw [sp_so_all, show sp_others σ (nI j) = sp_ot σ (nI j) 6 0 from rfl, sp_ot_all, show ∀ F, sp_seen σ (nI j) F = sp_sn σ (nI j) F σ.1.2.1.1 0 from fun _ => rfl, sp_sn_all]
  constructor
  · intro h
    refine ⟨fun q _ hq hne => ?_, fun k _ hk he => ?_⟩
    · rw [show ∀ F, sp_seen σ (nI q) F = sp_sn σ (nI q) F σ.1.2.1.1 0 from fun _ => rfl, sp_sn_all]
      intro k _ hk he
      have h2 := h k (by omega) (by omega)
      rw [he, nI_clamp (by omega), e1 q (by omega) hne] at h2
      exact h2
    · have h2 := h k (by omega) (by omega)
      rw [he, nI_clamp (by omega), e2] at h2
      exact h2
  · intro h k _ hk
    obtain ⟨q, hq, he⟩ := sp_inN (k := 5) (by decide) (hbL k (by omega)).1
    rw [he, nI_clamp (by omega)]
    by_cases c : nI q = nI j
    · have c2 : q = j := (nI_eq (by omega) (by omega)).mp c
      rw [c2, e2]
      exact h.2 k (by omega) (by omega) (by rw [he, c2])
    · rw [e1 q (by omega) c]
      have h2 := h.1 q (by omega) (by omega) c
      rw [show ∀ F, sp_seen σ (nI q) F = sp_sn σ (nI q) F σ.1.2.1.1 0 from fun _ => rfl, sp_sn_all] at h2
      exact h2 k (by omega) (by omega) he
def sp_fr (σ : hs_S) (j i : Nat) : Nat → Int32 → Int32 → Int32 × Int32
  | 0, c, a => (c, a)
  | v + 1, c, a => if sp_so (sp_rn σ j i (nI v)) σ.1.2.1 σ.1.2.1.1 0 = true then sp_fr σ j i v (c + 1) (nI v) else sp_fr σ j i v c a
theorem sp_fr_t {σ : hs_S} (hB : hs_b σ) {j i : Nat} (hj : j < 6) (ho : sp_others σ (nI j) = true) : ∀ (m : Nat) (c a : Int32), sp_fr σ j i m c a = sp_ft σ j i m c a
  | 0, _, _ => rfl
  | v + 1, c, a => by
    show (if _ then _ else _) = (if _ then _ else _ : Int32 × Int32)
    by_cases q : sp_seen σ (nI j) (fx_reckon (σ.1.1.1 j) (upd (σ.1.1.2.2 j) i (nI v)) (σ.1.1.2.1 j)) = true
    · rw [if_pos ((sp_so_iff hB hj).mpr ⟨ho, q⟩), if_pos q, sp_fr_t hB hj ho v]
    · rw [if_neg (fun h => q ((sp_so_iff hB hj).mp h).2), if_neg q, sp_fr_t hB hj ho v]
theorem sp_fr_f {σ : hs_S} (hB : hs_b σ) {j i : Nat} (hj : j < 6) (ho : ¬ sp_others σ (nI j) = true) : ∀ (m : Nat) (c a : Int32), sp_fr σ j i m c a = (c, a)
  | 0, _, _ => rfl
  | v + 1, c, a => by
    show (if _ then _ else _) = _
    rw [if_neg (fun h => ho ((sp_so_iff hB hj).mp h).1), sp_fr_f hB hj ho v]
theorem sp_fits_r {σ : hs_S} (hB : hs_b σ) {j i : Nat} {k : Int32} (hj : j < 6) (hi : i < 16) (h1 : sp_in (nI j) 0 5) (h2 : sp_in (nI i) 0 (nI (σ.1.1.2.1 j) - 1)) (h3 : sp_in k 0 1) : sp_fits σ (nI j) (nI i) k = if k = 0 then (sp_fr σ j i 100 0 (-5)).1 else (sp_fr σ j i 100 0 (-5)).2 := by
  have kj : (nI j).toNatClampNeg = j := nI_clamp (by omega)
  have ki : (nI i).toNatClampNeg = i := nI_clamp (by omega)
  unfold sp_fits
  rw [if_pos ⟨h1, by rw [kj]; exact h2, h3⟩, kj, ki]
  by_cases ho : sp_others σ (nI j) = true
  · rw [if_pos ho, sp_fr_t hB hj ho]
  · rw [if_neg ho, sp_fr_f hB hj ho]
theorem hs_updd (f : Nat → Int32) (i : Nat) (x y : Int32) : upd (upd f i x) i y = upd f i y := by
  funext q
  by_cases h : q = i <;> simp [upd, h]
theorem om_rows.num {X : hv_X} {V V1 : hv_V} {mo : Nat} {σ : hs_S} (h : om_rows X V mo σ.1.1) {j i : Nat} {v : Int32} (h3 : V1 (mo + 4 + j) = some (nE X (upd (σ.1.1.2.2 j) i v))) (bo : ∀ q, mo + 1 ≤ q → q < mo + 10 → q ≠ mo + 4 + j → V1 q = V q) (hj : j < 6) : om_rows X V1 mo (sp_rn σ j i v) := by
  obtain ⟨g1, g2, ⟨rf, g3, g4⟩, g5⟩ := h
  refine ⟨(bo _ (by omega) (by omega) (by omega)).trans g1, (bo _ (by omega) (by omega) (by omega)).trans g2, ⟨rf, (bo _ (by omega) (by omega) (by omega)).trans g3, g4⟩, fun q hq => ?_⟩
  show V1 (mo + 4 + q) = some (nE X (hs_up σ.1.1.2.2 j (upd (σ.1.1.2.2 j) i v) q))
  by_cases e : q = j
  · subst e; rw [hs_us]; exact h3
  · rw [hs_un e]; exact (bo _ (by omega) (by omega) (by omega)).trans (g5 q hq)
theorem hs_bR.num {σ : hs_S} (h : hs_bR σ.1.1) {j i : Nat} {v : Int32} (hv : 0 ≤ v ∧ v ≤ 1000000000) : hs_bR (sp_rn σ j i v) := fun q hq => by
  refine ⟨(h q hq).1, (h q hq).2.1, fun k => ?_⟩
  show 0 ≤ hs_up σ.1.1.2.2 j (upd (σ.1.1.2.2 j) i v) q k ∧ hs_up σ.1.1.2.2 j (upd (σ.1.1.2.2 j) i v) q k ≤ 1000000000
  by_cases e : q = j
  · subst e
    rw [hs_us]
    by_cases e2 : k = i
    · subst e2; rw [hs_uself]; exact hv
    · simp only [upd, if_neg e2]; exact (h q hq).2.2 k
  · rw [hs_un e]; exact (h q hq).2.2 k
set_option maxHeartbeats 4000000 in
set_option maxRecDepth 100000 in
theorem c_X7_fits {l : Launch} {X : hv_X} {V : hv_V} {mo : Nat} {σ : hs_S} (hM : okM X V mo σ) (hB : hs_b σ) {j1 i1 : Nat} {k : Int32} (hj1 : j1 < 6) (hi1 : i1 < 16) (hrj : sp_in (nI j1) 0 5) (hri : sp_in (nI i1) 0 (nI (σ.1.1.2.1 j1) - 1)) : hv_Mi l X 220 yX7_fits cX7_fits 8 .int V [.ref mo, .int (nI j1), .int (nI i1), .int k] (fun y V1 => y = sp_fits σ (nI j1) (nI i1) k ∧ okM X V1 mo σ ∧ hv_out V V1 mo (mo + 50)) := by
  refine hv_enter (by decide) (Nat.le_of_ble_eq_true rfl) ?_
  intro p e s m below meth c ls C0 hr hlk hnm w hl
  have hl : lv_has ls 8 [(0, .ref mo), (1, .int (nI j1)), (2, .int (nI i1)), (3, .int k)] := hl
  obtain ⟨ab, be, pl, cl, sg, ik, hO, hRw, hTx, hSc, hSe, hEv, hBk, hIm, hTp⟩ := id hM
  obtain ⟨r1, r2, ⟨rf, r3, r4⟩, r5⟩ := id hRw
  obtain ⟨⟨wd, s1⟩, ⟨td, s2⟩, ⟨sn, s3⟩, ⟨ut, s4⟩, kn, s5⟩ := id hSc
  obtain ⟨sf, sg9, sh, e1, e2, e3, ea⟩ := id hSe
  obtain ⟨ef, eg, v1, v2, va⟩ := id hEv
  obtain ⟨bf, bg, b1, b2, ba⟩ := id hBk
  obtain ⟨t1, t2, ⟨tf, t3, t4⟩, t5⟩ := id hTp
  have hbR := hB.1.1
  have kj1 : (nI j1).toNatClampNeg = j1 := nI_clamp (by omega)
  have hN_j1 : V (mo + 4 + j1) = some (nE X (σ.1.1.2.2 j1)) := r5 j1 hj1
  have loop : ∀ (hsp : sp_fits σ (nI j1) (nI i1) k = if k = 0 then (sp_fr σ j1 i1 100 0 (-5)).1 else (sp_fr σ j1 i1 100 0 (-5)).2) (m9 : Nat) (c9 a9 x9 : Int32) (ab2 be2 : Int64) (Hq : Heap) (lq : List Loc) (ls : Array Slot), (m9 ≤ 100) → (sp_fr σ j1 i1 m9 c9 a9 = sp_fr σ j1 i1 100 0 (-5)) → hv_w X s (hv_up (hv_up V mo (mE mo ab2 be2 σ.2.2.1.1 pl cl sg σ.1.2.1.1 σ.1.2.2.1.1 σ.1.2.2.2.1 ik)) (mo + 4 + j1) (nE X (upd (σ.1.1.2.2 j1) i1 x9))) Hq lq → lv_has ls 8 [(0, .ref mo), (1, .int (nI j1)), (2, .int (nI i1)), (3, .int k), (4, .int (σ.1.1.2.2 j1 i1)), (5, .int c9), (6, .int a9), (7, .int (nI m9 - 1))] → W p l e (hv_rm 220 0 0) s m ([.ref mo, .int (nI j1), .int (nI i1), .int k] : List Value).toArray below meth c Hq lq 0 0 (MQ below (hv_Qi X (fun y V1 => y = sp_fits σ (nI j1) (nI i1) k ∧ okM X V1 mo σ ∧ hv_out V V1 mo (mo + 50))) ([.ref mo, .int (nI j1), .int (nI i1), .int k] : List Value).toArray s 0 0 X.2.2.1) (F0 m 55 ls []) := by
    intro hsp m9
    induction m9 with
    | zero =>
      intro c9 a9 x9 ab2 be2 Hq lq ls hi he w hl
      have he : (c9, a9) = sp_fr σ j1 i1 100 0 (-5) := he
      obtain ⟨V8, e8⟩ : ∃ W9, W9 = hv_up (hv_up V mo (mE mo ab2 be2 σ.2.2.1.1 pl cl sg σ.1.2.1.1 σ.1.2.2.1.1 σ.1.2.2.2.1 ik)) (mo + 4 + j1) (nE X (upd (σ.1.1.2.2 j1) i1 x9)) := ⟨_, rfl⟩
      rw [← e8] at w
      have hOv : V8 mo = some (.inr (7, [.ref (mo + 1), .ref (mo + 2), .ref (mo + 3), .long ab2, .long be2, .ref (mo + 10), .int (nI σ.2.2.1.1), .int pl, .int cl, .ref (mo + 11), .ref (mo + 12), .ref (mo + 13), .int sg, .ref (mo + 14), .ref (mo + 15), .ref (mo + 16), .ref (mo + 17), .int (nI σ.1.2.1.1), .ref (mo + 18), .ref (mo + 19), .int (nI σ.1.2.2.1.1), .ref (mo + 20), .ref (mo + 21), .ref (mo + 22), .int (nI σ.1.2.2.2.1), .int ik, .ref (mo + 23), .ref (mo + 24), .ref (mo + 25), .ref (mo + 26), .ref (mo + 33), .ref (mo + 41), .ref (mo + 42), .ref (mo + 43)])) := by rw [e8, hv_un (by omega)]; exact hv_us
      have r3v : V8 (mo + 3) = some (qE X 6 6 rf) := by rw [e8, hv_un (by omega), hv_un (by omega)]; exact r3
      have hNv : V8 (mo + 4 + j1) = some (nE X (upd (σ.1.1.2.2 j1) i1 x9)) := by rw [e8]; exact hv_us
      refine lv_iload C0.1 C0.2.1 dX7_fits_55 (lv_at hl 7 rfl) ?_
      refine lv_if_lt (tgt := 93) C0.1 C0.2.1 dX7_fits_57 (by decide) (fun c_57 => ?_) (fun c_57 => absurd (by decide) c_57)
      refine lv_aload_n C0.1 C0.2.1 dX7_fits_93 rfl (lv_at hl 0 rfl) ?_
      refine gf_X7_20 C0 w hOv rfl dX7_fits_94 ?_
      refine lv_iload_n C0.1 C0.2.1 dX7_fits_97 rfl (lv_at hl 1 rfl) ?_
      refine hv_aalA 6 rfl C0 w rfl r3v (hn_in hj1 (by decide)) (by rw [kj1]; exact r4 j1 hj1) dX7_fits_98 ?_
      refine lv_iload_n C0.1 C0.2.1 dX7_fits_99 rfl (lv_at hl 2 rfl) ?_
      refine lv_iload C0.1 C0.2.1 dX7_fits_100 (lv_at hl 4 rfl) ?_
      refine hv_iast C0 w hNv (hn_in (by omega) (by decide)) dX7_fits_102 (fun Hq lq w => ?_)
      have hc1 : (nI i1).toNatClampNeg = i1 := nI_clamp (by omega)
      rw [hc1] at w
      obtain ⟨V2, eV3⟩ : ∃ W9, W9 = hv_up V8 (mo + 4 + j1) (.inl (X.2.1 0, 16, .inl (upd (upd (σ.1.1.2.2 j1) i1 x9) i1 (σ.1.1.2.2 j1 i1)))) := ⟨_, rfl⟩
      have w : hv_w X s V2 Hq lq := by rw [eV3]; exact w
      have hV4 : V2 mo = some (.inr (7, [.ref (mo + 1), .ref (mo + 2), .ref (mo + 3), .long ab2, .long be2, .ref (mo + 10), .int (nI σ.2.2.1.1), .int pl, .int cl, .ref (mo + 11), .ref (mo + 12), .ref (mo + 13), .int sg, .ref (mo + 14), .ref (mo + 15), .ref (mo + 16), .ref (mo + 17), .int (nI σ.1.2.1.1), .ref (mo + 18), .ref (mo + 19), .int (nI σ.1.2.2.1.1), .ref (mo + 20), .ref (mo + 21), .ref (mo + 22), .int (nI σ.1.2.2.2.1), .int ik, .ref (mo + 23), .ref (mo + 24), .ref (mo + 25), .ref (mo + 26), .ref (mo + 33), .ref (mo + 41), .ref (mo + 42), .ref (mo + 43)])) := by rw [eV3, hv_un (by omega)]; exact hOv
      have hV5 : V2 (mo + 3) = some (.inl (X.2.1 6, 6, .inr (.inr (.inr (.inr rf))))) := by rw [eV3, hv_un (by omega)]; exact r3v
      have hV7 : V2 (mo + 4 + j1) = some (.inl (X.2.1 0, 16, .inl (upd (upd (σ.1.1.2.2 j1) i1 x9) i1 (σ.1.1.2.2 j1 i1)))) := by rw [eV3]; exact hv_us
      refine lv_iload_n C0.1 C0.2.1 dX7_fits_103 rfl (lv_at hl 3 rfl) ?_
      refine lv_if_ne (tgt := 112) C0.1 C0.2.1 dX7_fits_104 (by decide) (fun c_104 => ?_) (fun c_104 => ?_)
      · skip
        refine lv_iload C0.1 C0.2.1 dX7_fits_112 (lv_at hl 6 rfl) ?_
        exact hv_iret C0 w hr hlk (by rw [hsp, ← he]; exact ⟨(if_neg c_104).symm, by have h9 := om_rows.set (V1 := V2) hRw (kd := σ.1.1.1 j1) (n := σ.1.1.2.1 j1) hj1 (by rw [hs_uid, eV3, hv_un (by omega), e8, hv_un (by omega), hv_un (by omega)]; exact r1) (by rw [hs_uid (fun i => nI (σ.1.1.2.1 i)), eV3, hv_un (by omega), e8, hv_un (by omega), hv_un (by omega)]; exact r2) (by rw [eV3]; exact (hv_us.trans (by rw [hs_updd, hs_uid]))) (by rw [eV3, hv_un (by omega), e8, hv_un (by omega), hv_un (by omega)]) (fun i9 hi9 hne9 => by rw [eV3, hv_un (by omega), e8, hv_un (by omega), hv_un (by omega)]); rw [hs_id, hs_id, hs_id] at h9; exact ⟨ab2, be2, pl, cl, sg, ik, (by rw [eV3, hv_un (by omega), e8, hv_un (by omega)]; exact hv_us), h9, (by rw [eV3, hv_un (by omega), e8, hv_un (by omega), hv_un (by omega)] : _ = V (mo + 10)).trans hTx, hSc.fr (fun q h7 h8 => by rw [eV3, hv_un (by omega), e8, hv_un (by omega), hv_un (by omega)]) (fun q h7 h8 => by rw [eV3, hv_un (by omega), e8, hv_un (by omega), hv_un (by omega)]), hSe.fr (fun q h7 h8 => by rw [eV3, hv_un (by omega), e8, hv_un (by omega), hv_un (by omega)]), hEv.fr (by rw [eV3, hv_un (by omega), e8, hv_un (by omega), hv_un (by omega)]) (by rw [eV3, hv_un (by omega), e8, hv_un (by omega), hv_un (by omega)]), hBk.fr (by rw [eV3, hv_un (by omega), e8, hv_un (by omega), hv_un (by omega)]) (by rw [eV3, hv_un (by omega), e8, hv_un (by omega), hv_un (by omega)]), hIm.fr (fun q h7 h8 => by rw [eV3, hv_un (by omega), e8, hv_un (by omega), hv_un (by omega)]), hTp.fr (fun q h7 h8 => by rw [eV3, hv_un (by omega), e8, hv_un (by omega), hv_un (by omega)])⟩, (fun q h7 => by rw [eV3, hv_un (by omega), e8, hv_un (by omega), hv_un (by omega)])⟩) dX7_fits_114
      · skip
        refine lv_iload C0.1 C0.2.1 dX7_fits_107 (lv_at hl 5 rfl) ?_
        refine lv_goto (tgt := 114) C0.1 C0.2.1 dX7_fits_109 (by decide) ?_
        exact hv_iret C0 w hr hlk (by rw [hsp, ← he]; exact ⟨(if_pos c_104).symm, by have h9 := om_rows.set (V1 := V2) hRw (kd := σ.1.1.1 j1) (n := σ.1.1.2.1 j1) hj1 (by rw [hs_uid, eV3, hv_un (by omega), e8, hv_un (by omega), hv_un (by omega)]; exact r1) (by rw [hs_uid (fun i => nI (σ.1.1.2.1 i)), eV3, hv_un (by omega), e8, hv_un (by omega), hv_un (by omega)]; exact r2) (by rw [eV3]; exact (hv_us.trans (by rw [hs_updd, hs_uid]))) (by rw [eV3, hv_un (by omega), e8, hv_un (by omega), hv_un (by omega)]) (fun i9 hi9 hne9 => by rw [eV3, hv_un (by omega), e8, hv_un (by omega), hv_un (by omega)]); rw [hs_id, hs_id, hs_id] at h9; exact ⟨ab2, be2, pl, cl, sg, ik, (by rw [eV3, hv_un (by omega), e8, hv_un (by omega)]; exact hv_us), h9, (by rw [eV3, hv_un (by omega), e8, hv_un (by omega), hv_un (by omega)] : _ = V (mo + 10)).trans hTx, hSc.fr (fun q h7 h8 => by rw [eV3, hv_un (by omega), e8, hv_un (by omega), hv_un (by omega)]) (fun q h7 h8 => by rw [eV3, hv_un (by omega), e8, hv_un (by omega), hv_un (by omega)]), hSe.fr (fun q h7 h8 => by rw [eV3, hv_un (by omega), e8, hv_un (by omega), hv_un (by omega)]), hEv.fr (by rw [eV3, hv_un (by omega), e8, hv_un (by omega), hv_un (by omega)]) (by rw [eV3, hv_un (by omega), e8, hv_un (by omega), hv_un (by omega)]), hBk.fr (by rw [eV3, hv_un (by omega), e8, hv_un (by omega), hv_un (by omega)]) (by rw [eV3, hv_un (by omega), e8, hv_un (by omega), hv_un (by omega)]), hIm.fr (fun q h7 h8 => by rw [eV3, hv_un (by omega), e8, hv_un (by omega), hv_un (by omega)]), hTp.fr (fun q h7 h8 => by rw [eV3, hv_un (by omega), e8, hv_un (by omega), hv_un (by omega)])⟩, (fun q h7 => by rw [eV3, hv_un (by omega), e8, hv_un (by omega), hv_un (by omega)])⟩) dX7_fits_114
    | succ m9 ih =>
      intro c9 a9 x9 ab2 be2 Hq lq ls hi he w hl
      obtain ⟨V8, e8⟩ : ∃ W9, W9 = hv_up (hv_up V mo (mE mo ab2 be2 σ.2.2.1.1 pl cl sg σ.1.2.1.1 σ.1.2.2.1.1 σ.1.2.2.2.1 ik)) (mo + 4 + j1) (nE X (upd (σ.1.1.2.2 j1) i1 x9)) := ⟨_, rfl⟩
      rw [← e8] at w
      have hOv : V8 mo = some (.inr (7, [.ref (mo + 1), .ref (mo + 2), .ref (mo + 3), .long ab2, .long be2, .ref (mo + 10), .int (nI σ.2.2.1.1), .int pl, .int cl, .ref (mo + 11), .ref (mo + 12), .ref (mo + 13), .int sg, .ref (mo + 14), .ref (mo + 15), .ref (mo + 16), .ref (mo + 17), .int (nI σ.1.2.1.1), .ref (mo + 18), .ref (mo + 19), .int (nI σ.1.2.2.1.1), .ref (mo + 20), .ref (mo + 21), .ref (mo + 22), .int (nI σ.1.2.2.2.1), .int ik, .ref (mo + 23), .ref (mo + 24), .ref (mo + 25), .ref (mo + 26), .ref (mo + 33), .ref (mo + 41), .ref (mo + 42), .ref (mo + 43)])) := by rw [e8, hv_un (by omega)]; exact hv_us
      have r3v : V8 (mo + 3) = some (qE X 6 6 rf) := by rw [e8, hv_un (by omega), hv_un (by omega)]; exact r3
      have hNv : V8 (mo + 4 + j1) = some (nE X (upd (σ.1.1.2.2 j1) i1 x9)) := by rw [e8]; exact hv_us
      have hl : lv_has ls 8 [(0, .ref mo), (1, .int (nI j1)), (2, .int (nI i1)), (3, .int k), (4, .int (σ.1.1.2.2 j1 i1)), (5, .int c9), (6, .int a9), (7, .int (nI m9))] := by rw [show ((nI m9)) = ((nI (m9 + 1) - 1)) from (nI_pred m9).symm]; exact hl
      refine lv_iload C0.1 C0.2.1 dX7_fits_55 (lv_at hl 7 rfl) ?_
      refine lv_if_lt (tgt := 93) C0.1 C0.2.1 dX7_fits_57 (by decide) (fun c_57 => absurd c_57 (nI_pos (by omega))) (fun c_57 => ?_)
      refine lv_aload_n C0.1 C0.2.1 dX7_fits_60 rfl (lv_at hl 0 rfl) ?_
      refine gf_X7_20 C0 w hOv rfl dX7_fits_61 ?_
      refine lv_iload_n C0.1 C0.2.1 dX7_fits_64 rfl (lv_at hl 1 rfl) ?_
      refine hv_aalA 6 rfl C0 w rfl r3v (hn_in hj1 (by decide)) (by rw [kj1]; exact r4 j1 hj1) dX7_fits_65 ?_
      refine lv_iload_n C0.1 C0.2.1 dX7_fits_66 rfl (lv_at hl 2 rfl) ?_
      refine lv_iload C0.1 C0.2.1 dX7_fits_67 (lv_at hl 7 rfl) ?_
      refine hv_iast C0 w hNv (hn_in (by omega) (by decide)) dX7_fits_69 (fun Hq lq w => ?_)
      have hc1 : (nI i1).toNatClampNeg = i1 := nI_clamp (by omega)
      rw [hc1] at w
      obtain ⟨V2, eV3⟩ : ∃ W9, W9 = hv_up V8 (mo + 4 + j1) (.inl (X.2.1 0, 16, .inl (upd (upd (σ.1.1.2.2 j1) i1 x9) i1 (nI m9)))) := ⟨_, rfl⟩
      have w : hv_w X s V2 Hq lq := by rw [eV3]; exact w
      have hV4 : V2 mo = some (.inr (7, [.ref (mo + 1), .ref (mo + 2), .ref (mo + 3), .long ab2, .long be2, .ref (mo + 10), .int (nI σ.2.2.1.1), .int pl, .int cl, .ref (mo + 11), .ref (mo + 12), .ref (mo + 13), .int sg, .ref (mo + 14), .ref (mo + 15), .ref (mo + 16), .ref (mo + 17), .int (nI σ.1.2.1.1), .ref (mo + 18), .ref (mo + 19), .int (nI σ.1.2.2.1.1), .ref (mo + 20), .ref (mo + 21), .ref (mo + 22), .int (nI σ.1.2.2.2.1), .int ik, .ref (mo + 23), .ref (mo + 24), .ref (mo + 25), .ref (mo + 26), .ref (mo + 33), .ref (mo + 41), .ref (mo + 42), .ref (mo + 43)])) := by rw [eV3, hv_un (by omega)]; exact hOv
      have hV5 : V2 (mo + 3) = some (.inl (X.2.1 6, 6, .inr (.inr (.inr (.inr rf))))) := by rw [eV3, hv_un (by omega)]; exact r3v
      have hV7 : V2 (mo + 4 + j1) = some (.inl (X.2.1 0, 16, .inl (upd (upd (σ.1.1.2.2 j1) i1 x9) i1 (nI m9)))) := by rw [eV3]; exact hv_us
      refine lv_aload_n C0.1 C0.2.1 dX7_fits_70 rfl (lv_at hl 0 rfl) ?_
      have hR9 : om_rows X V2 mo (sp_rn σ j1 i1 (nI m9)) := hRw.num (by rw [eV3]; exact (hv_us.trans (by rw [hs_updd]))) (fun q h7 h8 h6 => by rw [eV3, hv_un (by omega), e8, hv_un (by omega), hv_un (by omega)]) hj1
      have hS9 : om_seen X V2 mo σ.1.2.1 := hSe.fr (fun q h7 h8 => by rw [eV3, hv_un (by omega), e8, hv_un (by omega), hv_un (by omega)])
      refine hv_cVi C0 w kl_X7_278 kv_X7_isSo rfl hV4 (c_X7_isSo hV4 hR9 (hs_bR.num hbR ⟨nI_pos' (by omega), nI_le (a := m9) (b := 1000000000) (by omega) (by decide)⟩) hS9 hB.1.2.1.1 (fun q9 hq9 => (hB.1.2.1.2 q9 hq9).1)) (by decide) (by decide) rfl hl.1 rfl (Nat.le_of_ble_eq_true rfl) dX7_fits_71 ⟨Nat.le_refl _, Nat.le_refl _⟩ (fun x8 V9 Hq lq hp10 w => ?_)
      obtain ⟨ab11, be12, eV13, hz9⟩ := hp10
      have hV16 : V9 (mo + 3) = some (.inl (X.2.1 6, 6, .inr (.inr (.inr (.inr rf))))) := by rw [eV13, hv_un (by omega)]; exact hV5
      have hV17 : V9 (mo + 4 + j1) = some (.inl (X.2.1 0, 16, .inl (upd (upd (σ.1.1.2.2 j1) i1 x9) i1 (nI m9)))) := by rw [eV13, hv_un (by omega)]; exact hV7
      have hV18 : V9 mo = some (.inr (7, [.ref (mo + 1), .ref (mo + 2), .ref (mo + 3), .long ab11, .long be12, .ref (mo + 10), .int (nI σ.2.2.1.1), .int pl, .int cl, .ref (mo + 11), .ref (mo + 12), .ref (mo + 13), .int sg, .ref (mo + 14), .ref (mo + 15), .ref (mo + 16), .ref (mo + 17), .int (nI σ.1.2.1.1), .ref (mo + 18), .ref (mo + 19), .int (nI σ.1.2.2.1.1), .ref (mo + 20), .ref (mo + 21), .ref (mo + 22), .int (nI σ.1.2.2.2.1), .int ik, .ref (mo + 23), .ref (mo + 24), .ref (mo + 25), .ref (mo + 26), .ref (mo + 33), .ref (mo + 41), .ref (mo + 42), .ref (mo + 43)])) := by rw [eV13]; exact hv_us
      rcases hz9 with ⟨rfl, ha14⟩ | ⟨rfl, ha14⟩
      · skip
        refine lv_if_ne (tgt := 80) C0.1 C0.2.1 dX7_fits_74 (by decide) (fun _ => ?_) (fun h9 => absurd h9 (by decide))
        refine lv_iinc (v := c9 + 1) (lv' := [(5, .int (c9 + 1)), (0, .ref mo), (1, .int (nI j1)), (2, .int (nI i1)), (3, .int k), (4, .int (σ.1.1.2.2 j1 i1)), (6, .int a9), (7, .int (nI m9))]) C0.1 C0.2.1 dX7_fits_80 hl (k := 5) rfl rfl (by decide) rfl (fun ls hl => ?_)
        refine lv_iload C0.1 C0.2.1 dX7_fits_83 (lv_at hl 7 rfl) ?_
        refine lv_istore (lv' := [(6, .int (nI m9)), (5, .int (c9 + 1)), (0, .ref mo), (1, .int (nI j1)), (2, .int (nI i1)), (3, .int k), (4, .int (σ.1.1.2.2 j1 i1)), (7, .int (nI m9))]) C0.1 C0.2.1 dX7_fits_85 hl (by decide) rfl (fun ls hl => ?_)
        refine lv_iinc (v := (nI m9) + (-1)) (lv' := [(7, .int ((nI m9) + (-1))), (6, .int (nI m9)), (5, .int (c9 + 1)), (0, .ref mo), (1, .int (nI j1)), (2, .int (nI i1)), (3, .int k), (4, .int (σ.1.1.2.2 j1 i1))]) C0.1 C0.2.1 dX7_fits_87 hl (k := 7) rfl rfl (by decide) rfl (fun ls hl => ?_)
        refine lv_goto (tgt := 55) C0.1 C0.2.1 dX7_fits_90 (by decide) ?_
        exact ih (c9 + 1) (nI m9) (nI m9) _ _ _ _ ls (by omega) (by rw [← he, sp_fr, if_pos ha14]) (by rw [eV13, eV3, e8, hv_uu, hs_updd, hv_m1 (a := mo) (b := mo + 4 + j1) (by omega)] at w; exact w) (by have h9 := (lv_sub (l' := [(0, .ref mo), (1, .int (nI j1)), (2, .int (nI i1)), (3, .int k), (4, .int (σ.1.1.2.2 j1 i1)), (5, .int (c9 + 1)), (6, .int (nI m9)), (7, .int (nI m9 + (-1)))]) hl [3, 4, 5, 6, 7, 2, 1, 0] rfl); rw [hn_dec] at h9; exact h9)
      · skip
        refine lv_if_ne (tgt := 80) C0.1 C0.2.1 dX7_fits_74 (by decide) (fun h9 => absurd h9 (by decide)) (fun _ => ?_)
        refine lv_goto (tgt := 87) C0.1 C0.2.1 dX7_fits_77 (by decide) ?_
        refine lv_iinc (v := (nI m9) + (-1)) (lv' := [(7, .int ((nI m9) + (-1))), (0, .ref mo), (1, .int (nI j1)), (2, .int (nI i1)), (3, .int k), (4, .int (σ.1.1.2.2 j1 i1)), (5, .int c9), (6, .int a9)]) C0.1 C0.2.1 dX7_fits_87 hl (k := 7) rfl rfl (by decide) rfl (fun ls hl => ?_)
        refine lv_goto (tgt := 55) C0.1 C0.2.1 dX7_fits_90 (by decide) ?_
        exact ih (c9) (a9) (nI m9) _ _ _ _ ls (by omega) (by rw [← he, sp_fr, if_neg ha14]) (by rw [eV13, eV3, e8, hv_uu, hs_updd, hv_m1 (a := mo) (b := mo + 4 + j1) (by omega)] at w; exact w) (by have h9 := (lv_sub (l' := [(0, .ref mo), (1, .int (nI j1)), (2, .int (nI i1)), (3, .int k), (4, .int (σ.1.1.2.2 j1 i1)), (5, .int (c9)), (6, .int (a9)), (7, .int (nI m9 + (-1)))]) hl [1, 2, 3, 4, 5, 6, 7, 0] rfl); rw [hn_dec] at h9; exact h9)
  refine lv_iload_n C0.1 C0.2.1 dX7_fits_0 rfl (lv_at hl 1 rfl) ?_
  refine hv_cSi (As := [.int (nI j1)]) C0 w kl_X7_135 ks_X7_isRow (c_X7_isRow) (by decide) (by decide) rfl hl.1 rfl (Nat.le_of_ble_eq_true rfl) dX7_fits_1 ⟨Nat.le_refl _, Nat.le_refl _⟩ (fun x1 V2 Hq lq hp3 w => ?_)
  obtain ⟨e9, hz9⟩ := hp3
  rw [e9] at w; clear e9
  obtain ⟨ex9, -⟩ | ⟨-, hno⟩ := hz9
  rotate_left
  · exact absurd hrj hno
  rw [ex9]; clear ex9
  refine lv_if_eq (tgt := 32) C0.1 C0.2.1 dX7_fits_4 (by decide) (fun h9 => absurd h9 (by decide)) (fun _ => ?_)
  refine lv_iload_n C0.1 C0.2.1 dX7_fits_7 rfl (lv_at hl 2 rfl) ?_
  refine lv_iconst (v := 0) C0.1 C0.2.1 dX7_fits_8 (by decide) ?_
  refine lv_aload_n C0.1 C0.2.1 dX7_fits_9 rfl (lv_at hl 0 rfl) ?_
  refine gf_X7_15 C0 w hO rfl dX7_fits_10 ?_
  refine lv_iload_n C0.1 C0.2.1 dX7_fits_13 rfl (lv_at hl 1 rfl) ?_
  refine hv_iald C0 w r2 (hn_in hj1 (by decide)) dX7_fits_14 ?_
  have hc4 : (nI j1).toNatClampNeg = j1 := nI_clamp (by omega)
  rw [hc4]
  refine lv_iconst (v := 1) C0.1 C0.2.1 dX7_fits_15 (by decide) ?_
  refine lv_isub C0.1 C0.2.1 dX7_fits_16 ?_
  refine hv_cSi (As := [.int (nI i1), .int 0, .int ((nI (σ.1.1.2.1 j1)) - 1)]) C0 w kl_X7_89 ks_X7_in (c_X7_in) (by decide) (by decide) rfl hl.1 rfl (Nat.le_of_ble_eq_true rfl) dX7_fits_17 ⟨Nat.le_refl _, Nat.le_refl _⟩ (fun x5 V6 Hq lq hp7 w => ?_)
  obtain ⟨e9, hz9⟩ := hp7
  rw [e9] at w; clear e9
  obtain ⟨ex9, -⟩ | ⟨-, hno⟩ := hz9
  rotate_left
  · exact absurd hri hno
  rw [ex9]; clear ex9
  refine lv_if_eq (tgt := 32) C0.1 C0.2.1 dX7_fits_20 (by decide) (fun h9 => absurd h9 (by decide)) (fun _ => ?_)
  refine lv_iload_n C0.1 C0.2.1 dX7_fits_23 rfl (lv_at hl 3 rfl) ?_
  refine lv_iconst (v := 0) C0.1 C0.2.1 dX7_fits_24 (by decide) ?_
  refine lv_iconst (v := 1) C0.1 C0.2.1 dX7_fits_25 (by decide) ?_
  refine hv_cSi (As := [.int k, .int 0, .int 1]) C0 w kl_X7_89 ks_X7_in (c_X7_in) (by decide) (by decide) rfl hl.1 rfl (Nat.le_of_ble_eq_true rfl) dX7_fits_26 ⟨Nat.le_refl _, Nat.le_refl _⟩ (fun x8 V9 Hq lq hp10 w => ?_)
  obtain ⟨e9, hz9⟩ := hp10
  rw [e9] at w; clear e9
  rcases hz9 with ⟨rfl, hb11⟩ | ⟨rfl, hb11⟩
  · skip
    refine lv_if_ne (tgt := 34) C0.1 C0.2.1 dX7_fits_29 (by decide) (fun _ => ?_) (fun h9 => absurd h9 (by decide))
    refine lv_aload_n C0.1 C0.2.1 dX7_fits_34 rfl (lv_at hl 0 rfl) ?_
    refine gf_X7_20 C0 w hO rfl dX7_fits_35 ?_
    refine lv_iload_n C0.1 C0.2.1 dX7_fits_38 rfl (lv_at hl 1 rfl) ?_
    refine hv_aalA 6 rfl C0 w rfl r3 (hn_in hj1 (by decide)) (by rw [kj1]; exact r4 j1 hj1) dX7_fits_39 ?_
    refine lv_iload_n C0.1 C0.2.1 dX7_fits_40 rfl (lv_at hl 2 rfl) ?_
    refine hv_iald C0 w hN_j1 (hn_in hi1 (by decide)) dX7_fits_41 ?_
    have hc12 : (nI i1).toNatClampNeg = i1 := nI_clamp (by omega)
    rw [hc12]
    refine lv_istore (lv' := [(4, .int ((σ.1.1.2.2 j1) i1)), (0, .ref mo), (1, .int (nI j1)), (2, .int (nI i1)), (3, .int k)]) C0.1 C0.2.1 dX7_fits_42 hl (by decide) rfl (fun ls hl => ?_)
    refine lv_iconst (v := 0) C0.1 C0.2.1 dX7_fits_44 (by decide) ?_
    refine lv_istore (lv' := [(5, .int 0), (4, .int ((σ.1.1.2.2 j1) i1)), (0, .ref mo), (1, .int (nI j1)), (2, .int (nI i1)), (3, .int k)]) C0.1 C0.2.1 dX7_fits_45 hl (by decide) rfl (fun ls hl => ?_)
    refine lv_bipush (v := -5) C0.1 C0.2.1 dX7_fits_47 (by decide) ?_
    refine lv_istore (lv' := [(6, .int (-5)), (5, .int 0), (4, .int ((σ.1.1.2.2 j1) i1)), (0, .ref mo), (1, .int (nI j1)), (2, .int (nI i1)), (3, .int k)]) C0.1 C0.2.1 dX7_fits_49 hl (by decide) rfl (fun ls hl => ?_)
    refine lv_bipush (v := 99) C0.1 C0.2.1 dX7_fits_51 (by decide) ?_
    refine lv_istore (lv' := [(7, .int 99), (6, .int (-5)), (5, .int 0), (4, .int ((σ.1.1.2.2 j1) i1)), (0, .ref mo), (1, .int (nI j1)), (2, .int (nI i1)), (3, .int k)]) C0.1 C0.2.1 dX7_fits_53 hl (by decide) rfl (fun ls hl => ?_)
    exact loop (sp_fits_r hB hj1 hi1 hrj hri hb11) 100 0 (-5) (σ.1.1.2.2 j1 i1) ab be _ _ ls (Nat.le_refl _) rfl (by rw [hv_id hO, hs_uid, hv_id hN_j1]; exact w) (lv_sub (l' := [(0, .ref mo), (1, .int (nI j1)), (2, .int (nI i1)), (3, .int k), (4, .int (σ.1.1.2.2 j1 i1)), (5, .int 0), (6, .int (-5)), (7, .int 99)]) hl [4, 5, 6, 7, 3, 2, 1, 0] rfl)
  · skip
    refine lv_if_ne (tgt := 34) C0.1 C0.2.1 dX7_fits_29 (by decide) (fun h9 => absurd h9 (by decide)) (fun _ => ?_)
    refine lv_iconst (v := -1) C0.1 C0.2.1 dX7_fits_32 (by decide) ?_
    exact hv_iret C0 w hr hlk (by rw [sp_fits, if_neg (fun h9 => hb11 h9.2.2)]; exact ⟨rfl, hM, hv_out.rf⟩) dX7_fits_33

set_option maxHeartbeats 4000000 in
set_option maxRecDepth 100000 in
theorem n_X7_fits {l : Launch} {X : hv_X} {V : hv_V} {mo : Nat} {σ : hs_S} (hM : okM X V mo σ) (hB : hs_b σ) {r i k : Int32} (hno : ¬ (sp_in r 0 5 ∧ sp_in i 0 (nI (σ.1.1.2.1 r.toNatClampNeg) - 1))) : hv_Mi l X 220 yX7_fits cX7_fits 8 .int V [.ref mo, .int r, .int i, .int k] (fun y V1 => y = sp_fits σ r i k ∧ okM X V1 mo σ ∧ hv_out V V1 mo (mo + 50)) := by
  refine hv_enter (by decide) (Nat.le_of_ble_eq_true rfl) ?_
  intro p e s m below meth c ls C0 hr hlk hnm w hl
  have hl : lv_has ls 8 [(0, .ref mo), (1, .int r), (2, .int i), (3, .int k)] := hl
  obtain ⟨ab, be, pl, cl, sg, ik, hO, hRw, hTx, hSc, hSe, hEv, hBk, hIm, hTp⟩ := id hM
  obtain ⟨r1, r2, ⟨rf, r3, r4⟩, r5⟩ := id hRw
  obtain ⟨⟨wd, s1⟩, ⟨td, s2⟩, ⟨sn, s3⟩, ⟨ut, s4⟩, kn, s5⟩ := id hSc
  obtain ⟨sf, sg9, sh, e1, e2, e3, ea⟩ := id hSe
  obtain ⟨ef, eg, v1, v2, va⟩ := id hEv
  obtain ⟨bf, bg, b1, b2, ba⟩ := id hBk
  obtain ⟨t1, t2, ⟨tf, t3, t4⟩, t5⟩ := id hTp
  have hbR := hB.1.1
  refine lv_iload_n C0.1 C0.2.1 dX7_fits_0 rfl (lv_at hl 1 rfl) ?_
  refine hv_cSi (As := [.int r]) C0 w kl_X7_135 ks_X7_isRow (c_X7_isRow) (by decide) (by decide) rfl hl.1 rfl (Nat.le_of_ble_eq_true rfl) dX7_fits_1 ⟨Nat.le_refl _, Nat.le_refl _⟩ (fun x1 V2 Hq lq hp3 w => ?_)
  obtain ⟨e9, hz9⟩ := hp3
  rw [e9] at w; clear e9
  rcases hz9 with ⟨rfl, hb4⟩ | ⟨rfl, hb4⟩
  · skip
    have ihb4 := hb4
    obtain ⟨j1, hj1, rfl⟩ := sp_inN (k := 5) (by decide) hb4
    have kj1 : (nI j1).toNatClampNeg = j1 := nI_clamp (by omega)
    have hN_j1 : V (mo + 4 + j1) = some (nE X (σ.1.1.2.2 j1)) := r5 j1 hj1
    have hn_j1 : σ.1.1.2.1 j1 ≤ 16 := (hbR j1 hj1).2.1
    refine lv_if_eq (tgt := 32) C0.1 C0.2.1 dX7_fits_4 (by decide) (fun h9 => absurd h9 (by decide)) (fun _ => ?_)
    refine lv_iload_n C0.1 C0.2.1 dX7_fits_7 rfl (lv_at hl 2 rfl) ?_
    refine lv_iconst (v := 0) C0.1 C0.2.1 dX7_fits_8 (by decide) ?_
    refine lv_aload_n C0.1 C0.2.1 dX7_fits_9 rfl (lv_at hl 0 rfl) ?_
    refine gf_X7_15 C0 w hO rfl dX7_fits_10 ?_
    refine lv_iload_n C0.1 C0.2.1 dX7_fits_13 rfl (lv_at hl 1 rfl) ?_
    refine hv_iald C0 w r2 (hn_in hj1 (by decide)) dX7_fits_14 ?_
    have hc5 : (nI j1).toNatClampNeg = j1 := nI_clamp (by omega)
    rw [hc5]
    refine lv_iconst (v := 1) C0.1 C0.2.1 dX7_fits_15 (by decide) ?_
    refine lv_isub C0.1 C0.2.1 dX7_fits_16 ?_
    refine hv_cSi (As := [.int i, .int 0, .int ((nI (σ.1.1.2.1 j1)) - 1)]) C0 w kl_X7_89 ks_X7_in (c_X7_in) (by decide) (by decide) rfl hl.1 rfl (Nat.le_of_ble_eq_true rfl) dX7_fits_17 ⟨Nat.le_refl _, Nat.le_refl _⟩ (fun x6 V7 Hq lq hp8 w => ?_)
    obtain ⟨e9, hz9⟩ := hp8
    rw [e9] at w; clear e9
    rcases hz9 with ⟨rfl, hb9⟩ | ⟨rfl, hb9⟩
    · skip
      refine lv_if_eq (tgt := 32) C0.1 C0.2.1 dX7_fits_20 (by decide) (fun h9 => absurd h9 (by decide)) (fun _ => ?_)
      exact absurd (And.intro ihb4 (by rw [kj1]; exact hb9)) hno
    · skip
      refine lv_if_eq (tgt := 32) C0.1 C0.2.1 dX7_fits_20 (by decide) (fun _ => ?_) (fun h9 => absurd h9 (by decide))
      refine lv_iconst (v := -1) C0.1 C0.2.1 dX7_fits_32 (by decide) ?_
      exact hv_iret C0 w hr hlk (by rw [sp_fits, if_neg (fun h9 => hno ⟨h9.1, h9.2.1⟩)]; exact ⟨rfl, hM, hv_out.rf⟩) dX7_fits_33
  · skip
    refine lv_if_eq (tgt := 32) C0.1 C0.2.1 dX7_fits_4 (by decide) (fun _ => ?_) (fun h9 => absurd h9 (by decide))
    refine lv_iconst (v := -1) C0.1 C0.2.1 dX7_fits_32 (by decide) ?_
    exact hv_iret C0 w hr hlk (by rw [sp_fits, if_neg (fun h9 => hno ⟨h9.1, h9.2.1⟩)]; exact ⟨rfl, hM, hv_out.rf⟩) dX7_fits_33

theorem m_X7_fits {l : Launch} {X : hv_X} {V : hv_V} {mo : Nat} {σ : hs_S} (hM : okM X V mo σ) (hB : hs_b σ) {r i k : Int32} : hv_Mi l X 220 yX7_fits cX7_fits 8 .int V [.ref mo, .int r, .int i, .int k] (fun y V1 => y = sp_fits σ r i k ∧ okM X V1 mo σ ∧ hv_out V V1 mo (mo + 50)) := by
  by_cases h : sp_in r 0 5 ∧ sp_in i 0 (nI (σ.1.1.2.1 r.toNatClampNeg) - 1)
  · obtain ⟨h1, h3⟩ := h
    obtain ⟨j1, hj1, rfl⟩ := sp_inN (k := 5) (by decide) h1
    have kj1 : (nI j1).toNatClampNeg = j1 := nI_clamp (by omega)
    rw [kj1] at h3
    have hn := (hB.1.1 j1 hj1).2.1
    obtain ⟨i1, hi1, rfl⟩ := nI_of (x := i) (fun h9 => absurd h3.1 (Int32.not_le.mpr h9))
    have hi2 : i1 < 16 := by
      have h4 := Int32.le_iff_toInt_le.mp h3.2
      have e1 : (1 : Int32).toInt = 1 := by decide
      rw [nI_toInt hi1, Int32.toInt_sub, nI_toInt (by omega), e1, Int.bmod_eq_of_le (by omega) (by omega)] at h4
      omega
    exact c_X7_fits hM hB hj1 hi2 h1 h3
  · exact n_X7_fits hM hB h
