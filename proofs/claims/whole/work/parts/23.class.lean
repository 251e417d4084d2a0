theorem hs_predI {n : Nat} (h : n < 2 ^ 31) : (nI n - 1).toInt = (n : Int) - 1 := by
  rcases Nat.eq_zero_or_pos n with rfl | q
  · decide
  · obtain ⟨k, rfl⟩ : ∃ k, n = k + 1 := ⟨n - 1, by omega⟩
    rw [nI_pred, nI_toInt (by omega)]; omega
theorem hs_inm {i : Int32} {n : Nat} (h : n < 2 ^ 31) : sp_in i 0 (nI n - 1) ↔ vp_in i n := by
  rw [vp_in_iff]
  show (0 ≤ i ∧ i ≤ nI n - 1) ↔ _
  rw [Int32.le_iff_toInt_le, Int32.le_iff_toInt_le, hs_predI h]
  show (0 ≤ i.toInt ∧ _) ↔ _
  omega
abbrev sp_hold (i n : Int32) (k : Nat) : Prop := 0 ≤ i ∧ 0 ≤ n ∧ i.toInt + n.toInt ≤ (k : Int)
theorem hs_hold {i n : Int32} {k : Nat} (hk : k < 2 ^ 31) : (0 ≤ i ∧ 0 ≤ n ∧ i.toInt64 + n.toInt64 ≤ (nI k).toInt64) ↔ sp_hold i n k := by
  have h1 : (i.toInt64 + n.toInt64).toInt = i.toInt + n.toInt := by
    rw [Int64.toInt_add, Int32.toInt_toInt64, Int32.toInt_toInt64]
    have a1 := Int32.le_toInt i
    have a2 := Int32.toInt_lt i
    have b1 := Int32.le_toInt n
    have b2 := Int32.toInt_lt n
    apply Int.bmod_eq_of_le <;> omega
  rw [Int64.le_iff_toInt_le, h1, Int32.toInt_toInt64, nI_toInt hk]
theorem hv_w.as {X : hv_X} {s : State} {V : hv_V} {H : Heap} {l : List Loc} (w : hv_w X s V H l) {a n : Nat} {f g : Nat → Int32} (hV : V a = some (iE X n f)) (h : ∀ i, i < n → f i = g i) : hv_w X s (hv_up V a (iE X n g)) H l := by
  refine ⟨w.1.as hV (fun q => ?_), w.2⟩
  have e : (vp_cell (X.2.1 0) (n, .inl f)) = vp_cell (X.2.1 0) (n, .inl g) := by
    rw [vp_cell_i, vp_cell_i]
    unfold arrV
    congr 2
    funext j
    show Value.int (f j.val) = Value.int (g j.val)
    rw [h j.val j.isLt]
  show H[a]? = some (vp_cell (X.2.1 0) (n, .inl g))
  rw [← e]
  exact q
def sp_shift (σ : hs_S) (t i o j n : Int32) : Int32 × hs_S := if sp_in t 0 5 ∧ sp_in o 0 5 then (if σ.2.2.2.1 t.toNatClampNeg = -1 ∨ σ.2.2.2.1 o.toNatClampNeg = -1 then (-11, σ) else if σ.2.2.2.1 t.toNatClampNeg = σ.2.2.2.1 o.toNatClampNeg then (if sp_hold i n (σ.2.2.2.2.1 t.toNatClampNeg) ∧ sp_hold j n (σ.2.2.2.2.1 o.toNatClampNeg) then (n, (σ.1, σ.2.1, σ.2.2.1, hs_tape σ.2.2.2 o.toNatClampNeg (σ.2.2.2.1 o.toNatClampNeg) (σ.2.2.2.2.1 o.toNatClampNeg) (va_cpy (σ.2.2.2.2.2 t.toNatClampNeg) (σ.2.2.2.2.2 o.toNatClampNeg) i.toNatClampNeg j.toNatClampNeg n.toNatClampNeg))) else (-13, σ)) else (-12, σ)) else (-1, σ)
def sp_num (σ : hs_S) (p : Int32) : Int32 := σ.1.1.2.2 (p / 100).toNatClampNeg (p - p / 100 * 100).toNatClampNeg
def sp_book (σ : hs_S) (p v : Int32) : Int32 × hs_S := if p = -1 then (0, ((σ.1.1, σ.1.2.1, σ.1.2.2.1, hs_nil σ.1.2.2.2), σ.2)) else if sp_spot σ p then (if sp_in v 0 1000000000 then (if σ.1.2.2.2.1 < 8 then (nI (σ.1.2.2.2.1 + 1), ((σ.1.1, σ.1.2.1, σ.1.2.2.1, hs_put σ.1.2.2.2 p v 0), σ.2)) else (-4, σ)) else (-2, σ)) else (-1, σ)
def sp_lk (σ : hs_S) : Nat → Nat → Int32
  | 0, _ => -5
  | m + 1, k => if ¬ sp_spot σ (σ.1.2.2.2.2.1 k) ∨ ¬ sp_num σ (σ.1.2.2.2.2.1 k) = σ.1.2.2.2.2.2.1 k then nI k else sp_lk σ m (k + 1)
def sp_looked (σ : hs_S) : Int32 := sp_lk σ σ.1.2.2.2.1 0
def sp_beginning (σ : hs_S) (r m w k : Int32) : Int64 := if sp_in r 0 5 ∧ sp_in m 0 (nI (σ.1.1.2.1 r.toNatClampNeg)) ∧ sp_in w 0 1 ∧ sp_in k 0 1 then (if w = 0 then fx_part (sp_w σ r.toNatClampNeg m.toNatClampNeg) k else fx_part (fx_takeAway (sp_w σ r.toNatClampNeg (σ.1.1.2.1 r.toNatClampNeg)) (sp_w σ r.toNatClampNeg m.toNatClampNeg)) k) else -9223372036854775808
set_option maxHeartbeats 4000000 in
set_option maxRecDepth 100000 in
theorem m_X6_peek {l : Launch} {X : hv_X} {V : hv_V} {x : Nat} {σ : hs_S} (hX : okX X V x σ) (hB : hs_b σ) {t i : Int32} : hv_Ml l X 6 yX6_peek cX6_peek 3 V [.ref x, .int t, .int i] (fun y V1 => y = sp_peek σ t i ∧ okX X V1 x σ ∧ hv_out V V1 x (x + 92)) := by
  refine hv_enter (by decide) (Nat.le_of_ble_eq_true rfl) ?_
  intro p e s m below meth c ls C0 hr hlk hnm w hl
  have hl : lv_has ls 3 [(0, .ref x), (1, .int t), (2, .int i)] := hl
  obtain ⟨kk0, hX0, hPg, hKp, hTx, hTp, hSc⟩ := id hX
  obtain ⟨hP0, ⟨rf, hP1, hP2⟩, hP3, hP4, hP5, hP6⟩ := id hPg
  obtain ⟨⟨tf, hT1, hT2⟩, hT3⟩ := id hTp
  obtain ⟨⟨tk, tn, tg, hS1, hS2⟩, ⟨LF, hS3⟩, ⟨RF, hS4⟩, ⟨bf, hS5, hS6⟩, hS7, uf, hS8⟩ := id hSc
  have hbR := hB.1.1
  obtain ⟨sf, sg, sh, hL0, hL1, hL2, hL3, hLa⟩ := id hP4
  obtain ⟨ef, eg, eh, hM0, hM1, hM2, hM3, hMa⟩ := id hP5
  obtain ⟨kf, kg, kh, hK0, hK1, hK2, hK3, hKa⟩ := id hP6
  obtain ⟨pl, cl, wd, vl, hQ0, hQ1, hQ2, hQ3⟩ := id hTx
  refine lv_iload_n C0.1 C0.2.1 dX6_peek_0 rfl (lv_at hl 1 rfl) ?_
  refine hv_cSi (As := [.int t]) C0 w kl_X6_232 ks_X6_isTape (c_X6_isTape) (by decide) (by decide) rfl hl.1 rfl (Nat.le_of_ble_eq_true rfl) dX6_peek_1 ⟨Nat.le_refl _, Nat.le_refl _⟩ (fun x1 V2 Hq lq hp3 w => ?_)
  obtain ⟨e9, hz9⟩ := hp3
  rw [e9] at w; clear e9
  rcases hz9 with ⟨rfl, hb4⟩ | ⟨rfl, hb4⟩
  · skip
    have ihb4 := hb4
    obtain ⟨j1, hj1, rfl⟩ := sp_inN (k := 5) (by decide) hb4
    have kj1 : (nI j1).toNatClampNeg = j1 := nI_clamp (by omega)
    have hA_j1 := (hT3 j1 hj1).1
    have hI_j1 := (hT3 j1 hj1).2
    have hz_j1 : σ.2.2.2.2.1 j1 ≤ 60 := (hB.2.2.2.2 j1 hj1).2.1
    refine lv_if_eq (tgt := 26) C0.1 C0.2.1 dX6_peek_4 (by decide) (fun h9 => absurd h9 (by decide)) (fun _ => ?_)
    refine lv_iload_n C0.1 C0.2.1 dX6_peek_7 rfl (lv_at hl 2 rfl) ?_
    refine lv_iconst (v := 0) C0.1 C0.2.1 dX6_peek_8 (by decide) ?_
    refine lv_aload_n C0.1 C0.2.1 dX6_peek_9 rfl (lv_at hl 0 rfl) ?_
    refine gf_X6_30 C0 w hX0 rfl dX6_peek_10 ?_
    refine lv_iload_n C0.1 C0.2.1 dX6_peek_13 rfl (lv_at hl 1 rfl) ?_
    refine hv_aald 4 C0 w rfl hT1 (hn_in hj1 (by decide)) (by rw [kj1]; exact hT2 j1 hj1) dX6_peek_14 ?_
    refine gf_X6_238 C0 w hA_j1 rfl dX6_peek_15 ?_
    refine lv_iconst (v := 1) C0.1 C0.2.1 dX6_peek_18 (by decide) ?_
    refine lv_isub C0.1 C0.2.1 dX6_peek_19 ?_
    refine hv_cSi (As := [.int i, .int 0, .int ((nI (σ.2.2.2.2.1 j1)) - 1)]) C0 w kl_X6_68 ks_X6_within (c_X6_within) (by decide) (by decide) rfl hl.1 rfl (Nat.le_of_ble_eq_true rfl) dX6_peek_20 ⟨Nat.le_refl _, Nat.le_refl _⟩ (fun x5 V6 Hq lq hp7 w => ?_)
    obtain ⟨e9, hz9⟩ := hp7
    rw [e9] at w; clear e9
    rcases hz9 with ⟨rfl, hb8⟩ | ⟨rfl, hb8⟩
    · skip
      refine lv_if_ne (tgt := 30) C0.1 C0.2.1 dX6_peek_23 (by decide) (fun _ => ?_) (fun h9 => absurd h9 (by decide))
      have hin : vp_in i 60 := fun h9 => (hs_inm (n := σ.2.2.2.2.1 j1) (by omega)).mp hb8 (h9.elim Or.inl (fun h8 => Or.inr (by omega)))
      refine lv_aload_n C0.1 C0.2.1 dX6_peek_30 rfl (lv_at hl 0 rfl) ?_
      refine gf_X6_30 C0 w hX0 rfl dX6_peek_31 ?_
      refine lv_iload_n C0.1 C0.2.1 dX6_peek_34 rfl (lv_at hl 1 rfl) ?_
      refine hv_aald 4 C0 w rfl hT1 (hn_in hj1 (by decide)) (by rw [kj1]; exact hT2 j1 hj1) dX6_peek_35 ?_
      refine gf_X6_239 C0 w hA_j1 rfl dX6_peek_36 ?_
      refine lv_iload_n C0.1 C0.2.1 dX6_peek_39 rfl (lv_at hl 2 rfl) ?_
      refine hv_lald C0 w hI_j1 (hin) dX6_peek_40 ?_
      exact hv_lret C0 w hr hlk (by rw [sp_peek, kj1, if_pos ⟨ihb4, (hs_inm (by omega)).mp hb8⟩]; exact ⟨rfl, hX, hv_out.rf⟩) dX6_peek_41
    · skip
      refine lv_if_ne (tgt := 30) C0.1 C0.2.1 dX6_peek_23 (by decide) (fun h9 => absurd h9 (by decide)) (fun _ => ?_)
      refine lv_ldc2 C0.1 C0.2.1 C0.2.2.2.1 (C0.2.2.2.2.1 _ kk_X6_148) dX6_peek_26 ?_
      exact hv_lret C0 w hr hlk (by rw [sp_peek, kj1, if_neg (fun h9 => hb8 ((hs_inm (by omega)).mpr h9.2))]; exact ⟨rfl, hX, hv_out.rf⟩) dX6_peek_29
  · skip
    refine lv_if_eq (tgt := 26) C0.1 C0.2.1 dX6_peek_4 (by decide) (fun _ => ?_) (fun h9 => absurd h9 (by decide))
    refine lv_ldc2 C0.1 C0.2.1 C0.2.2.2.1 (C0.2.2.2.2.1 _ kk_X6_148) dX6_peek_26 ?_
    exact hv_lret C0 w hr hlk (by rw [sp_peek, if_neg (fun h9 => hb4 h9.1)]; exact ⟨rfl, hX, hv_out.rf⟩) dX6_peek_29

set_option maxHeartbeats 4000000 in
set_option maxRecDepth 100000 in
theorem m_X6_shift {l : Launch} {X : hv_X} {V : hv_V} {x : Nat} {σ : hs_S} (hX : okX X V x σ) (hB : hs_b σ) {t i o j n : Int32} : hv_Mi l X 6 yX6_shift cX6_shift 8 .int V [.ref x, .int t, .int i, .int o, .int j, .int n] (fun y V1 => y = (sp_shift σ t i o j n).1 ∧ okX X V1 x (sp_shift σ t i o j n).2 ∧ hv_out V V1 x (x + 92)) := by
  refine hv_enter (by decide) (Nat.le_of_ble_eq_true rfl) ?_
  intro p e s m below meth c ls C0 hr hlk hnm w hl
  have hl : lv_has ls 8 [(0, .ref x), (1, .int t), (2, .int i), (3, .int o), (4, .int j), (5, .int n)] := hl
  obtain ⟨kk0, hX0, hPg, hKp, hTx, hTp, hSc⟩ := id hX
  obtain ⟨hP0, ⟨rf, hP1, hP2⟩, hP3, hP4, hP5, hP6⟩ := id hPg
  obtain ⟨⟨tf, hT1, hT2⟩, hT3⟩ := id hTp
  obtain ⟨⟨tk, tn, tg, hS1, hS2⟩, ⟨LF, hS3⟩, ⟨RF, hS4⟩, ⟨bf, hS5, hS6⟩, hS7, uf, hS8⟩ := id hSc
  have hbR := hB.1.1
  obtain ⟨sf, sg, sh, hL0, hL1, hL2, hL3, hLa⟩ := id hP4
  obtain ⟨ef, eg, eh, hM0, hM1, hM2, hM3, hMa⟩ := id hP5
  obtain ⟨kf, kg, kh, hK0, hK1, hK2, hK3, hKa⟩ := id hP6
  obtain ⟨pl, cl, wd, vl, hQ0, hQ1, hQ2, hQ3⟩ := id hTx
  refine lv_iload_n C0.1 C0.2.1 dX6_shift_0 rfl (lv_at hl 1 rfl) ?_
  refine hv_cSi (As := [.int t]) C0 w kl_X6_232 ks_X6_isTape (c_X6_isTape) (by decide) (by decide) rfl hl.1 rfl (Nat.le_of_ble_eq_true rfl) dX6_shift_1 ⟨Nat.le_refl _, Nat.le_refl _⟩ (fun x1 V2 Hq lq hp3 w => ?_)
  obtain ⟨e9, hz9⟩ := hp3
  rw [e9] at w; clear e9
  rcases hz9 with ⟨rfl, hb4⟩ | ⟨rfl, hb4⟩
  · skip
    have ihb4 := hb4
    obtain ⟨j1, hj1, rfl⟩ := sp_inN (k := 5) (by decide) hb4
    have kj1 : (nI j1).toNatClampNeg = j1 := nI_clamp (by omega)
    have hA_j1 := (hT3 j1 hj1).1
    have hI_j1 := (hT3 j1 hj1).2
    have hz_j1 : σ.2.2.2.2.1 j1 ≤ 60 := (hB.2.2.2.2 j1 hj1).2.1
    refine lv_if_eq (tgt := 14) C0.1 C0.2.1 dX6_shift_4 (by decide) (fun h9 => absurd h9 (by decide)) (fun _ => ?_)
    refine lv_iload_n C0.1 C0.2.1 dX6_shift_7 rfl (lv_at hl 3 rfl) ?_
    refine hv_cSi (As := [.int o]) C0 w kl_X6_232 ks_X6_isTape (c_X6_isTape) (by decide) (by decide) rfl hl.1 rfl (Nat.le_of_ble_eq_true rfl) dX6_shift_8 ⟨Nat.le_refl _, Nat.le_refl _⟩ (fun x5 V6 Hq lq hp7 w => ?_)
    obtain ⟨e9, hz9⟩ := hp7
    rw [e9] at w; clear e9
    rcases hz9 with ⟨rfl, hb8⟩ | ⟨rfl, hb8⟩
    · skip
      have ihb8 := hb8
      obtain ⟨j2, hj2, rfl⟩ := sp_inN (k := 5) (by decide) hb8
      have kj2 : (nI j2).toNatClampNeg = j2 := nI_clamp (by omega)
      have hA_j2 := (hT3 j2 hj2).1
      have hI_j2 := (hT3 j2 hj2).2
      have hz_j2 : σ.2.2.2.2.1 j2 ≤ 60 := (hB.2.2.2.2 j2 hj2).2.1
      refine lv_if_ne (tgt := 16) C0.1 C0.2.1 dX6_shift_11 (by decide) (fun _ => ?_) (fun h9 => absurd h9 (by decide))
      refine lv_aload_n C0.1 C0.2.1 dX6_shift_16 rfl (lv_at hl 0 rfl) ?_
      refine gf_X6_30 C0 w hX0 rfl dX6_shift_17 ?_
      refine lv_iload_n C0.1 C0.2.1 dX6_shift_20 rfl (lv_at hl 1 rfl) ?_
      refine hv_aald 4 C0 w rfl hT1 (hn_in hj1 (by decide)) (by rw [kj1]; exact hT2 j1 hj1) dX6_shift_21 ?_
      refine lv_astore (lv' := [(6, .ref (x + 64 + 2 * j1)), (0, .ref x), (1, .int (nI j1)), (2, .int i), (3, .int (nI j2)), (4, .int j), (5, .int n)]) C0.1 C0.2.1 dX6_shift_22 hl (by decide) rfl (fun ls hl => ?_)
      refine lv_aload_n C0.1 C0.2.1 dX6_shift_24 rfl (lv_at hl 1 rfl) ?_
      refine gf_X6_30 C0 w hX0 rfl dX6_shift_25 ?_
      refine lv_iload_n C0.1 C0.2.1 dX6_shift_28 rfl (lv_at hl 4 rfl) ?_
      refine hv_aald 4 C0 w rfl hT1 (hn_in hj2 (by decide)) (by rw [kj2]; exact hT2 j2 hj2) dX6_shift_29 ?_
      refine lv_astore (lv' := [(7, .ref (x + 64 + 2 * j2)), (6, .ref (x + 64 + 2 * j1)), (0, .ref x), (1, .int (nI j1)), (2, .int i), (3, .int (nI j2)), (4, .int j), (5, .int n)]) C0.1 C0.2.1 dX6_shift_30 hl (by decide) rfl (fun ls hl => ?_)
      refine lv_aload C0.1 C0.2.1 dX6_shift_32 (lv_at hl 1 rfl) ?_
      refine gf_X6_235 C0 w hA_j1 rfl dX6_shift_34 ?_
      refine lv_iconst (v := -1) C0.1 C0.2.1 dX6_shift_37 (by decide) ?_
      refine lv_icmp_eq (tgt := 50) C0.1 C0.2.1 dX6_shift_38 (by decide) (fun c_38 => ?_) (fun c_38 => ?_)
      · skip
        refine lv_bipush (v := -11) C0.1 C0.2.1 dX6_shift_50 (by decide) ?_
        exact hv_iret C0 w hr hlk (by rw [sp_shift, if_pos ⟨ihb4, ihb8⟩, kj1, kj2, if_pos (Or.inl c_38)]; exact ⟨rfl, hX, hv_out.rf⟩) dX6_shift_52
      · skip
        refine lv_aload C0.1 C0.2.1 dX6_shift_41 (lv_at hl 0 rfl) ?_
        refine gf_X6_235 C0 w hA_j2 rfl dX6_shift_43 ?_
        refine lv_iconst (v := -1) C0.1 C0.2.1 dX6_shift_46 (by decide) ?_
        refine lv_icmp_ne (tgt := 53) C0.1 C0.2.1 dX6_shift_47 (by decide) (fun c_47 => ?_) (fun c_47 => ?_)
        · skip
          refine lv_aload C0.1 C0.2.1 dX6_shift_53 (lv_at hl 1 rfl) ?_
          refine gf_X6_235 C0 w hA_j1 rfl dX6_shift_55 ?_
          refine lv_aload C0.1 C0.2.1 dX6_shift_58 (lv_at hl 0 rfl) ?_
          refine gf_X6_235 C0 w hA_j2 rfl dX6_shift_60 ?_
          refine lv_icmp_eq (tgt := 69) C0.1 C0.2.1 dX6_shift_63 (by decide) (fun c_63 => ?_) (fun c_63 => ?_)
          · skip
            refine lv_aload C0.1 C0.2.1 dX6_shift_69 (lv_at hl 1 rfl) ?_
            refine lv_iload_n C0.1 C0.2.1 dX6_shift_71 rfl (lv_at hl 4 rfl) ?_
            refine lv_iload C0.1 C0.2.1 dX6_shift_72 (lv_at hl 7 rfl) ?_
            refine hv_cVi C0 w kl_X6_258 kv_X5_holds rfl hA_j1 (c_X5_holds hA_j1 hI_j1) (by decide) (by decide) rfl hl.1 rfl (Nat.le_of_ble_eq_true rfl) dX6_shift_74 ⟨Nat.le_refl _, Nat.le_refl _⟩ (fun x9 V10 Hq lq hp11 w => ?_)
            obtain ⟨e9, hz9⟩ := hp11
            rw [e9] at w; clear e9
            rcases hz9 with ⟨rfl, ho12⟩ | ⟨rfl, ho12⟩
            · skip
              rw [hs_hold (show σ.2.2.2.2.1 j1 < 2 ^ 31 by omega)] at ho12
              refine lv_if_eq (tgt := 92) C0.1 C0.2.1 dX6_shift_77 (by decide) (fun h9 => absurd h9 (by decide)) (fun _ => ?_)
              refine lv_aload C0.1 C0.2.1 dX6_shift_80 (lv_at hl 0 rfl) ?_
              refine lv_iload C0.1 C0.2.1 dX6_shift_82 (lv_at hl 6 rfl) ?_
              refine lv_iload C0.1 C0.2.1 dX6_shift_84 (lv_at hl 7 rfl) ?_
              refine hv_cVi C0 w kl_X6_258 kv_X5_holds rfl hA_j2 (c_X5_holds hA_j2 hI_j2) (by decide) (by decide) rfl hl.1 rfl (Nat.le_of_ble_eq_true rfl) dX6_shift_86 ⟨Nat.le_refl _, Nat.le_refl _⟩ (fun x13 V14 Hq lq hp15 w => ?_)
              obtain ⟨e9, hz9⟩ := hp15
              rw [e9] at w; clear e9
              rcases hz9 with ⟨rfl, ho16⟩ | ⟨rfl, ho16⟩
              · skip
                rw [hs_hold (show σ.2.2.2.2.1 j2 < 2 ^ 31 by omega)] at ho16
                refine lv_if_ne (tgt := 95) C0.1 C0.2.1 dX6_shift_89 (by decide) (fun _ => ?_) (fun h9 => absurd h9 (by decide))
                refine lv_aload C0.1 C0.2.1 dX6_shift_95 (lv_at hl 1 rfl) ?_
                refine gf_X6_239 C0 w hA_j1 rfl dX6_shift_97 ?_
                refine lv_iload_n C0.1 C0.2.1 dX6_shift_100 rfl (lv_at hl 4 rfl) ?_
                refine lv_aload C0.1 C0.2.1 dX6_shift_101 (lv_at hl 0 rfl) ?_
                refine gf_X6_239 C0 w hA_j2 rfl dX6_shift_103 ?_
                refine lv_iload C0.1 C0.2.1 dX6_shift_106 (lv_at hl 6 rfl) ?_
                refine lv_iload C0.1 C0.2.1 dX6_shift_108 (lv_at hl 7 rfl) ?_
                obtain ⟨a1, a2, a3⟩ := id ho12
                obtain ⟨b1, b2, b3⟩ := id ho16
                have qi : ¬ i < 0 := Int32.not_lt.mpr a1
                have qn : ¬ n < 0 := Int32.not_lt.mpr a2
                have qj : ¬ j < 0 := Int32.not_lt.mpr b1
                rw [hs_nn qi, hs_nn qn] at a3
                rw [hs_nn qj, hs_nn qn] at b3
                refine hv_copyl C0 w hl.1 kj_X6_262 hI_j1 hI_j2 qi qj qn (by omega) (by omega) (by decide) (Nat.le_of_ble_eq_true rfl) dX6_shift_110 (fun Hq lq w => ?_)
                obtain ⟨V9, eV9⟩ : ∃ V9, V9 = hv_up V (x + 64 + 2 * j2 + 1) (jE X (va_cpy (σ.2.2.2.2.2 j1) (σ.2.2.2.2.2 j2) i.toNatClampNeg j.toNatClampNeg n.toNatClampNeg)) := ⟨_, rfl⟩
                have w : hv_w X s V9 Hq lq := by rw [eV9]; exact w
                refine lv_iload C0.1 C0.2.1 dX6_shift_113 (lv_at hl 7 rfl) ?_
                exact hv_iret C0 w hr hlk (by rw [sp_shift, if_pos ⟨ihb4, ihb8⟩, kj1, kj2, if_neg (fun h9 => h9.elim c_38 c_47), if_pos c_63, if_pos ⟨ho12, ho16⟩]; exact ⟨rfl, ⟨kk0, (by rw [eV9, hv_un (by omega)] : _ = V x).trans hX0, hPg.fr (fun q h7 h8 => by rw [eV9, hv_un (by omega)]), hKp.fr (fun q h7 h8 => by rw [eV9, hv_un (by omega)]), hTx.fr (fun q h7 h8 => by rw [eV9, hv_un (by omega)]), hTp.set hj2 (by rw [eV9, hv_un (by omega)]) ((by rw [eV9, hv_un (by omega)] : _ = V (x + 64 + 2 * j2)).trans hA_j2) (by rw [eV9]; exact hv_us) (fun q h7 h8 => by rw [eV9, hv_un (by omega)]) (fun q h7 h8 => by rw [eV9, hv_un (by omega)]), hSc.fr (fun q h7 h8 => by rw [eV9, hv_un (by omega)]) (fun q h7 h8 => by rw [eV9, hv_un (by omega)])⟩, (fun q h7 => by rw [eV9, hv_un (by omega)])⟩) dX6_shift_115
              · skip
                rw [hs_hold (show σ.2.2.2.2.1 j2 < 2 ^ 31 by omega)] at ho16
                refine lv_if_ne (tgt := 95) C0.1 C0.2.1 dX6_shift_89 (by decide) (fun h9 => absurd h9 (by decide)) (fun _ => ?_)
                refine lv_bipush (v := -13) C0.1 C0.2.1 dX6_shift_92 (by decide) ?_
                exact hv_iret C0 w hr hlk (by rw [sp_shift, if_pos ⟨ihb4, ihb8⟩, kj1, kj2, if_neg (fun h9 => h9.elim c_38 c_47), if_pos c_63, if_neg (fun h9 => ho16 h9.2)]; exact ⟨rfl, hX, hv_out.rf⟩) dX6_shift_94
            · skip
              rw [hs_hold (show σ.2.2.2.2.1 j1 < 2 ^ 31 by omega)] at ho12
              refine lv_if_eq (tgt := 92) C0.1 C0.2.1 dX6_shift_77 (by decide) (fun _ => ?_) (fun h9 => absurd h9 (by decide))
              refine lv_bipush (v := -13) C0.1 C0.2.1 dX6_shift_92 (by decide) ?_
              exact hv_iret C0 w hr hlk (by rw [sp_shift, if_pos ⟨ihb4, ihb8⟩, kj1, kj2, if_neg (fun h9 => h9.elim c_38 c_47), if_pos c_63, if_neg (fun h9 => ho12 h9.1)]; exact ⟨rfl, hX, hv_out.rf⟩) dX6_shift_94
          · skip
            refine lv_bipush (v := -12) C0.1 C0.2.1 dX6_shift_66 (by decide) ?_
            exact hv_iret C0 w hr hlk (by rw [sp_shift, if_pos ⟨ihb4, ihb8⟩, kj1, kj2, if_neg (fun h9 => h9.elim c_38 c_47), if_neg c_63]; exact ⟨rfl, hX, hv_out.rf⟩) dX6_shift_68
        · skip
          refine lv_bipush (v := -11) C0.1 C0.2.1 dX6_shift_50 (by decide) ?_
          exact hv_iret C0 w hr hlk (by rw [sp_shift, if_pos ⟨ihb4, ihb8⟩, kj1, kj2, if_pos (Or.inr c_47)]; exact ⟨rfl, hX, hv_out.rf⟩) dX6_shift_52
    · skip
      refine lv_if_ne (tgt := 16) C0.1 C0.2.1 dX6_shift_11 (by decide) (fun h9 => absurd h9 (by decide)) (fun _ => ?_)
      refine lv_iconst (v := -1) C0.1 C0.2.1 dX6_shift_14 (by decide) ?_
      exact hv_iret C0 w hr hlk (by rw [sp_shift, if_neg (fun h9 => hb8 h9.2)]; exact ⟨rfl, hX, hv_out.rf⟩) dX6_shift_15
  · skip
    refine lv_if_eq (tgt := 14) C0.1 C0.2.1 dX6_shift_4 (by decide) (fun _ => ?_) (fun h9 => absurd h9 (by decide))
    refine lv_iconst (v := -1) C0.1 C0.2.1 dX6_shift_14 (by decide) ?_
    exact hv_iret C0 w hr hlk (by rw [sp_shift, if_neg (fun h9 => hb4 h9.1)]; exact ⟨rfl, hX, hv_out.rf⟩) dX6_shift_15

set_option maxHeartbeats 4000000 in
set_option maxRecDepth 100000 in
theorem m_X6_copies {l : Launch} {X : hv_X} {V : hv_V} {x : Nat} {σ : hs_S} (hX : okX X V x σ) (hB : hs_b σ) {r f : Int32} : hv_Mi l X 6 yX6_copies cX6_copies 3 .int V [.ref x, .int r, .int f] (fun y V1 => y = (sp_copies σ r f).1 ∧ okX X V1 x (sp_copies σ r f).2 ∧ hv_out V V1 x (x + 92)) := by
  refine hv_enter (by decide) (Nat.le_of_ble_eq_true rfl) ?_
  intro p e s m below meth c ls C0 hr hlk hnm w hl
  have hl : lv_has ls 3 [(0, .ref x), (1, .int r), (2, .int f)] := hl
  obtain ⟨kk0, hX0, hPg, hKp, hTx, hTp, hSc⟩ := id hX
  obtain ⟨hP0, ⟨rf, hP1, hP2⟩, hP3, hP4, hP5, hP6⟩ := id hPg
  obtain ⟨⟨tf, hT1, hT2⟩, hT3⟩ := id hTp
  obtain ⟨⟨tk, tn, tg, hS1, hS2⟩, ⟨LF, hS3⟩, ⟨RF, hS4⟩, ⟨bf, hS5, hS6⟩, hS7, uf, hS8⟩ := id hSc
  have hbR := hB.1.1
  obtain ⟨sf, sg, sh, hL0, hL1, hL2, hL3, hLa⟩ := id hP4
  obtain ⟨ef, eg, eh, hM0, hM1, hM2, hM3, hMa⟩ := id hP5
  obtain ⟨kf, kg, kh, hK0, hK1, hK2, hK3, hKa⟩ := id hP6
  obtain ⟨pl, cl, wd, vl, hQ0, hQ1, hQ2, hQ3⟩ := id hTx
  refine lv_iload_n C0.1 C0.2.1 dX6_copies_0 rfl (lv_at hl 1 rfl) ?_
  refine hv_cSi (As := [.int r]) C0 w kl_X6_60 ks_X6_isRow (c_X6_isRow) (by decide) (by decide) rfl hl.1 rfl (Nat.le_of_ble_eq_true rfl) dX6_copies_1 ⟨Nat.le_refl _, Nat.le_refl _⟩ (fun x1 V2 Hq lq hp3 w => ?_)
  obtain ⟨e9, hz9⟩ := hp3
  rw [e9] at w; clear e9
  rcases hz9 with ⟨rfl, hb4⟩ | ⟨rfl, hb4⟩
  · skip
    have ihb4 := hb4
    obtain ⟨j1, hj1, rfl⟩ := sp_inN (k := 5) (by decide) hb4
    have kj1 : (nI j1).toNatClampNeg = j1 := nI_clamp (by omega)
    have hR_j1 : V (x + 1 + 14 + 2 * j1) = some (rE (σ.1.1.1 j1) (σ.1.1.2.1 j1) (x + 1 + 14 + 2 * j1 + 1)) := (hP3 j1 hj1).1
    have hN_j1 : V (x + 1 + 14 + 2 * j1 + 1) = some (nE X (σ.1.1.2.2 j1)) := (hP3 j1 hj1).2
    have hn_j1 : σ.1.1.2.1 j1 ≤ 16 := (hbR j1 hj1).2.1
    refine lv_if_eq (tgt := 14) C0.1 C0.2.1 dX6_copies_4 (by decide) (fun h9 => absurd h9 (by decide)) (fun _ => ?_)
    refine lv_iload_n C0.1 C0.2.1 dX6_copies_7 rfl (lv_at hl 2 rfl) ?_
    refine hv_cSi (As := [.int f]) C0 w kl_X6_60 ks_X6_isRow (c_X6_isRow) (by decide) (by decide) rfl hl.1 rfl (Nat.le_of_ble_eq_true rfl) dX6_copies_8 ⟨Nat.le_refl _, Nat.le_refl _⟩ (fun x5 V6 Hq lq hp7 w => ?_)
    obtain ⟨e9, hz9⟩ := hp7
    rw [e9] at w; clear e9
    rcases hz9 with ⟨rfl, hb8⟩ | ⟨rfl, hb8⟩
    · skip
      have ihb8 := hb8
      obtain ⟨j2, hj2, rfl⟩ := sp_inN (k := 5) (by decide) hb8
      have kj2 : (nI j2).toNatClampNeg = j2 := nI_clamp (by omega)
      have hR_j2 : V (x + 1 + 14 + 2 * j2) = some (rE (σ.1.1.1 j2) (σ.1.1.2.1 j2) (x + 1 + 14 + 2 * j2 + 1)) := (hP3 j2 hj2).1
      have hN_j2 : V (x + 1 + 14 + 2 * j2 + 1) = some (nE X (σ.1.1.2.2 j2)) := (hP3 j2 hj2).2
      have hn_j2 : σ.1.1.2.1 j2 ≤ 16 := (hbR j2 hj2).2.1
      refine lv_if_ne (tgt := 16) C0.1 C0.2.1 dX6_copies_11 (by decide) (fun _ => ?_) (fun h9 => absurd h9 (by decide))
      refine lv_aload_n C0.1 C0.2.1 dX6_copies_16 rfl (lv_at hl 0 rfl) ?_
      refine gf_X6_12 C0 w hX0 rfl dX6_copies_17 ?_
      refine gf_X6_76 C0 w hP0 rfl dX6_copies_20 ?_
      refine lv_iload_n C0.1 C0.2.1 dX6_copies_23 rfl (lv_at hl 1 rfl) ?_
      refine hv_aald 3 C0 w rfl hP1 (hn_in hj1 (by decide)) (by rw [kj1]; exact hP2 j1 hj1) dX6_copies_24 ?_
      refine lv_aload_n C0.1 C0.2.1 dX6_copies_25 rfl (lv_at hl 0 rfl) ?_
      refine gf_X6_12 C0 w hX0 rfl dX6_copies_26 ?_
      refine gf_X6_76 C0 w hP0 rfl dX6_copies_29 ?_
      refine lv_iload_n C0.1 C0.2.1 dX6_copies_32 rfl (lv_at hl 2 rfl) ?_
      refine hv_aald 3 C0 w rfl hP1 (hn_in hj2 (by decide)) (by rw [kj2]; exact hP2 j2 hj2) dX6_copies_33 ?_
      by_cases hjj : j1 = j2
      · subst hjj
        refine hv_cVv C0 w kl_X6_102 kv_X3_becomeAs rfl hR_j1 (c_X3_becomeAs_self hR_j1 hN_j1) (by decide) (by decide) rfl hl.1 rfl (Nat.le_of_ble_eq_true rfl) dX6_copies_34 ⟨Nat.le_refl _, Nat.le_refl _⟩ (fun V10 Hq lq hp11 w => ?_)
        rw [hp11] at w
        refine lv_aload_n C0.1 C0.2.1 dX6_copies_37 rfl (lv_at hl 0 rfl) ?_
        refine gf_X6_12 C0 w hX0 rfl dX6_copies_38 ?_
        refine gf_X6_76 C0 w hP0 rfl dX6_copies_41 ?_
        refine lv_iload_n C0.1 C0.2.1 dX6_copies_44 rfl (lv_at hl 1 rfl) ?_
        refine hv_aald 3 C0 w rfl hP1 (hn_in hj1 (by decide)) (by rw [kj1]; exact hP2 j1 hj1) dX6_copies_45 ?_
        refine gf_X6_88 C0 w hR_j1 rfl dX6_copies_46 ?_
        exact hv_iret C0 w hr hlk (by rw [sp_copies, if_pos ⟨ihb4, ihb8⟩, kj1]; exact ⟨rfl, by rw [show hs_row σ.1 j1 (σ.1.1.1 j1) (σ.1.1.2.1 j1) (σ.1.1.2.2 j1) = σ.1 from by simp only [hs_row, hs_id]]; exact hX, hv_out.rf⟩) dX6_copies_49
      · skip
        refine hv_cVv C0 w kl_X6_102 kv_X3_becomeAs rfl hR_j1 (c_X3_becomeAs hR_j1 hN_j1 hR_j2 hN_j2 (by omega) (by omega)) (by decide) (by decide) rfl hl.1 rfl (Nat.le_of_ble_eq_true rfl) dX6_copies_34 ⟨Nat.le_refl _, Nat.le_refl _⟩ (fun V13 Hq lq hp14 w => ?_)
        have hN9 : V13 (x + 1 + 14 + 2 * j1 + 1) = some (nE X (va_cpy (σ.1.1.2.2 j2) (σ.1.1.2.2 j1) 0 0 16)) := by rw [hp14]; exact hv_us
        have w := w.as hN9 (g := σ.1.1.2.2 j2) (fun i9 hi9 => by simp [va_cpy, hi9])
        obtain ⟨V9, eV9⟩ : ∃ V9, V9 = hv_up V13 (x + 1 + 14 + 2 * j1 + 1) (nE X (σ.1.1.2.2 j2)) := ⟨_, rfl⟩
        rw [← eV9] at w
        have hV15 : V9 x = some (.inr (6, [.ref (x + 1), .ref (x + 27), .int kk0, .ref (x + 53), .ref (x + 57), .ref (x + 58), .ref (x + 60), .ref (x + 61), .ref (x + 62), .ref (x + 63)])) := by rw [eV9, hv_un (by omega), hp14, hv_un (by omega), hv_un (by omega)]; exact hX0
        have hV16 : V9 (x + 1) = some (.inr (2, [.ref (x + 1 + 1), .ref (x + 1 + 2), .ref (x + 1 + 6), .ref (x + 1 + 10)])) := by rw [eV9, hv_un (by omega), hp14, hv_un (by omega), hv_un (by omega)]; exact hP0
        have hV17 : V9 (x + 1 + 1) = some (.inl (X.2.1 3, 6, .inr (.inr (.inr (.inr rf))))) := by rw [eV9, hv_un (by omega), hp14, hv_un (by omega), hv_un (by omega)]; exact hP1
        have hV18 : V9 (x + 1 + 14 + 2 * j1) = some (rE (σ.1.1.1 j2) (σ.1.1.2.1 j2) (x + 1 + 14 + 2 * j1 + 1)) := by rw [eV9, hv_un (by omega), hp14, hv_un (by omega)]; exact hv_us
        refine lv_aload_n C0.1 C0.2.1 dX6_copies_37 rfl (lv_at hl 0 rfl) ?_
        refine gf_X6_12 C0 w hV15 rfl dX6_copies_38 ?_
        refine gf_X6_76 C0 w hV16 rfl dX6_copies_41 ?_
        refine lv_iload_n C0.1 C0.2.1 dX6_copies_44 rfl (lv_at hl 1 rfl) ?_
        refine hv_aald 3 C0 w rfl hV17 (hn_in hj1 (by decide)) (by rw [kj1]; exact hP2 j1 hj1) dX6_copies_45 ?_
        refine gf_X6_88 C0 w hV18 rfl dX6_copies_46 ?_
        exact hv_iret C0 w hr hlk (by rw [sp_copies, if_pos ⟨ihb4, ihb8⟩, kj1, kj2]; exact ⟨rfl, ⟨kk0, (by rw [eV9, hv_un (by omega), hp14, hv_un (by omega), hv_un (by omega)] : _ = V x).trans hX0, hPg.row hj1 ⟨by rw [eV9, hv_un (by omega), hp14, hv_un (by omega)]; exact hv_us, by rw [eV9]; exact hv_us⟩ (fun q h7 h8 => by rw [eV9, hv_un (by omega), hp14, hv_un (by omega), hv_un (by omega)]) (fun q h7 h8 => by rw [eV9, hv_un (by omega), hp14, hv_un (by omega), hv_un (by omega)]), hKp.fr (fun q h7 h8 => by rw [eV9, hv_un (by omega), hp14, hv_un (by omega), hv_un (by omega)]), hTx.fr (fun q h7 h8 => by rw [eV9, hv_un (by omega), hp14, hv_un (by omega), hv_un (by omega)]), hTp.fr (by rw [eV9, hv_un (by omega), hp14, hv_un (by omega), hv_un (by omega)]) (fun q h7 h8 => by rw [eV9, hv_un (by omega), hp14, hv_un (by omega), hv_un (by omega)]), hSc.fr (fun q h7 h8 => by rw [eV9, hv_un (by omega), hp14, hv_un (by omega), hv_un (by omega)]) (fun q h7 h8 => by rw [eV9, hv_un (by omega), hp14, hv_un (by omega), hv_un (by omega)])⟩, (fun q h7 => by rw [eV9, hv_un (by omega), hp14, hv_un (by omega), hv_un (by omega)])⟩) dX6_copies_49
    · skip
      refine lv_if_ne (tgt := 16) C0.1 C0.2.1 dX6_copies_11 (by decide) (fun h9 => absurd h9 (by decide)) (fun _ => ?_)
      refine lv_iconst (v := -1) C0.1 C0.2.1 dX6_copies_14 (by decide) ?_
      exact hv_iret C0 w hr hlk (by rw [sp_copies, if_neg (fun h9 => hb8 h9.2)]; exact ⟨rfl, hX, hv_out.rf⟩) dX6_copies_15
  · skip
    refine lv_if_eq (tgt := 14) C0.1 C0.2.1 dX6_copies_4 (by decide) (fun _ => ?_) (fun h9 => absurd h9 (by decide))
    refine lv_iconst (v := -1) C0.1 C0.2.1 dX6_copies_14 (by decide) ?_
    exact hv_iret C0 w hr hlk (by rw [sp_copies, if_neg (fun h9 => hb4 h9.1)]; exact ⟨rfl, hX, hv_out.rf⟩) dX6_copies_15

set_option maxHeartbeats 4000000 in
set_option maxRecDepth 100000 in
theorem c_X6_of {l : Launch} {X : hv_X} {V : hv_V} {x : Nat} {σ : hs_S} (hX : okX X V x σ) (hB : hs_b σ) {r i : Int32} : hv_Mi l X 2 yX6_of cX6_of 4 .int V [.ref x, .int r, .int i] (fun y V1 => V1 = V ∧ y = sp_of σ r i) := by
  refine hv_enter (by decide) (Nat.le_of_ble_eq_true rfl) ?_
  intro p e s m below meth c ls C0 hr hlk hnm w hl
  have hl : lv_has ls 4 [(0, .ref x), (1, .int r), (2, .int i)] := hl
  obtain ⟨kk0, hX0, hPg, hKp, hTx, hTp, hSc⟩ := id hX
  obtain ⟨hP0, ⟨rf, hP1, hP2⟩, hP3, hP4, hP5, hP6⟩ := id hPg
  obtain ⟨⟨tf, hT1, hT2⟩, hT3⟩ := id hTp
  obtain ⟨⟨tk, tn, tg, hS1, hS2⟩, ⟨LF, hS3⟩, ⟨RF, hS4⟩, ⟨bf, hS5, hS6⟩, hS7, uf, hS8⟩ := id hSc
  have hbR := hB.1.1
  obtain ⟨sf, sg, sh, hL0, hL1, hL2, hL3, hLa⟩ := id hP4
  obtain ⟨ef, eg, eh, hM0, hM1, hM2, hM3, hMa⟩ := id hP5
  obtain ⟨kf, kg, kh, hK0, hK1, hK2, hK3, hKa⟩ := id hP6
  obtain ⟨pl, cl, wd, vl, hQ0, hQ1, hQ2, hQ3⟩ := id hTx
  refine lv_iload_n C0.1 C0.2.1 dX6_of_0 rfl (lv_at hl 1 rfl) ?_
  refine hv_cSi (As := [.int r]) C0 w kl_X6_60 ks_X6_isRow (c_X6_isRow) (by decide) (by decide) rfl hl.1 rfl (Nat.le_of_ble_eq_true rfl) dX6_of_1 ⟨Nat.le_refl _, Nat.le_refl _⟩ (fun x1 V2 Hq lq hp3 w => ?_)
  obtain ⟨e9, hz9⟩ := hp3
  rw [e9] at w; clear e9
  rcases hz9 with ⟨rfl, hb4⟩ | ⟨rfl, hb4⟩
  · skip
    have ihb4 := hb4
    obtain ⟨j1, hj1, rfl⟩ := sp_inN (k := 5) (by decide) hb4
    have kj1 : (nI j1).toNatClampNeg = j1 := nI_clamp (by omega)
    have hR_j1 : V (x + 1 + 14 + 2 * j1) = some (rE (σ.1.1.1 j1) (σ.1.1.2.1 j1) (x + 1 + 14 + 2 * j1 + 1)) := (hP3 j1 hj1).1
    have hN_j1 : V (x + 1 + 14 + 2 * j1 + 1) = some (nE X (σ.1.1.2.2 j1)) := (hP3 j1 hj1).2
    have hn_j1 : σ.1.1.2.1 j1 ≤ 16 := (hbR j1 hj1).2.1
    refine lv_if_eq (tgt := 11) C0.1 C0.2.1 dX6_of_4 (by decide) (fun h9 => absurd h9 (by decide)) (fun _ => ?_)
    refine lv_iload_n C0.1 C0.2.1 dX6_of_7 rfl (lv_at hl 2 rfl) ?_
    refine lv_if_ge (tgt := 13) C0.1 C0.2.1 dX6_of_8 (by decide) (fun c_8 => ?_) (fun c_8 => ?_)
    · skip
      refine lv_aload_n C0.1 C0.2.1 dX6_of_13 rfl (lv_at hl 0 rfl) ?_
      refine gf_X6_12 C0 w hX0 rfl dX6_of_14 ?_
      refine gf_X6_76 C0 w hP0 rfl dX6_of_17 ?_
      refine lv_iload_n C0.1 C0.2.1 dX6_of_20 rfl (lv_at hl 1 rfl) ?_
      refine hv_aald 3 C0 w rfl hP1 (hn_in hj1 (by decide)) (by rw [kj1]; exact hP2 j1 hj1) dX6_of_21 ?_
      refine lv_astore_n (lv' := [(3, .ref (x + 1 + 14 + 2 * j1)), (0, .ref x), (1, .int (nI j1)), (2, .int i)]) C0.1 C0.2.1 dX6_of_22 rfl hl (by decide) rfl (fun ls hl => ?_)
      refine lv_iload_n C0.1 C0.2.1 dX6_of_23 rfl (lv_at hl 3 rfl) ?_
      refine lv_aload_n C0.1 C0.2.1 dX6_of_24 rfl (lv_at hl 0 rfl) ?_
      refine gf_X6_88 C0 w hR_j1 rfl dX6_of_25 ?_
      refine lv_icmp_ge (tgt := 40) C0.1 C0.2.1 dX6_of_28 (by decide) (fun c_28 => ?_) (fun c_28 => ?_)
      · skip
        refine lv_bipush (v := -5) C0.1 C0.2.1 dX6_of_40 (by decide) ?_
        exact hv_iret C0 w hr hlk (⟨rfl, by rw [sp_of, if_pos ⟨ihb4, c_8⟩, kj1, if_neg (Int32.not_lt.mpr c_28)]⟩) dX6_of_42
      · skip
        have hin : vp_in i 16 := fun h9 => h9.elim (fun h8 => absurd c_8 (Int32.not_le.mpr h8)) (fun h8 => absurd (Int32.not_le.mp c_28) (hs_nlt (fun h7 => absurd c_8 (Int32.not_le.mpr h7)) (by omega) (by omega)))
        refine lv_aload_n C0.1 C0.2.1 dX6_of_31 rfl (lv_at hl 0 rfl) ?_
        refine gf_X6_139 C0 w hR_j1 rfl dX6_of_32 ?_
        refine lv_iload_n C0.1 C0.2.1 dX6_of_35 rfl (lv_at hl 3 rfl) ?_
        refine hv_iald C0 w hN_j1 (hin) dX6_of_36 ?_
        refine lv_goto (tgt := 42) C0.1 C0.2.1 dX6_of_37 (by decide) ?_
        exact hv_iret C0 w hr hlk (⟨rfl, by rw [sp_of, if_pos ⟨ihb4, c_8⟩, kj1, if_pos (Int32.not_le.mp c_28)]⟩) dX6_of_42
    · skip
      refine lv_iconst (v := -1) C0.1 C0.2.1 dX6_of_11 (by decide) ?_
      exact hv_iret C0 w hr hlk (⟨rfl, by rw [sp_of, if_neg (fun h9 => c_8 h9.2)]⟩) dX6_of_12
  · skip
    refine lv_if_eq (tgt := 11) C0.1 C0.2.1 dX6_of_4 (by decide) (fun _ => ?_) (fun h9 => absurd h9 (by decide))
    refine lv_iconst (v := -1) C0.1 C0.2.1 dX6_of_11 (by decide) ?_
    exact hv_iret C0 w hr hlk (⟨rfl, by rw [sp_of, if_neg (fun h9 => hb4 h9.1)]⟩) dX6_of_12

set_option maxHeartbeats 4000000 in
set_option maxRecDepth 100000 in
theorem c_X6_isSpotNow {l : Launch} {X : hv_X} {V : hv_V} {x : Nat} {σ : hs_S} (hX : okX X V x σ) (hB : hs_b σ) {p9 : Int32} : hv_Mi l X 2 yX6_isSpotNow cX6_isSpotNow 3 .boolean V [.ref x, .int p9] (fun y V1 => V1 = V ∧ hv_B (sp_spot σ p9) y) := by
  refine hv_enter (by decide) (Nat.le_of_ble_eq_true rfl) ?_
  intro p e s m below meth c ls C0 hr hlk hnm w hl
  have hl : lv_has ls 3 [(0, .ref x), (1, .int p9)] := hl
  obtain ⟨kk0, hX0, hPg, hKp, hTx, hTp, hSc⟩ := id hX
  obtain ⟨hP0, ⟨rf, hP1, hP2⟩, hP3, hP4, hP5, hP6⟩ := id hPg
  obtain ⟨⟨tf, hT1, hT2⟩, hT3⟩ := id hTp
  obtain ⟨⟨tk, tn, tg, hS1, hS2⟩, ⟨LF, hS3⟩, ⟨RF, hS4⟩, ⟨bf, hS5, hS6⟩, hS7, uf, hS8⟩ := id hSc
  have hbR := hB.1.1
  obtain ⟨sf, sg, sh, hL0, hL1, hL2, hL3, hLa⟩ := id hP4
  obtain ⟨ef, eg, eh, hM0, hM1, hM2, hM3, hMa⟩ := id hP5
  obtain ⟨kf, kg, kh, hK0, hK1, hK2, hK3, hKa⟩ := id hP6
  obtain ⟨pl, cl, wd, vl, hQ0, hQ1, hQ2, hQ3⟩ := id hTx
  refine lv_iload_n C0.1 C0.2.1 dX6_isSpotNow_0 rfl (lv_at hl 1 rfl) ?_
  refine lv_if_ge (tgt := 6) C0.1 C0.2.1 dX6_isSpotNow_1 (by decide) (fun c_1 => ?_) (fun c_1 => ?_)
  · skip
    refine lv_iload_n C0.1 C0.2.1 dX6_isSpotNow_6 rfl (lv_at hl 1 rfl) ?_
    refine lv_bipush (v := 100) C0.1 C0.2.1 dX6_isSpotNow_7 (by decide) ?_
    refine lv_idiv C0.1 C0.2.1 dX6_isSpotNow_9 (by decide) ?_
    refine lv_istore_n (lv' := [(2, .int (p9 / 100)), (0, .ref x), (1, .int p9)]) C0.1 C0.2.1 dX6_isSpotNow_10 rfl hl (by decide) rfl (fun ls hl => ?_)
    refine lv_iload_n C0.1 C0.2.1 dX6_isSpotNow_11 rfl (lv_at hl 0 rfl) ?_
    refine hv_cSi (As := [.int (p9 / 100)]) C0 w kl_X6_60 ks_X6_isRow (c_X6_isRow) (by decide) (by decide) rfl hl.1 rfl (Nat.le_of_ble_eq_true rfl) dX6_isSpotNow_12 ⟨Nat.le_refl _, Nat.le_refl _⟩ (fun x1 V2 Hq lq hp3 w => ?_)
    obtain ⟨e9, hz9⟩ := hp3
    rw [e9] at w; clear e9
    rcases hz9 with ⟨rfl, hb4⟩ | ⟨rfl, hb4⟩
    · skip
      obtain ⟨j1, hj1, ej⟩ := sp_inN (k := 5) (by decide) hb4
      have kj1 : (nI j1).toNatClampNeg = j1 := nI_clamp (by omega)
      have hR_j1 : V (x + 1 + 14 + 2 * j1) = some (rE (σ.1.1.1 j1) (σ.1.1.2.1 j1) (x + 1 + 14 + 2 * j1 + 1)) := (hP3 j1 hj1).1
      have hN_j1 : V (x + 1 + 14 + 2 * j1 + 1) = some (nE X (σ.1.1.2.2 j1)) := (hP3 j1 hj1).2
      have hn_j1 : σ.1.1.2.1 j1 ≤ 16 := (hbR j1 hj1).2.1
      have hl : lv_has ls 3 [(2, .int (nI j1)), (0, .ref x), (1, .int p9)] := by rw [show ((nI j1)) = ((p9 / 100)) from ej.symm]; exact hl
      refine lv_if_eq (tgt := 41) C0.1 C0.2.1 dX6_isSpotNow_15 (by decide) (fun h9 => absurd h9 (by decide)) (fun _ => ?_)
      refine lv_iload_n C0.1 C0.2.1 dX6_isSpotNow_18 rfl (lv_at hl 2 rfl) ?_
      refine lv_bipush (v := 100) C0.1 C0.2.1 dX6_isSpotNow_19 (by decide) ?_
      refine lv_irem C0.1 C0.2.1 dX6_isSpotNow_21 (by decide) ?_
      refine lv_aload_n C0.1 C0.2.1 dX6_isSpotNow_22 rfl (lv_at hl 1 rfl) ?_
      refine gf_X6_12 C0 w hX0 rfl dX6_isSpotNow_23 ?_
      refine gf_X6_76 C0 w hP0 rfl dX6_isSpotNow_26 ?_
      refine lv_iload_n C0.1 C0.2.1 dX6_isSpotNow_29 rfl (lv_at hl 0 rfl) ?_
      refine hv_aald 3 C0 w rfl hP1 (hn_in hj1 (by decide)) (by rw [kj1]; exact hP2 j1 hj1) dX6_isSpotNow_30 ?_
      refine gf_X6_88 C0 w hR_j1 rfl dX6_isSpotNow_31 ?_
      refine lv_icmp_ge (tgt := 41) C0.1 C0.2.1 dX6_isSpotNow_34 (by decide) (fun c_34 => ?_) (fun c_34 => ?_)
      · skip
        refine lv_iconst (v := 0) C0.1 C0.2.1 dX6_isSpotNow_41 (by decide) ?_
        exact hv_zret C0 w hr hlk (by decide) (⟨rfl, Or.inr ⟨rfl, fun h9 => by have h8 := h9.2.2; rw [ej, kj1, ← ej] at h8; exact absurd c_34 (Int32.not_le.mpr h8)⟩⟩) dX6_isSpotNow_42
      · skip
        refine lv_iconst (v := 1) C0.1 C0.2.1 dX6_isSpotNow_37 (by decide) ?_
        refine lv_goto (tgt := 42) C0.1 C0.2.1 dX6_isSpotNow_38 (by decide) ?_
        exact hv_zret C0 w hr hlk (by decide) (⟨rfl, Or.inl ⟨rfl, c_1, hb4, by rw [ej, kj1, ← ej]; exact Int32.not_le.mp c_34⟩⟩) dX6_isSpotNow_42
    · skip
      refine lv_if_eq (tgt := 41) C0.1 C0.2.1 dX6_isSpotNow_15 (by decide) (fun _ => ?_) (fun h9 => absurd h9 (by decide))
      refine lv_iconst (v := 0) C0.1 C0.2.1 dX6_isSpotNow_41 (by decide) ?_
      exact hv_zret C0 w hr hlk (by decide) (⟨rfl, Or.inr ⟨rfl, fun h9 => hb4 h9.2.1⟩⟩) dX6_isSpotNow_42
  · skip
    refine lv_iconst (v := 0) C0.1 C0.2.1 dX6_isSpotNow_4 (by decide) ?_
    exact hv_zret C0 w hr hlk (by decide) (⟨rfl, Or.inr ⟨rfl, fun h9 => c_1 h9.1⟩⟩) dX6_isSpotNow_5

set_option maxHeartbeats 4000000 in
set_option maxRecDepth 100000 in
theorem c_X6_numberAtSpot {l : Launch} {X : hv_X} {V : hv_V} {x : Nat} {σ : hs_S} (hX : okX X V x σ) (hB : hs_b σ) {p9 : Int32} : hv_Mi l X 3 yX6_numberAtSpot cX6_numberAtSpot 2 .int V [.ref x, .int p9] (fun y V1 => V1 = V ∧ y = sp_of σ (p9 / 100) (p9 - p9 / 100 * 100)) := by
  refine hv_enter (by decide) (Nat.le_of_ble_eq_true rfl) ?_
  intro p e s m below meth c ls C0 hr hlk hnm w hl
  have hl : lv_has ls 2 [(0, .ref x), (1, .int p9)] := hl
  obtain ⟨kk0, hX0, hPg, hKp, hTx, hTp, hSc⟩ := id hX
  obtain ⟨hP0, ⟨rf, hP1, hP2⟩, hP3, hP4, hP5, hP6⟩ := id hPg
  obtain ⟨⟨tf, hT1, hT2⟩, hT3⟩ := id hTp
  obtain ⟨⟨tk, tn, tg, hS1, hS2⟩, ⟨LF, hS3⟩, ⟨RF, hS4⟩, ⟨bf, hS5, hS6⟩, hS7, uf, hS8⟩ := id hSc
  have hbR := hB.1.1
  obtain ⟨sf, sg, sh, hL0, hL1, hL2, hL3, hLa⟩ := id hP4
  obtain ⟨ef, eg, eh, hM0, hM1, hM2, hM3, hMa⟩ := id hP5
  obtain ⟨kf, kg, kh, hK0, hK1, hK2, hK3, hKa⟩ := id hP6
  obtain ⟨pl, cl, wd, vl, hQ0, hQ1, hQ2, hQ3⟩ := id hTx
  refine lv_aload_n C0.1 C0.2.1 dX6_numberAtSpot_0 rfl (lv_at hl 0 rfl) ?_
  refine lv_iload_n C0.1 C0.2.1 dX6_numberAtSpot_1 rfl (lv_at hl 1 rfl) ?_
  refine lv_bipush (v := 100) C0.1 C0.2.1 dX6_numberAtSpot_2 (by decide) ?_
  refine lv_idiv C0.1 C0.2.1 dX6_numberAtSpot_4 (by decide) ?_
  refine lv_iload_n C0.1 C0.2.1 dX6_numberAtSpot_5 rfl (lv_at hl 1 rfl) ?_
  refine lv_bipush (v := 100) C0.1 C0.2.1 dX6_numberAtSpot_6 (by decide) ?_
  refine lv_irem C0.1 C0.2.1 dX6_numberAtSpot_8 (by decide) ?_
  refine hv_cVi C0 w kl_X6_312 kv_X6_of rfl hX0 (c_X6_of hX hB) (by decide) (by decide) rfl hl.1 rfl (Nat.le_of_ble_eq_true rfl) dX6_numberAtSpot_9 ⟨Nat.le_refl _, Nat.le_refl _⟩ (fun x1 V2 Hq lq hp3 w => ?_)
  obtain ⟨e9, e8⟩ := hp3
  rw [e9] at w; rw [e8]; clear e9 e8
  exact hv_iret C0 w hr hlk (⟨rfl, rfl⟩) dX6_numberAtSpot_12

set_option maxHeartbeats 4000000 in
set_option maxRecDepth 100000 in
theorem m_X6_book {l : Launch} {X : hv_X} {V : hv_V} {x : Nat} {σ : hs_S} (hX : okX X V x σ) (hB : hs_b σ) {p9 v : Int32} : hv_Mi l X 6 yX6_book cX6_book 3 .int V [.ref x, .int p9, .int v] (fun y V1 => y = (sp_book σ p9 v).1 ∧ okX X V1 x (sp_book σ p9 v).2 ∧ hv_out V V1 x (x + 92)) := by
  refine hv_enter (by decide) (Nat.le_of_ble_eq_true rfl) ?_
  intro p e s m below meth c ls C0 hr hlk hnm w hl
  have hl : lv_has ls 3 [(0, .ref x), (1, .int p9), (2, .int v)] := hl
  obtain ⟨kk0, hX0, hPg, hKp, hTx, hTp, hSc⟩ := id hX
  obtain ⟨hP0, ⟨rf, hP1, hP2⟩, hP3, hP4, hP5, hP6⟩ := id hPg
  obtain ⟨⟨tf, hT1, hT2⟩, hT3⟩ := id hTp
  obtain ⟨⟨tk, tn, tg, hS1, hS2⟩, ⟨LF, hS3⟩, ⟨RF, hS4⟩, ⟨bf, hS5, hS6⟩, hS7, uf, hS8⟩ := id hSc
  have hbR := hB.1.1
  obtain ⟨sf, sg, sh, hL0, hL1, hL2, hL3, hLa⟩ := id hP4
  obtain ⟨ef, eg, eh, hM0, hM1, hM2, hM3, hMa⟩ := id hP5
  obtain ⟨kf, kg, kh, hK0, hK1, hK2, hK3, hKa⟩ := id hP6
  obtain ⟨pl, cl, wd, vl, hQ0, hQ1, hQ2, hQ3⟩ := id hTx
  refine lv_iload_n C0.1 C0.2.1 dX6_book_0 rfl (lv_at hl 1 rfl) ?_
  refine lv_iconst (v := -1) C0.1 C0.2.1 dX6_book_1 (by decide) ?_
  refine lv_icmp_ne (tgt := 16) C0.1 C0.2.1 dX6_book_2 (by decide) (fun c_2 => ?_) (fun c_2 => ?_)
  · skip
    refine lv_aload_n C0.1 C0.2.1 dX6_book_16 rfl (lv_at hl 0 rfl) ?_
    refine lv_iload_n C0.1 C0.2.1 dX6_book_17 rfl (lv_at hl 1 rfl) ?_
    refine hv_cVi C0 w kl_X6_226 kv_X6_isSpotNow rfl hX0 (c_X6_isSpotNow hX hB) (by decide) (by decide) rfl hl.1 rfl (Nat.le_of_ble_eq_true rfl) dX6_book_18 ⟨Nat.le_refl _, Nat.le_refl _⟩ (fun x1 V2 Hq lq hp3 w => ?_)
    obtain ⟨e9, hz9⟩ := hp3
    rw [e9] at w; clear e9
    rcases hz9 with ⟨rfl, hb4⟩ | ⟨rfl, hb4⟩
    · skip
      refine lv_if_ne (tgt := 26) C0.1 C0.2.1 dX6_book_21 (by decide) (fun _ => ?_) (fun h9 => absurd h9 (by decide))
      refine lv_iload_n C0.1 C0.2.1 dX6_book_26 rfl (lv_at hl 2 rfl) ?_
      refine hv_cSi (As := [.int v]) C0 w kl_X6_96 ks_X6_isNumber (c_X6_isNumber) (by decide) (by decide) rfl hl.1 rfl (Nat.le_of_ble_eq_true rfl) dX6_book_27 ⟨Nat.le_refl _, Nat.le_refl _⟩ (fun x5 V6 Hq lq hp7 w => ?_)
      obtain ⟨e9, hz9⟩ := hp7
      rw [e9] at w; clear e9
      rcases hz9 with ⟨rfl, hb8⟩ | ⟨rfl, hb8⟩
      · skip
        refine lv_if_ne (tgt := 36) C0.1 C0.2.1 dX6_book_30 (by decide) (fun _ => ?_) (fun h9 => absurd h9 (by decide))
        refine lv_aload_n C0.1 C0.2.1 dX6_book_36 rfl (lv_at hl 0 rfl) ?_
        refine gf_X6_12 C0 w hX0 rfl dX6_book_37 ?_
        refine gf_X6_223 C0 w hP0 rfl dX6_book_40 ?_
        refine lv_iload_n C0.1 C0.2.1 dX6_book_43 rfl (lv_at hl 1 rfl) ?_
        refine lv_iload_n C0.1 C0.2.1 dX6_book_44 rfl (lv_at hl 2 rfl) ?_
        refine lv_iconst (v := 0) C0.1 C0.2.1 dX6_book_45 (by decide) ?_
        refine hv_cVi C0 w kl_X6_181 kv_X1_put rfl hK0 (c_X1_put hK0 hK1 hK2 hK3 hB.1.2.2.2.1 (by decide)) (by decide) (by decide) rfl hl.1 rfl (Nat.le_of_ble_eq_true rfl) dX6_book_46 ⟨Nat.le_refl _, Nat.le_refl _⟩ (fun x9 V10 Hq lq hp11 w => ?_)
        obtain ⟨hlt9, ex9, hp11b⟩ | ⟨hge9, ex9, hp11b⟩ := hp11
        · skip
          rw [ex9]; clear ex9
          exact hv_iret C0 w hr hlk (by rw [sp_book, if_neg c_2, if_pos hb4, if_pos hb8, if_pos hlt9]; exact ⟨rfl, ⟨kk0, (by rw [hp11b, hv_un (by omega), hv_un (by omega), hv_un (by omega), hv_un (by omega)] : _ = V x).trans hX0, ⟨(by rw [hp11b, hv_un (by omega), hv_un (by omega), hv_un (by omega), hv_un (by omega)] : _ = V (x + 1)).trans hP0, ⟨rf, (by rw [hp11b, hv_un (by omega), hv_un (by omega), hv_un (by omega), hv_un (by omega)] : _ = V (x + 1 + 1)).trans hP1, hP2⟩, fun j9 hj9 => (hP3 j9 hj9).fr (fun q h7 h8 => by rw [hp11b, hv_un (by omega), hv_un (by omega), hv_un (by omega), hv_un (by omega)]), hP4.fr (fun q h7 h8 => by rw [hp11b, hv_un (by omega), hv_un (by omega), hv_un (by omega), hv_un (by omega)]), hP5.fr (fun q h7 h8 => by rw [hp11b, hv_un (by omega), hv_un (by omega), hv_un (by omega), hv_un (by omega)]), ok_list.put (by rw [hp11b]; exact hv_us) (by rw [hp11b, hv_un (by omega), hv_un (by omega), hv_un (by omega)]; exact hv_us) (by rw [hp11b, hv_un (by omega), hv_un (by omega)]; exact hv_us) (by rw [hp11b, hv_un (by omega)]; exact hv_us) hKa⟩, hKp.fr (fun q h7 h8 => by rw [hp11b, hv_un (by omega), hv_un (by omega), hv_un (by omega), hv_un (by omega)]), hTx.fr (fun q h7 h8 => by rw [hp11b, hv_un (by omega), hv_un (by omega), hv_un (by omega), hv_un (by omega)]), hTp.fr (by rw [hp11b, hv_un (by omega), hv_un (by omega), hv_un (by omega), hv_un (by omega)]) (fun q h7 h8 => by rw [hp11b, hv_un (by omega), hv_un (by omega), hv_un (by omega), hv_un (by omega)]), hSc.fr (fun q h7 h8 => by rw [hp11b, hv_un (by omega), hv_un (by omega), hv_un (by omega), hv_un (by omega)]) (fun q h7 h8 => by rw [hp11b, hv_un (by omega), hv_un (by omega), hv_un (by omega), hv_un (by omega)])⟩, (fun q h7 => by rw [hp11b, hv_un (by omega), hv_un (by omega), hv_un (by omega), hv_un (by omega)])⟩) dX6_book_49
        · skip
          rw [hp11b] at w; rw [ex9]; clear ex9
          exact hv_iret C0 w hr hlk (by rw [sp_book, if_neg c_2, if_pos hb4, if_pos hb8, if_neg hge9]; exact ⟨rfl, hX, hv_out.rf⟩) dX6_book_49
      · skip
        refine lv_if_ne (tgt := 36) C0.1 C0.2.1 dX6_book_30 (by decide) (fun h9 => absurd h9 (by decide)) (fun _ => ?_)
        refine lv_bipush (v := -2) C0.1 C0.2.1 dX6_book_33 (by decide) ?_
        exact hv_iret C0 w hr hlk (by rw [sp_book, if_neg c_2, if_pos hb4, if_neg hb8]; exact ⟨rfl, hX, hv_out.rf⟩) dX6_book_35
    · skip
      refine lv_if_ne (tgt := 26) C0.1 C0.2.1 dX6_book_21 (by decide) (fun h9 => absurd h9 (by decide)) (fun _ => ?_)
      refine lv_iconst (v := -1) C0.1 C0.2.1 dX6_book_24 (by decide) ?_
      exact hv_iret C0 w hr hlk (by rw [sp_book, if_neg c_2, if_neg hb4]; exact ⟨rfl, hX, hv_out.rf⟩) dX6_book_25
  · skip
    refine lv_aload_n C0.1 C0.2.1 dX6_book_5 rfl (lv_at hl 0 rfl) ?_
    refine gf_X6_12 C0 w hX0 rfl dX6_book_6 ?_
    refine gf_X6_223 C0 w hP0 rfl dX6_book_9 ?_
    refine hv_cVi C0 w kl_X6_177 kv_X1_clear rfl hK0 (c_X1_clear hK0 hK1 hK2 hK3) (by decide) (by decide) rfl hl.1 rfl (Nat.le_of_ble_eq_true rfl) dX6_book_12 ⟨Nat.le_refl _, Nat.le_refl _⟩ (fun x12 V13 Hq lq hp14 w => ?_)
    obtain ⟨hp14b, ex9⟩ := hp14
    rw [ex9]; clear ex9
    exact hv_iret C0 w hr hlk (by rw [sp_book, if_pos c_2]; exact ⟨rfl, ⟨kk0, (by rw [hp14b, hv_un (by omega)] : _ = V x).trans hX0, ⟨(by rw [hp14b, hv_un (by omega)] : _ = V (x + 1)).trans hP0, ⟨rf, (by rw [hp14b, hv_un (by omega)] : _ = V (x + 1 + 1)).trans hP1, hP2⟩, fun j9 hj9 => (hP3 j9 hj9).fr (fun q h7 h8 => by rw [hp14b, hv_un (by omega)]), hP4.fr (fun q h7 h8 => by rw [hp14b, hv_un (by omega)]), hP5.fr (fun q h7 h8 => by rw [hp14b, hv_un (by omega)]), ok_list.nil (by rw [hp14b]; exact hv_us) ((by rw [hp14b, hv_un (by omega)] : _ = V (x + 1 + 10 + 1)).trans hK1) ((by rw [hp14b, hv_un (by omega)] : _ = V (x + 1 + 10 + 2)).trans hK2) ((by rw [hp14b, hv_un (by omega)] : _ = V (x + 1 + 10 + 3)).trans hK3)⟩, hKp.fr (fun q h7 h8 => by rw [hp14b, hv_un (by omega)]), hTx.fr (fun q h7 h8 => by rw [hp14b, hv_un (by omega)]), hTp.fr (by rw [hp14b, hv_un (by omega)]) (fun q h7 h8 => by rw [hp14b, hv_un (by omega)]), hSc.fr (fun q h7 h8 => by rw [hp14b, hv_un (by omega)]) (fun q h7 h8 => by rw [hp14b, hv_un (by omega)])⟩, (fun q h7 => by rw [hp14b, hv_un (by omega)])⟩) dX6_book_15

