/-- is row j's worth, F, as SEEN says? -/
def sp_sn (σ : hs_S) (j : Int32) (F : fx_F) : Nat → Nat → Bool
  | 0, _ => true
  | m + 1, k => if σ.1.2.1.2.1 k = j ∧ ¬ fx_just F (σ.1.2.1.2.2.1 k).toInt64 (σ.1.2.1.2.2.2 k).toInt64 then false else sp_sn σ j F m (k + 1)
def sp_seen (σ : hs_S) (j : Int32) (F : fx_F) : Bool := sp_sn σ j F σ.1.2.1.1 0
def sp_ot (σ : hs_S) (r : Int32) : Nat → Nat → Bool
  | 0, _ => true
  | m + 1, k => if nI k = r then sp_ot σ r m (k + 1) else if sp_seen σ (nI k) (sp_w σ k (σ.1.1.2.1 k)) = true then sp_ot σ r m (k + 1) else false
def sp_others (σ : hs_S) (r : Int32) : Bool := sp_ot σ r 6 0
/-- numbers v - 1 .. 0 tried at place i of row j: how many do, the least -/
def sp_ft (σ : hs_S) (j i : Nat) : Nat → Int32 → Int32 → Int32 × Int32
  | 0, c, a => (c, a)
  | v + 1, c, a => if sp_seen σ (nI j) (fx_reckon (σ.1.1.1 j) (upd (σ.1.1.2.2 j) i (nI v)) (σ.1.1.2.1 j)) = true then sp_ft σ j i v (c + 1) (nI v) else sp_ft σ j i v c a
def sp_fits (σ : hs_S) (r i k : Int32) : Int32 := if sp_in r 0 5 ∧ sp_in i 0 (nI (σ.1.1.2.1 r.toNatClampNeg) - 1) ∧ sp_in k 0 1 then (if sp_others σ r = true then (if k = 0 then (sp_ft σ r.toNatClampNeg i.toNatClampNeg 100 0 (-5)).1 else (sp_ft σ r.toNatClampNeg i.toNatClampNeg 100 0 (-5)).2) else (if k = 0 then 0 else -5)) else -1
/-- what the events do to a row -/
def sp_ev (σ : hs_S) (r : Int32) : Nat → Nat → Int32 × Nat × (Nat → Int32) → Int32 × Nat × (Nat → Int32)
  | 0, _, T => T
  | m + 1, k, T => if σ.1.2.2.1.2.2.1 k = r then sp_ev σ r m (k + 1) (sp_und (σ.1.2.2.1.2.1 k) T.1 T.2.1 T.2.2) else sp_ev σ r m (k + 1) T
def sp_aft (σ : hs_S) (r : Int32) : Int32 × Nat × (Nat → Int32) := sp_ev σ r σ.1.2.2.1.1 0 (σ.1.1.1 r.toNatClampNeg, σ.1.1.2.1 r.toNatClampNeg, σ.1.1.2.2 r.toNatClampNeg)
def sp_after (σ : hs_S) (r k : Int32) : Int32 := if sp_in r 0 5 ∧ sp_in k 0 2 then (if k = 0 then nI (sp_aft σ r).2.1 else if k = 1 then sp_flaw (sp_aft σ r).1 (sp_aft σ r).2.1 (sp_aft σ r).2.2 else (sp_aft σ r).1) else -1
theorem sp_of_num {σ : hs_S} {p9 : Int32} (h : sp_spot σ p9) : sp_of σ (p9 / 100) (p9 - p9 / 100 * 100) = sp_num σ p9 := by
  have h3 : (0 : Int32) ≤ p9 - p9 / 100 * 100 := by
    have h0 := Int32.le_iff_toInt_le.mp h.1
    have h0 : 0 ≤ p9.toInt := h0
    have hd : (p9 / 100).toInt = p9.toInt / 100 := by
      rw [Int32.toInt_div]
      have e : (100 : Int32).toInt = 100 := by decide
      rw [e]
      have a2 := Int32.toInt_lt p9
      rw [Int.tdiv_eq_ediv_of_nonneg h0]
      apply Int.bmod_eq_of_le <;> omega
    have hm : (p9 / 100 * 100).toInt = p9.toInt / 100 * 100 := by
      rw [Int32.toInt_mul, hd]
      have e : (100 : Int32).toInt = 100 := by decide
      rw [e]
      have a2 := Int32.toInt_lt p9
      apply Int.bmod_eq_of_le <;> omega
    rw [Int32.le_iff_toInt_le, Int32.toInt_sub, hm]
    have a2 := Int32.toInt_lt p9
    show 0 ≤ _
    rw [Int.bmod_eq_of_le (by omega) (by omega)]
    omega
  rw [sp_of, if_pos ⟨h.2.1, h3⟩, if_pos h.2.2, sp_num]
set_option maxHeartbeats 4000000 in
set_option maxRecDepth 100000 in
theorem m_X6_looked {l : Launch} {X : hv_X} {V : hv_V} {x : Nat} {σ : hs_S} (hX : okX X V x σ) (hB : hs_b σ)  : hv_Mi l X 6 yX6_looked cX6_looked 3 .int V [.ref x] (fun y V1 => y = sp_looked σ ∧ okX X V1 x σ ∧ hv_out V V1 x (x + 92)) := by
  refine hv_enter (by decide) (Nat.le_of_ble_eq_true rfl) ?_
  intro p e s m below meth c ls C0 hr hlk hnm w hl
  have hl : lv_has ls 3 [(0, .ref x)] := hl
  obtain ⟨kk0, hX0, hPg, hKp, hTx, hTp, hSc⟩ := id hX
  obtain ⟨hP0, ⟨rf, hP1, hP2⟩, hP3, hP4, hP5, hP6⟩ := id hPg
  obtain ⟨⟨tf, hT1, hT2⟩, hT3⟩ := id hTp
  obtain ⟨⟨tk, tn, tg, hS1, hS2⟩, ⟨LF, hS3⟩, ⟨RF, hS4⟩, ⟨bf, hS5, hS6⟩, hS7, uf, hS8⟩ := id hSc
  have hbR := hB.1.1
  obtain ⟨sf, sg, sh, hL0, hL1, hL2, hL3, hLa⟩ := id hP4
  obtain ⟨ef, eg, eh, hM0, hM1, hM2, hM3, hMa⟩ := id hP5
  obtain ⟨kf, kg, kh, hK0, hK1, hK2, hK3, hKa⟩ := id hP6
  obtain ⟨pl, cl, wd, vl, hQ0, hQ1, hQ2, hQ3⟩ := id hTx
  have hk8 := hB.1.2.2.2.1
  have loop : ∀ (m9 k : Nat) (Hq : Heap) (lq : List Loc) (ls : Array Slot), (k + m9 = σ.1.2.2.2.1) → (sp_lk σ m9 k = sp_looked σ) → hv_w X s (V) Hq lq → lv_has ls 3 [(0, .ref x), (1, .int (nI k))] → W p l e (hv_rm 6 0 0) s m ([.ref x] : List Value).toArray below meth c Hq lq 0 0 (MQ below (hv_Qi X (fun y V1 => y = sp_looked σ ∧ okX X V1 x σ ∧ hv_out V V1 x (x + 92))) ([.ref x] : List Value).toArray s 0 0 X.2.2.1) (F0 m 2 ls []) := by
    intro m9
    induction m9 with
    | zero =>
      intro k Hq lq ls hi he w hl
      have he : (-5 : Int32) = sp_looked σ := he
      refine lv_iload_n C0.1 C0.2.1 dX6_looked_2 rfl (lv_at hl 1 rfl) ?_
      refine lv_aload_n C0.1 C0.2.1 dX6_looked_3 rfl (lv_at hl 0 rfl) ?_
      refine gf_X6_12 C0 w hX0 rfl dX6_looked_4 ?_
      refine gf_X6_223 C0 w hP0 rfl dX6_looked_7 ?_
      refine gf_X6_213 C0 w hK0 rfl dX6_looked_10 ?_
      refine lv_icmp_ge (tgt := 65) C0.1 C0.2.1 dX6_looked_13 (by decide) (fun c_13 => ?_) (fun c_13 => absurd (nI_le (by omega) (by omega)) c_13)
      refine lv_bipush (v := -5) C0.1 C0.2.1 dX6_looked_65 (by decide) ?_
      exact hv_iret C0 w hr hlk (⟨he, hX, hv_out.rf⟩) dX6_looked_67
    | succ m9 ih =>
      intro k Hq lq ls hi he w hl
      refine lv_iload_n C0.1 C0.2.1 dX6_looked_2 rfl (lv_at hl 1 rfl) ?_
      refine lv_aload_n C0.1 C0.2.1 dX6_looked_3 rfl (lv_at hl 0 rfl) ?_
      refine gf_X6_12 C0 w hX0 rfl dX6_looked_4 ?_
      refine gf_X6_223 C0 w hP0 rfl dX6_looked_7 ?_
      refine gf_X6_213 C0 w hK0 rfl dX6_looked_10 ?_
      refine lv_icmp_ge (tgt := 65) C0.1 C0.2.1 dX6_looked_13 (by decide) (fun c_13 => absurd c_13 (nI_ge (by omega) (by omega))) (fun c_13 => ?_)
      refine lv_aload_n C0.1 C0.2.1 dX6_looked_16 rfl (lv_at hl 0 rfl) ?_
      refine gf_X6_12 C0 w hX0 rfl dX6_looked_17 ?_
      refine gf_X6_223 C0 w hP0 rfl dX6_looked_20 ?_
      refine gf_X6_217 C0 w hK0 rfl dX6_looked_23 ?_
      refine lv_iload_n C0.1 C0.2.1 dX6_looked_26 rfl (lv_at hl 1 rfl) ?_
      refine hv_iald C0 w hK1 (hn_in (by omega) (by decide)) dX6_looked_27 ?_
      have hc1 : (nI k).toNatClampNeg = k := nI_clamp (by omega)
      rw [hc1]
      refine lv_istore_n (lv' := [(2, .int (kf k)), (0, .ref x), (1, .int (nI k))]) C0.1 C0.2.1 dX6_looked_28 rfl hl (by decide) rfl (fun ls hl => ?_)
      refine lv_aload_n C0.1 C0.2.1 dX6_looked_29 rfl (lv_at hl 1 rfl) ?_
      refine lv_iload_n C0.1 C0.2.1 dX6_looked_30 rfl (lv_at hl 0 rfl) ?_
      refine hv_cVi C0 w kl_X6_226 kv_X6_isSpotNow rfl hX0 (c_X6_isSpotNow hX hB) (by decide) (by decide) rfl hl.1 rfl (Nat.le_of_ble_eq_true rfl) dX6_looked_31 ⟨Nat.le_refl _, Nat.le_refl _⟩ (fun x2 V3 Hq lq hp4 w => ?_)
      obtain ⟨e9, hz9⟩ := hp4
      rw [e9] at w; clear e9
      rcases hz9 with ⟨rfl, hb5⟩ | ⟨rfl, hb5⟩
      · skip
        refine lv_if_eq (tgt := 57) C0.1 C0.2.1 dX6_looked_34 (by decide) (fun h9 => absurd h9 (by decide)) (fun _ => ?_)
        refine lv_aload_n C0.1 C0.2.1 dX6_looked_37 rfl (lv_at hl 1 rfl) ?_
        refine lv_iload_n C0.1 C0.2.1 dX6_looked_38 rfl (lv_at hl 0 rfl) ?_
        refine hv_cVi C0 w kl_X6_229 kv_X6_numberAtSpot rfl hX0 (c_X6_numberAtSpot hX hB) (by decide) (by decide) rfl hl.1 rfl (Nat.le_of_ble_eq_true rfl) dX6_looked_39 ⟨Nat.le_refl _, Nat.le_refl _⟩ (fun x6 V7 Hq lq hp8 w => ?_)
        obtain ⟨e9, e8⟩ := hp8
        rw [e9] at w; rw [e8]; clear e9 e8
        refine lv_aload_n C0.1 C0.2.1 dX6_looked_42 rfl (lv_at hl 1 rfl) ?_
        refine gf_X6_12 C0 w hX0 rfl dX6_looked_43 ?_
        refine gf_X6_223 C0 w hP0 rfl dX6_looked_46 ?_
        refine gf_X6_214 C0 w hK0 rfl dX6_looked_49 ?_
        refine lv_iload_n C0.1 C0.2.1 dX6_looked_52 rfl (lv_at hl 2 rfl) ?_
        refine hv_iald C0 w hK2 (hn_in (by omega) (by decide)) dX6_looked_53 ?_
        have hc9 : (nI k).toNatClampNeg = k := nI_clamp (by omega)
        rw [hc9]
        refine lv_icmp_eq (tgt := 59) C0.1 C0.2.1 dX6_looked_54 (by decide) (fun c_54 => ?_) (fun c_54 => ?_)
        · skip
          refine lv_iinc (v := (nI k) + 1) (lv' := [(1, .int ((nI k) + 1)), (2, .int (kf k)), (0, .ref x)]) C0.1 C0.2.1 dX6_looked_59 hl (k := 2) rfl rfl (by decide) rfl (fun ls hl => ?_)
          refine lv_goto (tgt := 2) C0.1 C0.2.1 dX6_looked_62 (by decide) ?_
          exact ih (k + 1) _ _ ls (by omega) (by rw [← he, sp_lk, if_neg (by rw [← (hKa k (by omega)).1, ← (hKa k (by omega)).2.1]; exact fun h9 => h9.elim (fun h8 => h8 hb5) (fun h8 => h8 (by rw [← sp_of_num hb5]; exact c_54)))]) w (by have h9 := (lv_sub (l' := [(0, .ref x), (1, .int (nI k + 1))]) hl [2, 0] rfl); rw [nI_1] at h9; exact h9)
        · skip
          refine lv_iload_n C0.1 C0.2.1 dX6_looked_57 rfl (lv_at hl 2 rfl) ?_
          exact hv_iret C0 w hr hlk (⟨by rw [← he, sp_lk, if_pos (by rw [← (hKa k (by omega)).1, ← (hKa k (by omega)).2.1]; exact Or.inr (fun h8 => c_54 (by rw [sp_of_num hb5]; exact h8)))], hX, hv_out.rf⟩) dX6_looked_58
      · skip
        refine lv_if_eq (tgt := 57) C0.1 C0.2.1 dX6_looked_34 (by decide) (fun _ => ?_) (fun h9 => absurd h9 (by decide))
        refine lv_iload_n C0.1 C0.2.1 dX6_looked_57 rfl (lv_at hl 2 rfl) ?_
        exact hv_iret C0 w hr hlk (⟨by rw [← he, sp_lk, if_pos (by rw [← (hKa k (by omega)).1, ← (hKa k (by omega)).2.1]; exact Or.inl hb5)], hX, hv_out.rf⟩) dX6_looked_58
  refine lv_iconst (v := 0) C0.1 C0.2.1 dX6_looked_0 (by decide) ?_
  refine lv_istore_n (lv' := [(1, .int 0), (0, .ref x)]) C0.1 C0.2.1 dX6_looked_1 rfl hl (by decide) rfl (fun ls hl => ?_)
  exact loop σ.1.2.2.2.1 0 _ _ ls (by omega) rfl w (lv_sub hl [1, 0] rfl)

set_option maxHeartbeats 4000000 in
set_option maxRecDepth 100000 in
theorem c_X6_isAsSeen {l : Launch} {X : hv_X} {V : hv_V} {x : Nat} {σ : hs_S} (hX : okX X V x σ) (hB : hs_b σ) {j9 : Int32} {o : Nat} {F : fx_F} (hO : V o = some (fE F)) : hv_Mi l X 2 yX6_isAsSeen cX6_isAsSeen 4 .boolean V [.ref x, .int j9, .ref o] (fun y V1 => V1 = V ∧ hv_B (sp_seen σ j9 F = true) y) := by
  refine hv_enter (by decide) (Nat.le_of_ble_eq_true rfl) ?_
  intro p e s m below meth c ls C0 hr hlk hnm w hl
  have hl : lv_has ls 4 [(0, .ref x), (1, .int j9), (2, .ref o)] := hl
  obtain ⟨kk0, hX0, hPg, hKp, hTx, hTp, hSc⟩ := id hX
  obtain ⟨hP0, ⟨rf, hP1, hP2⟩, hP3, hP4, hP5, hP6⟩ := id hPg
  obtain ⟨⟨tf, hT1, hT2⟩, hT3⟩ := id hTp
  obtain ⟨⟨tk, tn, tg, hS1, hS2⟩, ⟨LF, hS3⟩, ⟨RF, hS4⟩, ⟨bf, hS5, hS6⟩, hS7, uf, hS8⟩ := id hSc
  have hbR := hB.1.1
  obtain ⟨sf, sg, sh, hL0, hL1, hL2, hL3, hLa⟩ := id hP4
  obtain ⟨ef, eg, eh, hM0, hM1, hM2, hM3, hMa⟩ := id hP5
  obtain ⟨kf, kg, kh, hK0, hK1, hK2, hK3, hKa⟩ := id hP6
  obtain ⟨pl, cl, wd, vl, hQ0, hQ1, hQ2, hQ3⟩ := id hTx
  have hk4 := hB.1.2.1.1
  have loop : ∀ (m9 k : Nat) (Hq : Heap) (lq : List Loc) (ls : Array Slot), (k + m9 = σ.1.2.1.1) → (sp_sn σ j9 F m9 k = sp_seen σ j9 F) → hv_w X s (V) Hq lq → lv_has ls 4 [(0, .ref x), (1, .int j9), (2, .ref o), (3, .int (nI k))] → W p l e (hv_rm 2 0 0) s m ([.ref x, .int j9, .ref o] : List Value).toArray below meth c Hq lq 0 0 (MQ below (hv_Qi X (fun y V1 => V1 = V ∧ hv_B (sp_seen σ j9 F = true) y)) ([.ref x, .int j9, .ref o] : List Value).toArray s 0 0 X.2.2.1) (F0 m 2 ls []) := by
    intro m9
    induction m9 with
    | zero =>
      intro k Hq lq ls hi he w hl
      have he : true = sp_seen σ j9 F := he
      refine lv_iload_n C0.1 C0.2.1 dX6_isAsSeen_2 rfl (lv_at hl 3 rfl) ?_
      refine lv_aload_n C0.1 C0.2.1 dX6_isAsSeen_3 rfl (lv_at hl 0 rfl) ?_
      refine gf_X6_12 C0 w hX0 rfl dX6_isAsSeen_4 ?_
      refine gf_X6_173 C0 w hP0 rfl dX6_isAsSeen_7 ?_
      refine gf_X6_213 C0 w hL0 rfl dX6_isAsSeen_10 ?_
      refine lv_icmp_ge (tgt := 73) C0.1 C0.2.1 dX6_isAsSeen_13 (by decide) (fun c_13 => ?_) (fun c_13 => absurd (nI_le (by omega) (by omega)) c_13)
      refine lv_iconst (v := 1) C0.1 C0.2.1 dX6_isAsSeen_73 (by decide) ?_
      exact hv_zret C0 w hr hlk (by decide) (⟨rfl, Or.inl ⟨rfl, he.symm⟩⟩) dX6_isAsSeen_74
    | succ m9 ih =>
      intro k Hq lq ls hi he w hl
      refine lv_iload_n C0.1 C0.2.1 dX6_isAsSeen_2 rfl (lv_at hl 3 rfl) ?_
      refine lv_aload_n C0.1 C0.2.1 dX6_isAsSeen_3 rfl (lv_at hl 0 rfl) ?_
      refine gf_X6_12 C0 w hX0 rfl dX6_isAsSeen_4 ?_
      refine gf_X6_173 C0 w hP0 rfl dX6_isAsSeen_7 ?_
      refine gf_X6_213 C0 w hL0 rfl dX6_isAsSeen_10 ?_
      refine lv_icmp_ge (tgt := 73) C0.1 C0.2.1 dX6_isAsSeen_13 (by decide) (fun c_13 => absurd c_13 (nI_ge (by omega) (by omega))) (fun c_13 => ?_)
      refine lv_aload_n C0.1 C0.2.1 dX6_isAsSeen_16 rfl (lv_at hl 0 rfl) ?_
      refine gf_X6_12 C0 w hX0 rfl dX6_isAsSeen_17 ?_
      refine gf_X6_173 C0 w hP0 rfl dX6_isAsSeen_20 ?_
      refine gf_X6_217 C0 w hL0 rfl dX6_isAsSeen_23 ?_
      refine lv_iload_n C0.1 C0.2.1 dX6_isAsSeen_26 rfl (lv_at hl 3 rfl) ?_
      refine hv_iald C0 w hL1 (hn_in (by omega) (by decide)) dX6_isAsSeen_27 ?_
      have hc1 : (nI k).toNatClampNeg = k := nI_clamp (by omega)
      rw [hc1]
      refine lv_iload_n C0.1 C0.2.1 dX6_isAsSeen_28 rfl (lv_at hl 1 rfl) ?_
      refine lv_icmp_ne (tgt := 67) C0.1 C0.2.1 dX6_isAsSeen_29 (by decide) (fun c_29 => ?_) (fun c_29 => ?_)
      · skip
        refine lv_iinc (v := (nI k) + 1) (lv' := [(3, .int ((nI k) + 1)), (0, .ref x), (1, .int j9), (2, .ref o)]) C0.1 C0.2.1 dX6_isAsSeen_67 hl (k := 3) rfl rfl (by decide) rfl (fun ls hl => ?_)
        refine lv_goto (tgt := 2) C0.1 C0.2.1 dX6_isAsSeen_70 (by decide) ?_
        exact ih (k + 1) _ _ ls (by omega) (by rw [← he, sp_sn, if_neg (by rw [← (hLa k (by omega)).1, ← (hLa k (by omega)).2.1, ← (hLa k (by omega)).2.2]; exact fun h9 => c_29 h9.1)]) w (by have h9 := (lv_sub (l' := [(0, .ref x), (1, .int j9), (2, .ref o), (3, .int (nI k + 1))]) hl [1, 2, 3, 0] rfl); rw [nI_1] at h9; exact h9)
      · skip
        refine lv_aload_n C0.1 C0.2.1 dX6_isAsSeen_32 rfl (lv_at hl 2 rfl) ?_
        refine lv_aload_n C0.1 C0.2.1 dX6_isAsSeen_33 rfl (lv_at hl 0 rfl) ?_
        refine gf_X6_12 C0 w hX0 rfl dX6_isAsSeen_34 ?_
        refine gf_X6_173 C0 w hP0 rfl dX6_isAsSeen_37 ?_
        refine gf_X6_214 C0 w hL0 rfl dX6_isAsSeen_40 ?_
        refine lv_iload_n C0.1 C0.2.1 dX6_isAsSeen_43 rfl (lv_at hl 3 rfl) ?_
        refine hv_iald C0 w hL2 (hn_in (by omega) (by decide)) dX6_isAsSeen_44 ?_
        have hc2 : (nI k).toNatClampNeg = k := nI_clamp (by omega)
        rw [hc2]
        refine lv_i2l (v := (sg k).toInt64) C0.1 C0.2.1 dX6_isAsSeen_45 rfl ?_
        refine lv_aload_n C0.1 C0.2.1 dX6_isAsSeen_46 rfl (lv_at hl 0 rfl) ?_
        refine gf_X6_12 C0 w hX0 rfl dX6_isAsSeen_47 ?_
        refine gf_X6_173 C0 w hP0 rfl dX6_isAsSeen_50 ?_
        refine gf_X6_305 C0 w hL0 rfl dX6_isAsSeen_53 ?_
        refine lv_iload_n C0.1 C0.2.1 dX6_isAsSeen_56 rfl (lv_at hl 3 rfl) ?_
        refine hv_iald C0 w hL3 (hn_in (by omega) (by decide)) dX6_isAsSeen_57 ?_
        have hc3 : (nI k).toNatClampNeg = k := nI_clamp (by omega)
        rw [hc3]
        refine lv_i2l (v := (sh k).toInt64) C0.1 C0.2.1 dX6_isAsSeen_58 rfl ?_
        refine hv_cVi C0 w kl_X6_308 kv_X0_isJust rfl hO (c_X0_isJust (F := F) hO) (by decide) (by decide) rfl hl.1 rfl (Nat.le_of_ble_eq_true rfl) dX6_isAsSeen_59 ⟨Nat.le_refl _, Nat.le_refl _⟩ (fun x4 V5 Hq lq hp6 w => ?_)
        obtain ⟨e9, hz9⟩ := hp6
        rw [e9] at w; clear e9
        rcases hz9 with ⟨rfl, hu7⟩ | ⟨rfl, hu7⟩
        · skip
          refine lv_if_ne (tgt := 67) C0.1 C0.2.1 dX6_isAsSeen_62 (by decide) (fun _ => ?_) (fun h9 => absurd h9 (by decide))
          refine lv_iinc (v := (nI k) + 1) (lv' := [(3, .int ((nI k) + 1)), (0, .ref x), (1, .int j9), (2, .ref o)]) C0.1 C0.2.1 dX6_isAsSeen_67 hl (k := 3) rfl rfl (by decide) rfl (fun ls hl => ?_)
          refine lv_goto (tgt := 2) C0.1 C0.2.1 dX6_isAsSeen_70 (by decide) ?_
          exact ih (k + 1) _ _ ls (by omega) (by rw [← he, sp_sn, if_neg (by rw [← (hLa k (by omega)).1, ← (hLa k (by omega)).2.1, ← (hLa k (by omega)).2.2]; exact fun h9 => h9.2 hu7)]) w (by have h9 := (lv_sub (l' := [(0, .ref x), (1, .int j9), (2, .ref o), (3, .int (nI k + 1))]) hl [1, 2, 3, 0] rfl); rw [nI_1] at h9; exact h9)
        · skip
          refine lv_if_ne (tgt := 67) C0.1 C0.2.1 dX6_isAsSeen_62 (by decide) (fun h9 => absurd h9 (by decide)) (fun _ => ?_)
          refine lv_iconst (v := 0) C0.1 C0.2.1 dX6_isAsSeen_65 (by decide) ?_
          exact hv_zret C0 w hr hlk (by decide) (⟨rfl, Or.inr ⟨rfl, by rw [← he, sp_sn, if_pos (by rw [← (hLa k (by omega)).1, ← (hLa k (by omega)).2.1, ← (hLa k (by omega)).2.2]; exact ⟨c_29, hu7⟩)]; decide⟩⟩) dX6_isAsSeen_66
  refine lv_iconst (v := 0) C0.1 C0.2.1 dX6_isAsSeen_0 (by decide) ?_
  refine lv_istore_n (lv' := [(3, .int 0), (0, .ref x), (1, .int j9), (2, .ref o)]) C0.1 C0.2.1 dX6_isAsSeen_1 rfl hl (by decide) rfl (fun ls hl => ?_)
  exact loop σ.1.2.1.1 0 _ _ ls (by omega) rfl w (lv_sub hl [1, 2, 3, 0] rfl)

