/-! LISTING: three rows of M places each, at l + 1, l + 2, l + 3; n are told -/
abbrev lE (l n : Nat) : va_E := .inr (1, [.ref (l + 1), .ref (l + 2), .ref (l + 3), .int (nI n)])
abbrev iE (X : hv_X) (M : Nat) (f : Nat → Int32) : va_E := .inl (X.2.1 0, M, .inl f)
def sp_cp {α : Type} (f g : Nat → α) (n : Nat) : Nat → α := fun j => if j < n then g j else f j
theorem sp_cp0 {α : Type} (f g : Nat → α) : sp_cp f g 0 = f := by funext j; simp [sp_cp]
theorem sp_cps (f g : Nat → Int32) (n : Nat) : upd (sp_cp f g n) n (g n) = sp_cp f g (n + 1) := by
  funext j
  by_cases h : j = n
  · subst h; simp [sp_cp, upd]
  · by_cases h2 : j < n
    · simp [sp_cp, upd, h, h2, Nat.lt_succ_of_lt h2]
    · simp [sp_cp, upd, h, h2, show ¬ j < n + 1 by omega]
set_option maxHeartbeats 4000000 in
set_option maxRecDepth 100000 in
theorem c_X1_clear {l : Launch} {X : hv_X} {V : hv_V} {li n M : Nat} {f g h : Nat → Int32} (hL : V li = some (lE li n)) (h1 : V (li + 1) = some (iE X M f)) (h2 : V (li + 2) = some (iE X M g)) (h3 : V (li + 3) = some (iE X M h))  : hv_Mi l X 0 yX1_clear cX1_clear 1 .int V [.ref li] (fun x V1 => V1 = hv_up V li (lE li 0) ∧ x = 0) := by
  refine hv_enter (by decide) (Nat.le_of_ble_eq_true rfl) ?_
  intro p e s m below meth c ls C0 hr hlk hnm w hl
  have hl : lv_has ls 1 [(0, .ref li)] := hl
  refine lv_aload_n C0.1 C0.2.1 dX1_clear_0 rfl (lv_at hl 0 rfl) ?_
  refine lv_iconst (v := 0) C0.1 C0.2.1 dX1_clear_1 (by decide) ?_
  refine pf_X1_27 C0 w hL (by simp) dX1_clear_2 (fun Hq lq w => ?_)
  obtain ⟨V1, eV2⟩ : ∃ V9, V9 = hv_up V li (.inr (1, [.ref (li + 1), .ref (li + 2), .ref (li + 3), .int 0])) := ⟨_, rfl⟩
  have w : hv_w X s V1 Hq lq := by rw [eV2]; exact w
  have hV4 : V1 (li + 1) = some (.inl (X.2.1 0, M, .inl f)) := by rw [eV2, hv_un (by omega)]; exact h1
  have hV5 : V1 (li + 2) = some (.inl (X.2.1 0, M, .inl g)) := by rw [eV2, hv_un (by omega)]; exact h2
  have hV6 : V1 (li + 3) = some (.inl (X.2.1 0, M, .inl h)) := by rw [eV2, hv_un (by omega)]; exact h3
  have hV7 : V1 li = some (.inr (1, [.ref (li + 1), .ref (li + 2), .ref (li + 3), .int 0])) := by rw [eV2]; exact hv_us
  refine lv_iconst (v := 0) C0.1 C0.2.1 dX1_clear_5 (by decide) ?_
  exact hv_iret C0 w hr hlk (⟨eV2, rfl⟩) dX1_clear_6

set_option maxHeartbeats 4000000 in
set_option maxRecDepth 100000 in
theorem c_X1_put {l : Launch} {X : hv_X} {V : hv_V} {li n M : Nat} {f g h : Nat → Int32} (hL : V li = some (lE li n)) (h1 : V (li + 1) = some (iE X M f)) (h2 : V (li + 2) = some (iE X M g)) (h3 : V (li + 3) = some (iE X M h)) (hn : n ≤ M) (hM : M < 2 ^ 31) {x1 x2 x3 : Int32} : hv_Mi l X 0 yX1_put cX1_put 4 .int V [.ref li, .int x1, .int x2, .int x3] (fun x V1 => (n < M ∧ x = nI (n + 1) ∧ V1 = hv_up (hv_up (hv_up (hv_up V (li + 1) (iE X M (upd f n x1))) (li + 2) (iE X M (upd g n x2))) (li + 3) (iE X M (upd h n x3))) li (lE li (n + 1))) ∨ (¬ n < M ∧ x = -4 ∧ V1 = V)) := by
  refine hv_enter (by decide) (Nat.le_of_ble_eq_true rfl) ?_
  intro p e s m below meth c ls C0 hr hlk hnm w hl
  have hl : lv_has ls 4 [(0, .ref li), (1, .int x1), (2, .int x2), (3, .int x3)] := hl
  refine lv_aload_n C0.1 C0.2.1 dX1_put_0 rfl (lv_at hl 0 rfl) ?_
  refine gf_X1_27 C0 w hL rfl dX1_put_1 ?_
  refine lv_aload_n C0.1 C0.2.1 dX1_put_4 rfl (lv_at hl 0 rfl) ?_
  refine gf_X1_15 C0 w hL rfl dX1_put_5 ?_
  refine hv_alen 0 (v := Int32.ofNat M) C0 w rfl h1 rfl dX1_put_8 ?_
  refine lv_icmp_lt (tgt := 15) C0.1 C0.2.1 dX1_put_9 (by decide) (fun c_9 => ?_) (fun c_9 => ?_)
  · skip
    have hlt : n < M := (nI_ltI (by omega) hM).mp (show nI n < nI M from c_9)
    refine lv_aload_n C0.1 C0.2.1 dX1_put_15 rfl (lv_at hl 0 rfl) ?_
    refine gf_X1_15 C0 w hL rfl dX1_put_16 ?_
    refine lv_aload_n C0.1 C0.2.1 dX1_put_19 rfl (lv_at hl 0 rfl) ?_
    refine gf_X1_27 C0 w hL rfl dX1_put_20 ?_
    refine lv_iload_n C0.1 C0.2.1 dX1_put_23 rfl (lv_at hl 1 rfl) ?_
    refine hv_iast C0 w h1 (hn_in hlt hM) dX1_put_24 (fun Hq lq w => ?_)
    have hc1 : (nI n).toNatClampNeg = n := nI_clamp (by omega)
    rw [hc1] at w
    obtain ⟨V2, eV3⟩ : ∃ V9, V9 = hv_up V (li + 1) (.inl (X.2.1 0, M, .inl (upd f n x1))) := ⟨_, rfl⟩
    have w : hv_w X s V2 Hq lq := by rw [eV3]; exact w
    have hV4 : V2 li = some (.inr (1, [.ref (li + 1), .ref (li + 2), .ref (li + 3), .int (nI n)])) := by rw [eV3, hv_un (by omega)]; exact hL
    have hV6 : V2 (li + 2) = some (.inl (X.2.1 0, M, .inl g)) := by rw [eV3, hv_un (by omega)]; exact h2
    have hV7 : V2 (li + 3) = some (.inl (X.2.1 0, M, .inl h)) := by rw [eV3, hv_un (by omega)]; exact h3
    have hV8 : V2 (li + 1) = some (.inl (X.2.1 0, M, .inl (upd f n x1))) := by rw [eV3]; exact hv_us
    refine lv_aload_n C0.1 C0.2.1 dX1_put_25 rfl (lv_at hl 0 rfl) ?_
    refine gf_X1_21 C0 w hV4 rfl dX1_put_26 ?_
    refine lv_aload_n C0.1 C0.2.1 dX1_put_29 rfl (lv_at hl 0 rfl) ?_
    refine gf_X1_27 C0 w hV4 rfl dX1_put_30 ?_
    refine lv_iload_n C0.1 C0.2.1 dX1_put_33 rfl (lv_at hl 2 rfl) ?_
    refine hv_iast C0 w hV6 (hn_in hlt hM) dX1_put_34 (fun Hq lq w => ?_)
    have hc9 : (nI n).toNatClampNeg = n := nI_clamp (by omega)
    rw [hc9] at w
    obtain ⟨V10, eV11⟩ : ∃ V9, V9 = hv_up V2 (li + 2) (.inl (X.2.1 0, M, .inl (upd g n x2))) := ⟨_, rfl⟩
    have w : hv_w X s V10 Hq lq := by rw [eV11]; exact w
    have hV12 : V10 li = some (.inr (1, [.ref (li + 1), .ref (li + 2), .ref (li + 3), .int (nI n)])) := by rw [eV11, hv_un (by omega)]; exact hV4
    have hV14 : V10 (li + 3) = some (.inl (X.2.1 0, M, .inl h)) := by rw [eV11, hv_un (by omega)]; exact hV7
    have hV15 : V10 (li + 1) = some (.inl (X.2.1 0, M, .inl (upd f n x1))) := by rw [eV11, hv_un (by omega)]; exact hV8
    have hV16 : V10 (li + 2) = some (.inl (X.2.1 0, M, .inl (upd g n x2))) := by rw [eV11]; exact hv_us
    refine lv_aload_n C0.1 C0.2.1 dX1_put_35 rfl (lv_at hl 0 rfl) ?_
    refine gf_X1_24 C0 w hV12 rfl dX1_put_36 ?_
    refine lv_aload_n C0.1 C0.2.1 dX1_put_39 rfl (lv_at hl 0 rfl) ?_
    refine gf_X1_27 C0 w hV12 rfl dX1_put_40 ?_
    refine lv_iload_n C0.1 C0.2.1 dX1_put_43 rfl (lv_at hl 3 rfl) ?_
    refine hv_iast C0 w hV14 (hn_in hlt hM) dX1_put_44 (fun Hq lq w => ?_)
    have hc17 : (nI n).toNatClampNeg = n := nI_clamp (by omega)
    rw [hc17] at w
    obtain ⟨V18, eV19⟩ : ∃ V9, V9 = hv_up V10 (li + 3) (.inl (X.2.1 0, M, .inl (upd h n x3))) := ⟨_, rfl⟩
    have w : hv_w X s V18 Hq lq := by rw [eV19]; exact w
    have hV20 : V18 li = some (.inr (1, [.ref (li + 1), .ref (li + 2), .ref (li + 3), .int (nI n)])) := by rw [eV19, hv_un (by omega)]; exact hV12
    have hV22 : V18 (li + 1) = some (.inl (X.2.1 0, M, .inl (upd f n x1))) := by rw [eV19, hv_un (by omega)]; exact hV15
    have hV23 : V18 (li + 2) = some (.inl (X.2.1 0, M, .inl (upd g n x2))) := by rw [eV19, hv_un (by omega)]; exact hV16
    have hV24 : V18 (li + 3) = some (.inl (X.2.1 0, M, .inl (upd h n x3))) := by rw [eV19]; exact hv_us
    refine lv_aload_n C0.1 C0.2.1 dX1_put_45 rfl (lv_at hl 0 rfl) ?_
    refine lv_dup C0.1 C0.2.1 dX1_put_46 rfl ?_
    refine gf_X1_27 C0 w hV20 rfl dX1_put_47 ?_
    refine lv_iconst (v := 1) C0.1 C0.2.1 dX1_put_50 (by decide) ?_
    refine lv_iadd C0.1 C0.2.1 dX1_put_51 ?_
    rw [nI_1]
    refine pf_X1_27 C0 w hV20 (by simp) dX1_put_52 (fun Hq lq w => ?_)
    obtain ⟨V25, eV26⟩ : ∃ V9, V9 = hv_up V18 li (.inr (1, [.ref (li + 1), .ref (li + 2), .ref (li + 3), .int (nI (n + 1))])) := ⟨_, rfl⟩
    have w : hv_w X s V25 Hq lq := by rw [eV26]; exact w
    have hV28 : V25 (li + 1) = some (.inl (X.2.1 0, M, .inl (upd f n x1))) := by rw [eV26, hv_un (by omega)]; exact hV22
    have hV29 : V25 (li + 2) = some (.inl (X.2.1 0, M, .inl (upd g n x2))) := by rw [eV26, hv_un (by omega)]; exact hV23
    have hV30 : V25 (li + 3) = some (.inl (X.2.1 0, M, .inl (upd h n x3))) := by rw [eV26, hv_un (by omega)]; exact hV24
    have hV31 : V25 li = some (.inr (1, [.ref (li + 1), .ref (li + 2), .ref (li + 3), .int (nI (n + 1))])) := by rw [eV26]; exact hv_us
    refine lv_aload_n C0.1 C0.2.1 dX1_put_55 rfl (lv_at hl 0 rfl) ?_
    refine gf_X1_27 C0 w hV31 rfl dX1_put_56 ?_
    exact hv_iret C0 w hr hlk (Or.inl ⟨hlt, rfl, by rw [eV26, eV19, eV11, eV3]⟩) dX1_put_59
  · skip
    refine lv_bipush (v := -4) C0.1 C0.2.1 dX1_put_12 (by decide) ?_
    exact hv_iret C0 w hr hlk (Or.inr ⟨fun h9 => c_9 (show nI n < nI M from nI_lt h9 hM), rfl, rfl⟩) dX1_put_14

theorem hv_p4 {V : hv_V} {a b c d : Nat} {e1 e2 e3 e4 g1 g2 g3 g4 : va_E} (hab : a ≠ b) (hac : a ≠ c) (had : a ≠ d) (hbc : b ≠ c) (hbd : b ≠ d) (hcd : c ≠ d) : hv_up (hv_up (hv_up (hv_up (hv_up (hv_up (hv_up (hv_up V a e1) b e2) c e3) d e4) a g1) b g2) c g3) d g4 = hv_up (hv_up (hv_up (hv_up V a g1) b g2) c g3) d g4 := by
  funext q
  by_cases h4 : q = d
  · subst h4; rw [hv_us, hv_us]
  · rw [hv_un h4, hv_un h4]
    by_cases h3 : q = c
    · subst h3; rw [hv_us, hv_us]
    · rw [hv_un h3, hv_un h3]
      by_cases h2 : q = b
      · subst h2; rw [hv_us, hv_us]
      · rw [hv_un h2, hv_un h2]
        by_cases h1 : q = a
        · subst h1; rw [hv_us, hv_us]
        · rw [hv_un h1, hv_un h1, hv_un h4, hv_un h3, hv_un h2, hv_un h1]
set_option maxHeartbeats 4000000 in
set_option maxRecDepth 100000 in
theorem c_X1_becomeAs {l : Launch} {X : hv_X} {V : hv_V} {li n M : Nat} {f g h : Nat → Int32} (hL : V li = some (lE li n)) (h1 : V (li + 1) = some (iE X M f)) (h2 : V (li + 2) = some (iE X M g)) (h3 : V (li + 3) = some (iE X M h)) {l2 k : Nat} {f2 g2 h2f : Nat → Int32} (kL : V l2 = some (lE l2 k)) (k1 : V (l2 + 1) = some (iE X M f2)) (k2 : V (l2 + 2) = some (iE X M g2)) (k3 : V (l2 + 3) = some (iE X M h2f)) (hk : k ≤ M) (hM : M < 2 ^ 31) (hdis : li + 3 < l2 ∨ l2 + 3 < li) : hv_Mv l X 1 yX1_becomeAs cX1_becomeAs 3 V [.ref li, .ref l2] (fun V1 => V1 = hv_up (hv_up (hv_up (hv_up V (li + 1) (iE X M (sp_cp f f2 k))) (li + 2) (iE X M (sp_cp g g2 k))) (li + 3) (iE X M (sp_cp h h2f k))) li (lE li k)) := by
  refine hv_enter (by decide) (Nat.le_of_ble_eq_true rfl) ?_
  intro p e s m below meth c ls C0 hr hlk hnm w hl
  have hl : lv_has ls 3 [(0, .ref li), (1, .ref l2)] := hl
  have loop : ∀ (m9 i : Nat) (Hq : Heap) (lq : List Loc) (ls : Array Slot), (i + m9 = k) → hv_w X s (hv_up (hv_up (hv_up (hv_up V (li + 1) (iE X M (sp_cp f f2 i))) (li + 2) (iE X M (sp_cp g g2 i))) (li + 3) (iE X M (sp_cp h h2f i))) li (lE li i)) Hq lq → lv_has ls 3 [(0, .ref li), (1, .ref l2), (2, .int (nI i))] → W p l e (hv_rm 1 0 0) s m ([.ref li, .ref l2] : List Value).toArray below meth c Hq lq 0 0 (MQ below (hv_Qv X (fun V1 => V1 = hv_up (hv_up (hv_up (hv_up V (li + 1) (iE X M (sp_cp f f2 k))) (li + 2) (iE X M (sp_cp g g2 k))) (li + 3) (iE X M (sp_cp h h2f k))) li (lE li k))) ([.ref li, .ref l2] : List Value).toArray s 0 0 X.2.2.1) (F0 m 7 ls []) := by
    intro m9
    induction m9 with
    | zero =>
      intro i Hq lq ls hi w hl
      have hi : i = k := hi
      obtain ⟨V8, e8⟩ : ∃ V8, V8 = hv_up (hv_up (hv_up (hv_up V (li + 1) (iE X M (sp_cp f f2 i))) (li + 2) (iE X M (sp_cp g g2 i))) (li + 3) (iE X M (sp_cp h h2f i))) li (lE li i) := ⟨_, rfl⟩
      rw [← e8] at w
      have q0 : V8 li = some (lE li i) := by rw [e8]; exact hv_us
      have q1 : V8 (li + 1) = some (iE X M (sp_cp f f2 i)) := by rw [e8, hv_un (by omega), hv_un (by omega), hv_un (by omega)]; exact hv_us
      have q2 : V8 (li + 2) = some (iE X M (sp_cp g g2 i)) := by rw [e8, hv_un (by omega), hv_un (by omega)]; exact hv_us
      have q3 : V8 (li + 3) = some (iE X M (sp_cp h h2f i)) := by rw [e8, hv_un (by omega)]; exact hv_us
      have p0 : V8 l2 = some (lE l2 k) := by rw [e8, hv_un (by omega), hv_un (by omega), hv_un (by omega), hv_un (by omega)]; exact kL
      have p1 : V8 (l2 + 1) = some (iE X M f2) := by rw [e8, hv_un (by omega), hv_un (by omega), hv_un (by omega), hv_un (by omega)]; exact k1
      have p2 : V8 (l2 + 2) = some (iE X M g2) := by rw [e8, hv_un (by omega), hv_un (by omega), hv_un (by omega), hv_un (by omega)]; exact k2
      have p3 : V8 (l2 + 3) = some (iE X M h2f) := by rw [e8, hv_un (by omega), hv_un (by omega), hv_un (by omega), hv_un (by omega)]; exact k3
      refine lv_iload_n C0.1 C0.2.1 dX1_becomeAs_7 rfl (lv_at hl 2 rfl) ?_
      refine lv_aload_n C0.1 C0.2.1 dX1_becomeAs_8 rfl (lv_at hl 1 rfl) ?_
      refine gf_X1_27 C0 w p0 rfl dX1_becomeAs_9 ?_
      refine lv_icmp_ge (tgt := 44) C0.1 C0.2.1 dX1_becomeAs_12 (by decide) (fun c_12 => ?_) (fun c_12 => absurd (nI_le (by omega) (by omega)) c_12)
      exact hv_vret C0 w hr hlk (by rw [e8, hi]) dX1_becomeAs_44
    | succ m9 ih =>
      intro i Hq lq ls hi w hl
      obtain ⟨V8, e8⟩ : ∃ V8, V8 = hv_up (hv_up (hv_up (hv_up V (li + 1) (iE X M (sp_cp f f2 i))) (li + 2) (iE X M (sp_cp g g2 i))) (li + 3) (iE X M (sp_cp h h2f i))) li (lE li i) := ⟨_, rfl⟩
      rw [← e8] at w
      have q0 : V8 li = some (lE li i) := by rw [e8]; exact hv_us
      have q1 : V8 (li + 1) = some (iE X M (sp_cp f f2 i)) := by rw [e8, hv_un (by omega), hv_un (by omega), hv_un (by omega)]; exact hv_us
      have q2 : V8 (li + 2) = some (iE X M (sp_cp g g2 i)) := by rw [e8, hv_un (by omega), hv_un (by omega)]; exact hv_us
      have q3 : V8 (li + 3) = some (iE X M (sp_cp h h2f i)) := by rw [e8, hv_un (by omega)]; exact hv_us
      have p0 : V8 l2 = some (lE l2 k) := by rw [e8, hv_un (by omega), hv_un (by omega), hv_un (by omega), hv_un (by omega)]; exact kL
      have p1 : V8 (l2 + 1) = some (iE X M f2) := by rw [e8, hv_un (by omega), hv_un (by omega), hv_un (by omega), hv_un (by omega)]; exact k1
      have p2 : V8 (l2 + 2) = some (iE X M g2) := by rw [e8, hv_un (by omega), hv_un (by omega), hv_un (by omega), hv_un (by omega)]; exact k2
      have p3 : V8 (l2 + 3) = some (iE X M h2f) := by rw [e8, hv_un (by omega), hv_un (by omega), hv_un (by omega), hv_un (by omega)]; exact k3
      refine lv_iload_n C0.1 C0.2.1 dX1_becomeAs_7 rfl (lv_at hl 2 rfl) ?_
      refine lv_aload_n C0.1 C0.2.1 dX1_becomeAs_8 rfl (lv_at hl 1 rfl) ?_
      refine gf_X1_27 C0 w p0 rfl dX1_becomeAs_9 ?_
      refine lv_icmp_ge (tgt := 44) C0.1 C0.2.1 dX1_becomeAs_12 (by decide) (fun c_12 => absurd c_12 (nI_ge (by omega) (by omega))) (fun c_12 => ?_)
      refine lv_aload_n C0.1 C0.2.1 dX1_becomeAs_15 rfl (lv_at hl 0 rfl) ?_
      refine lv_aload_n C0.1 C0.2.1 dX1_becomeAs_16 rfl (lv_at hl 1 rfl) ?_
      refine gf_X1_15 C0 w p0 rfl dX1_becomeAs_17 ?_
      refine lv_iload_n C0.1 C0.2.1 dX1_becomeAs_20 rfl (lv_at hl 2 rfl) ?_
      refine hv_iald C0 w p1 (hn_in (by omega) hM) dX1_becomeAs_21 ?_
      have hc1 : (nI i).toNatClampNeg = i := nI_clamp (by omega)
      rw [hc1]
      refine lv_aload_n C0.1 C0.2.1 dX1_becomeAs_22 rfl (lv_at hl 1 rfl) ?_
      refine gf_X1_21 C0 w p0 rfl dX1_becomeAs_23 ?_
      refine lv_iload_n C0.1 C0.2.1 dX1_becomeAs_26 rfl (lv_at hl 2 rfl) ?_
      refine hv_iald C0 w p2 (hn_in (by omega) hM) dX1_becomeAs_27 ?_
      have hc2 : (nI i).toNatClampNeg = i := nI_clamp (by omega)
      rw [hc2]
      refine lv_aload_n C0.1 C0.2.1 dX1_becomeAs_28 rfl (lv_at hl 1 rfl) ?_
      refine gf_X1_24 C0 w p0 rfl dX1_becomeAs_29 ?_
      refine lv_iload_n C0.1 C0.2.1 dX1_becomeAs_32 rfl (lv_at hl 2 rfl) ?_
      refine hv_iald C0 w p3 (hn_in (by omega) hM) dX1_becomeAs_33 ?_
      have hc3 : (nI i).toNatClampNeg = i := nI_clamp (by omega)
      rw [hc3]
      refine hv_cVi C0 w kl_X1_35 kv_X1_put rfl q0 (c_X1_put q0 q1 q2 q3 (by omega) hM) (by decide) (by decide) rfl hl.1 rfl (Nat.le_of_ble_eq_true rfl) dX1_becomeAs_34 ⟨Nat.le_refl _, Nat.le_refl _⟩ (fun x4 V5 Hq lq hp6 w => ?_)
      obtain ⟨hlt, ex9, hp6b⟩ | ⟨h9, -, -⟩ := hp6
      rotate_left
      · exact absurd (by omega) h9
      rw [ex9]; clear ex9
      refine lv_pop C0.1 C0.2.1 dX1_becomeAs_37 rfl ?_
      refine lv_iinc (v := (nI i) + 1) (lv' := [(2, .int ((nI i) + 1)), (0, .ref li), (1, .ref l2)]) C0.1 C0.2.1 dX1_becomeAs_38 hl (k := 2) rfl rfl (by decide) rfl (fun ls hl => ?_)
      refine lv_goto (tgt := 7) C0.1 C0.2.1 dX1_becomeAs_41 (by decide) ?_
      exact ih (i + 1) _ _ ls (by omega) (by rw [hp6b, e8, sp_cps, sp_cps, sp_cps, hv_p4 (by omega) (by omega) (by omega) (by omega) (by omega) (by omega)] at w; exact w) (by have h9 := (lv_sub (l' := [(0, .ref li), (1, .ref l2), (2, .int (nI i + 1))]) hl [1, 2, 0] rfl); rw [nI_1] at h9; exact h9)
  refine lv_aload_n C0.1 C0.2.1 dX1_becomeAs_0 rfl (lv_at hl 0 rfl) ?_
  refine hv_cVi C0 w kl_X1_31 kv_X1_clear rfl hL (c_X1_clear hL h1 h2 h3) (by decide) (by decide) rfl hl.1 rfl (Nat.le_of_ble_eq_true rfl) dX1_becomeAs_1 ⟨Nat.le_refl _, Nat.le_refl _⟩ (fun x1 V2 Hq lq hp3 w => ?_)
  obtain ⟨hp3b, ex9⟩ := hp3
  rw [ex9]; clear ex9
  refine lv_pop C0.1 C0.2.1 dX1_becomeAs_4 rfl ?_
  refine lv_iconst (v := 0) C0.1 C0.2.1 dX1_becomeAs_5 (by decide) ?_
  refine lv_istore_n (lv' := [(2, .int 0), (0, .ref li), (1, .ref l2)]) C0.1 C0.2.1 dX1_becomeAs_6 rfl hl (by decide) rfl (fun ls hl => ?_)
  have e7 : hv_up (hv_up (hv_up (hv_up V (li + 1) (iE X M (sp_cp f f2 0))) (li + 2) (iE X M (sp_cp g g2 0))) (li + 3) (iE X M (sp_cp h h2f 0))) li (lE li 0) = hv_up V li (lE li 0) := by rw [sp_cp0, sp_cp0, sp_cp0, hv_id h1, hv_id h2, hv_id h3]
  exact loop k 0 _ _ ls (by omega) (by rw [e7]; rw [hp3b] at w; exact w) (lv_sub hl [1, 2, 0] rfl)

/-! TAPE: sort, size, items (60 of them) at t + 1 -/
abbrev tE (t : Nat) (so : Int32) (n : Nat) : va_E := .inr (5, [.int so, .int (nI n), .ref (t + 1)])
abbrev jE (X : hv_X) (g : Nat → Int64) : va_E := .inl (X.2.1 1, 60, .inr (.inl g))
theorem sp_cpz (g : Nat → Int64) (n : Nat) : vp_updL (sp_cp g (fun _ => 0) n) n 0 = sp_cp g (fun _ => 0) (n + 1) := by
  funext j
  by_cases h : j = n
  · subst h; simp [sp_cp, vp_updL]
  · by_cases h2 : j < n
    · simp [sp_cp, vp_updL, h, h2, Nat.lt_succ_of_lt h2]
    · simp [sp_cp, vp_updL, h, h2, show ¬ j < n + 1 by omega]
def sp_item (so : Int32) (v : Int64) : Int64 := if so = 0 then v.toInt32.toInt8.toInt32.toInt64 else if so = 1 then v.toInt32.toInt16.toInt32.toInt64 else if so = 2 then v.toInt32.toInt64 else if so = 3 then v else if so = 4 then (if v = 0 then 0 else 1) else v
set_option maxHeartbeats 4000000 in
set_option maxRecDepth 100000 in
theorem c_X5_asItem {l : Launch} {X : hv_X} {V : hv_V} {t n : Nat} {so : Int32} {g : Nat → Int64} (hT : V t = some (tE t so n)) (hJ : V (t + 1) = some (jE X g)) {v : Int64} : hv_Ml l X 0 yX5_asItem cX5_asItem 3 V [.ref t, .long v] (fun x V1 => V1 = V ∧ x = sp_item so v) := by
  refine hv_enter (by decide) (Nat.le_of_ble_eq_true rfl) ?_
  intro p e s m below meth c ls C0 hr hlk hnm w hl
  have hl : lv_has ls 3 [(0, .ref t), (1, .long v)] := hl
  refine lv_aload_n C0.1 C0.2.1 dX5_asItem_0 rfl (lv_at hl 0 rfl) ?_
  refine gf_X5_9 C0 w hT rfl dX5_asItem_1 ?_
  by_cases c_4_0 : so = 0
  · refine lv_tableIn (off := 36) (tgt := 40) C0.1 C0.2.1 dX5_asItem_4 (by rw [c_4_0]; decide) (by rw [c_4_0]; decide) (by rw [c_4_0]; rfl) (by decide) ?_
    refine lv_lload_n C0.1 C0.2.1 dX5_asItem_40 rfl (lv_at hl 1 rfl) ?_
    refine lv_l2i (v := v.toInt32) C0.1 C0.2.1 dX5_asItem_41 rfl ?_
    refine lv_i2b (v := (v.toInt32).toInt8.toInt32) C0.1 C0.2.1 dX5_asItem_42 rfl ?_
    refine lv_i2l (v := ((v.toInt32).toInt8.toInt32).toInt64) C0.1 C0.2.1 dX5_asItem_43 rfl ?_
    exact hv_lret C0 w hr hlk (⟨rfl, by rw [sp_item, if_pos c_4_0]⟩) dX5_asItem_44
  by_cases c_4_1 : so = 1
  · refine lv_tableIn (off := 41) (tgt := 45) C0.1 C0.2.1 dX5_asItem_4 (by rw [c_4_1]; decide) (by rw [c_4_1]; decide) (by rw [c_4_1]; rfl) (by decide) ?_
    refine lv_lload_n C0.1 C0.2.1 dX5_asItem_45 rfl (lv_at hl 1 rfl) ?_
    refine lv_l2i (v := v.toInt32) C0.1 C0.2.1 dX5_asItem_46 rfl ?_
    refine lv_i2s (v := (v.toInt32).toInt16.toInt32) C0.1 C0.2.1 dX5_asItem_47 rfl ?_
    refine lv_i2l (v := ((v.toInt32).toInt16.toInt32).toInt64) C0.1 C0.2.1 dX5_asItem_48 rfl ?_
    exact hv_lret C0 w hr hlk (⟨rfl, by rw [sp_item, if_neg (by rw [c_4_1]; decide), if_pos c_4_1]⟩) dX5_asItem_49
  by_cases c_4_2 : so = 2
  · refine lv_tableIn (off := 46) (tgt := 50) C0.1 C0.2.1 dX5_asItem_4 (by rw [c_4_2]; decide) (by rw [c_4_2]; decide) (by rw [c_4_2]; rfl) (by decide) ?_
    refine lv_lload_n C0.1 C0.2.1 dX5_asItem_50 rfl (lv_at hl 1 rfl) ?_
    refine lv_l2i (v := v.toInt32) C0.1 C0.2.1 dX5_asItem_51 rfl ?_
    refine lv_i2l (v := (v.toInt32).toInt64) C0.1 C0.2.1 dX5_asItem_52 rfl ?_
    exact hv_lret C0 w hr hlk (⟨rfl, by rw [sp_item, if_neg (by rw [c_4_2]; decide), if_neg (by rw [c_4_2]; decide), if_pos c_4_2]⟩) dX5_asItem_53
  by_cases c_4_3 : so = 3
  · refine lv_tableIn (off := 62) (tgt := 66) C0.1 C0.2.1 dX5_asItem_4 (by rw [c_4_3]; decide) (by rw [c_4_3]; decide) (by rw [c_4_3]; rfl) (by decide) ?_
    refine lv_lload_n C0.1 C0.2.1 dX5_asItem_66 rfl (lv_at hl 1 rfl) ?_
    exact hv_lret C0 w hr hlk (⟨rfl, by rw [sp_item, if_neg (by rw [c_4_3]; decide), if_neg (by rw [c_4_3]; decide), if_neg (by rw [c_4_3]; decide), if_pos c_4_3]⟩) dX5_asItem_67
  by_cases c_4_4 : so = 4
  · refine lv_tableIn (off := 50) (tgt := 54) C0.1 C0.2.1 dX5_asItem_4 (by rw [c_4_4]; decide) (by rw [c_4_4]; decide) (by rw [c_4_4]; rfl) (by decide) ?_
    refine lv_lload_n C0.1 C0.2.1 dX5_asItem_54 rfl (lv_at hl 1 rfl) ?_
    refine lv_lconst (v := 0) C0.1 C0.2.1 dX5_asItem_55 (by decide) ?_
    refine hv_lc_eq (tgt := 64) C0.1 C0.2.1 dX5_asItem_56 dX5_asItem_57 (by decide) (fun c_56 => ?_) (fun c_56 => ?_)
    · skip
      refine lv_lconst (v := 0) C0.1 C0.2.1 dX5_asItem_64 (by decide) ?_
      exact hv_lret C0 w hr hlk (⟨rfl, by rw [sp_item, if_neg (by rw [c_4_4]; decide), if_neg (by rw [c_4_4]; decide), if_neg (by rw [c_4_4]; decide), if_neg (by rw [c_4_4]; decide), if_pos c_4_4, if_pos c_56]⟩) dX5_asItem_65
    · skip
      refine lv_lconst (v := 1) C0.1 C0.2.1 dX5_asItem_60 (by decide) ?_
      refine lv_goto (tgt := 65) C0.1 C0.2.1 dX5_asItem_61 (by decide) ?_
      exact hv_lret C0 w hr hlk (⟨rfl, by rw [sp_item, if_neg (by rw [c_4_4]; decide), if_neg (by rw [c_4_4]; decide), if_neg (by rw [c_4_4]; decide), if_neg (by rw [c_4_4]; decide), if_pos c_4_4, if_neg c_56]⟩) dX5_asItem_65
  have tc_4_0 : so.toInt ≠ 0 := fun h9 => c_4_0 (Int32.toInt_inj.mp (h9.trans (by decide)))
  have tc_4_1 : so.toInt ≠ 1 := fun h9 => c_4_1 (Int32.toInt_inj.mp (h9.trans (by decide)))
  have tc_4_2 : so.toInt ≠ 2 := fun h9 => c_4_2 (Int32.toInt_inj.mp (h9.trans (by decide)))
  have tc_4_3 : so.toInt ≠ 3 := fun h9 => c_4_3 (Int32.toInt_inj.mp (h9.trans (by decide)))
  have tc_4_4 : so.toInt ≠ 4 := fun h9 => c_4_4 (Int32.toInt_inj.mp (h9.trans (by decide)))
  refine lv_tableOut (tgt := 66) C0.1 C0.2.1 dX5_asItem_4 (by omega) (by decide) ?_
  refine lv_lload_n C0.1 C0.2.1 dX5_asItem_66 rfl (lv_at hl 1 rfl) ?_
  exact hv_lret C0 w hr hlk (⟨rfl, by rw [sp_item, if_neg c_4_0, if_neg c_4_1, if_neg c_4_2, if_neg c_4_3, if_neg c_4_4]⟩) dX5_asItem_67

set_option maxHeartbeats 4000000 in
set_option maxRecDepth 100000 in
theorem c_X5_holds {l : Launch} {X : hv_X} {V : hv_V} {t n : Nat} {so : Int32} {g : Nat → Int64} (hT : V t = some (tE t so n)) (hJ : V (t + 1) = some (jE X g)) {i k : Int32} : hv_Mi l X 0 yX5_holds cX5_holds 3 .boolean V [.ref t, .int i, .int k] (fun x V1 => V1 = V ∧ hv_B (0 ≤ i ∧ 0 ≤ k ∧ i.toInt64 + k.toInt64 ≤ (nI n).toInt64) x) := by
  refine hv_enter (by decide) (Nat.le_of_ble_eq_true rfl) ?_
  intro p e s m below meth c ls C0 hr hlk hnm w hl
  have hl : lv_has ls 3 [(0, .ref t), (1, .int i), (2, .int k)] := hl
  refine lv_iload_n C0.1 C0.2.1 dX5_holds_0 rfl (lv_at hl 1 rfl) ?_
  refine lv_if_lt (tgt := 26) C0.1 C0.2.1 dX5_holds_1 (by decide) (fun c_1 => ?_) (fun c_1 => ?_)
  · skip
    refine lv_iconst (v := 0) C0.1 C0.2.1 dX5_holds_26 (by decide) ?_
    exact hv_zret C0 w hr hlk (by decide) (⟨rfl, Or.inr ⟨rfl, by first | exact fun h9 => absurd c_1 (Int32.not_lt.mpr h9.1) | exact fun h9 => absurd c_5 (Int32.not_lt.mpr h9.2.1) | exact fun h9 => absurd c_18 (Int64.not_lt.mpr h9.2.2)⟩⟩) dX5_holds_27
  · skip
    refine lv_iload_n C0.1 C0.2.1 dX5_holds_4 rfl (lv_at hl 2 rfl) ?_
    refine lv_if_lt (tgt := 26) C0.1 C0.2.1 dX5_holds_5 (by decide) (fun c_5 => ?_) (fun c_5 => ?_)
    · skip
      refine lv_iconst (v := 0) C0.1 C0.2.1 dX5_holds_26 (by decide) ?_
      exact hv_zret C0 w hr hlk (by decide) (⟨rfl, Or.inr ⟨rfl, by first | exact fun h9 => absurd c_1 (Int32.not_lt.mpr h9.1) | exact fun h9 => absurd c_5 (Int32.not_lt.mpr h9.2.1) | exact fun h9 => absurd c_18 (Int64.not_lt.mpr h9.2.2)⟩⟩) dX5_holds_27
    · skip
      refine lv_iload_n C0.1 C0.2.1 dX5_holds_8 rfl (lv_at hl 1 rfl) ?_
      refine lv_i2l (v := i.toInt64) C0.1 C0.2.1 dX5_holds_9 rfl ?_
      refine lv_iload_n C0.1 C0.2.1 dX5_holds_10 rfl (lv_at hl 2 rfl) ?_
      refine lv_i2l (v := k.toInt64) C0.1 C0.2.1 dX5_holds_11 rfl ?_
      refine lv_ladd C0.1 C0.2.1 dX5_holds_12 ?_
      refine lv_aload_n C0.1 C0.2.1 dX5_holds_13 rfl (lv_at hl 0 rfl) ?_
      refine gf_X5_19 C0 w hT rfl dX5_holds_14 ?_
      refine lv_i2l (v := (nI n).toInt64) C0.1 C0.2.1 dX5_holds_17 rfl ?_
      refine hv_lc_gt (tgt := 26) C0.1 C0.2.1 dX5_holds_18 dX5_holds_19 (by decide) (fun c_18 => ?_) (fun c_18 => ?_)
      · skip
        refine lv_iconst (v := 0) C0.1 C0.2.1 dX5_holds_26 (by decide) ?_
        exact hv_zret C0 w hr hlk (by decide) (⟨rfl, Or.inr ⟨rfl, by first | exact fun h9 => absurd c_1 (Int32.not_lt.mpr h9.1) | exact fun h9 => absurd c_5 (Int32.not_lt.mpr h9.2.1) | exact fun h9 => absurd c_18 (Int64.not_lt.mpr h9.2.2)⟩⟩) dX5_holds_27
      · skip
        refine lv_iconst (v := 1) C0.1 C0.2.1 dX5_holds_22 (by decide) ?_
        refine lv_goto (tgt := 27) C0.1 C0.2.1 dX5_holds_23 (by decide) ?_
        exact hv_zret C0 w hr hlk (by decide) (⟨rfl, Or.inl ⟨rfl, by exact ⟨Int32.not_lt.mp c_1, Int32.not_lt.mp c_5, Int64.not_lt.mp c_18⟩⟩⟩) dX5_holds_27

theorem hs_nn {x : Int32} (h : ¬ x < 0) : x.toInt = (x.toNatClampNeg : Int) := by
  have hz0 : (0 : Int) ≤ x.toInt := by
    have := Int32.not_lt.mp h
    simpa using Int32.le_iff_toInt_le.mp this
  show x.toInt = ((x.toInt.toNat : Nat) : Int)
  omega
theorem hs_nlt {x : Int32} {n : Nat} (h : ¬ x < 0) (hn : n < 2 ^ 31) (h2 : n ≤ x.toNatClampNeg) : ¬ x < nI n := by
  intro q
  have h3 := Int32.lt_iff_toInt_lt.mp q
  rw [nI_toInt hn, hs_nn h] at h3
  omega
theorem hs_ge {x : Int32} {n : Nat} (h : ¬ x < 0) (hn : n < 2 ^ 31) (h2 : ¬ x < nI n) : n ≤ x.toNatClampNeg := by
  rcases Nat.lt_or_ge x.toNatClampNeg n with q | q
  · exact absurd (Int32.lt_iff_toInt_lt.mpr (by rw [nI_toInt hn, hs_nn h]; omega)) h2
  · exact q
set_option maxHeartbeats 4000000 in
set_option maxRecDepth 100000 in
theorem c_X5_put {l : Launch} {X : hv_X} {V : hv_V} {t n : Nat} {so : Int32} {g : Nat → Int64} (hT : V t = some (tE t so n)) (hJ : V (t + 1) = some (jE X g)) (hn : n ≤ 60) {i : Int32} {v : Int64} : hv_Mi l X 1 yX5_put cX5_put 4 .boolean V [.ref t, .int i, .long v] (fun x V1 => (∃ j : Nat, j < n ∧ i = nI j ∧ x = 1 ∧ V1 = hv_up V (t + 1) (jE X (vp_updL g j (sp_item so v)))) ∨ (¬ vp_in i n ∧ x = 0 ∧ V1 = V)) := by
  refine hv_enter (by decide) (Nat.le_of_ble_eq_true rfl) ?_
  intro p e s m below meth c ls C0 hr hlk hnm w hl
  have hl : lv_has ls 4 [(0, .ref t), (1, .int i), (2, .long v)] := hl
  refine lv_iload_n C0.1 C0.2.1 dX5_put_0 rfl (lv_at hl 1 rfl) ?_
  refine lv_if_lt (tgt := 12) C0.1 C0.2.1 dX5_put_1 (by decide) (fun c_1 => ?_) (fun c_1 => ?_)
  · skip
    refine lv_iconst (v := 0) C0.1 C0.2.1 dX5_put_12 (by decide) ?_
    exact hv_zret C0 w hr hlk (by decide) (Or.inr ⟨fun h9 => by first | exact h9 (Or.inl c_1) | exact h9 (Or.inr (hs_ge c_1 (by omega) c_9)), rfl, rfl⟩) dX5_put_13
  · skip
    refine lv_iload_n C0.1 C0.2.1 dX5_put_4 rfl (lv_at hl 1 rfl) ?_
    refine lv_aload_n C0.1 C0.2.1 dX5_put_5 rfl (lv_at hl 0 rfl) ?_
    refine gf_X5_19 C0 w hT rfl dX5_put_6 ?_
    refine lv_icmp_lt (tgt := 14) C0.1 C0.2.1 dX5_put_9 (by decide) (fun c_9 => ?_) (fun c_9 => ?_)
    · skip
      have hin : vp_in i n := fun h9 => h9.elim c_1 (fun h8 => absurd c_9 (hs_nlt c_1 (by omega) h8))
      obtain ⟨j, hj, rfl⟩ := vp_in_of hin (by omega)
      refine lv_aload_n C0.1 C0.2.1 dX5_put_14 rfl (lv_at hl 0 rfl) ?_
      refine gf_X5_15 C0 w hT rfl dX5_put_15 ?_
      refine lv_iload_n C0.1 C0.2.1 dX5_put_18 rfl (lv_at hl 1 rfl) ?_
      refine lv_aload_n C0.1 C0.2.1 dX5_put_19 rfl (lv_at hl 0 rfl) ?_
      refine lv_lload_n C0.1 C0.2.1 dX5_put_20 rfl (lv_at hl 2 rfl) ?_
      refine hv_cVl C0 w kl_X5_22 kv_X5_asItem rfl hT (c_X5_asItem hT hJ) (by decide) (by decide) rfl hl.1 rfl (Nat.le_of_ble_eq_true rfl) dX5_put_21 ⟨Nat.le_refl _, Nat.le_refl _⟩ (fun x1 V2 Hq lq hp3 w => ?_)
      obtain ⟨e9, e8⟩ := hp3
      rw [e9] at w; rw [e8]; clear e9 e8
      refine hv_last C0 w hJ (hn_in (by omega) (by decide)) dX5_put_24 (fun Hq lq w => ?_)
      have hc4 : (nI j).toNatClampNeg = j := nI_clamp (by omega)
      rw [hc4] at w
      obtain ⟨V5, eV6⟩ : ∃ V9, V9 = hv_up V (t + 1) (.inl (X.2.1 1, 60, .inr (.inl (vp_updL g j (sp_item so v))))) := ⟨_, rfl⟩
      have w : hv_w X s V5 Hq lq := by rw [eV6]; exact w
      have hV7 : V5 t = some (.inr (5, [.int so, .int (nI n), .ref (t + 1)])) := by rw [eV6, hv_un (by omega)]; exact hT
      have hV9 : V5 (t + 1) = some (.inl (X.2.1 1, 60, .inr (.inl (vp_updL g j (sp_item so v))))) := by rw [eV6]; exact hv_us
      refine lv_iconst (v := 1) C0.1 C0.2.1 dX5_put_25 (by decide) ?_
      exact hv_zret C0 w hr hlk (by decide) (Or.inl ⟨j, hj, rfl, rfl, by rw [eV6]⟩) dX5_put_26
    · skip
      refine lv_iconst (v := 0) C0.1 C0.2.1 dX5_put_12 (by decide) ?_
      exact hv_zret C0 w hr hlk (by decide) (Or.inr ⟨fun h9 => by first | exact h9 (Or.inl c_1) | exact h9 (Or.inr (hs_ge c_1 (by omega) c_9)), rfl, rfl⟩) dX5_put_13

set_option maxHeartbeats 4000000 in
set_option maxRecDepth 100000 in
theorem c_X5_clear {l : Launch} {X : hv_X} {V : hv_V} {t n : Nat} {so : Int32} {g : Nat → Int64} (hT : V t = some (tE t so n)) (hJ : V (t + 1) = some (jE X g)) {so2 : Int32} {n2 : Nat} : hv_Mv l X 0 yX5_clear cX5_clear 4 V [.ref t, .int so2, .int (nI n2)] (fun V1 => V1 = hv_up (hv_up V t (tE t so2 n2)) (t + 1) (jE X (sp_cp g (fun _ => 0) 60))) := by
  refine hv_enter (by decide) (Nat.le_of_ble_eq_true rfl) ?_
  intro p e s m below meth c ls C0 hr hlk hnm w hl
  have hl : lv_has ls 4 [(0, .ref t), (1, .int so2), (2, .int (nI n2))] := hl
  have loop : ∀ (m9 i : Nat) (Hq : Heap) (lq : List Loc) (ls : Array Slot), (i + m9 = 60) → hv_w X s (hv_up (hv_up V t (tE t so2 n2)) (t + 1) (jE X (sp_cp g (fun _ => 0) i))) Hq lq → lv_has ls 4 [(0, .ref t), (3, .int (nI i))] → W p l e (hv_rm 0 0 0) s m ([.ref t, .int so2, .int (nI n2)] : List Value).toArray below meth c Hq lq 0 0 (MQ below (hv_Qv X (fun V1 => V1 = hv_up (hv_up V t (tE t so2 n2)) (t + 1) (jE X (sp_cp g (fun _ => 0) 60)))) ([.ref t, .int so2, .int (nI n2)] : List Value).toArray s 0 0 X.2.2.1) (F0 m 12 ls []) := by
    intro m9
    induction m9 with
    | zero =>
      intro i Hq lq ls hi w hl
      have hi : i = 60 := hi
      obtain ⟨V8, e8⟩ : ∃ V8, V8 = hv_up (hv_up V t (tE t so2 n2)) (t + 1) (jE X (sp_cp g (fun _ => 0) i)) := ⟨_, rfl⟩
      rw [← e8] at w
      have q0 : V8 t = some (tE t so2 n2) := by rw [e8, hv_un (by omega)]; exact hv_us
      have q1 : V8 (t + 1) = some (jE X (sp_cp g (fun _ => 0) i)) := by rw [e8]; exact hv_us
      refine lv_iload_n C0.1 C0.2.1 dX5_clear_12 rfl (lv_at hl 1 rfl) ?_
      refine lv_bipush (v := 60) C0.1 C0.2.1 dX5_clear_13 (by decide) ?_
      refine lv_icmp_ge (tgt := 31) C0.1 C0.2.1 dX5_clear_15 (by decide) (fun c_15 => ?_) (fun c_15 => absurd (show nI 60 ≤ nI i from nI_le (by omega) (by omega)) c_15)
      exact hv_vret C0 w hr hlk (by rw [e8, hi]) dX5_clear_31
    | succ m9 ih =>
      intro i Hq lq ls hi w hl
      obtain ⟨V8, e8⟩ : ∃ V8, V8 = hv_up (hv_up V t (tE t so2 n2)) (t + 1) (jE X (sp_cp g (fun _ => 0) i)) := ⟨_, rfl⟩
      rw [← e8] at w
      have q0 : V8 t = some (tE t so2 n2) := by rw [e8, hv_un (by omega)]; exact hv_us
      have q1 : V8 (t + 1) = some (jE X (sp_cp g (fun _ => 0) i)) := by rw [e8]; exact hv_us
      refine lv_iload_n C0.1 C0.2.1 dX5_clear_12 rfl (lv_at hl 1 rfl) ?_
      refine lv_bipush (v := 60) C0.1 C0.2.1 dX5_clear_13 (by decide) ?_
      refine lv_icmp_ge (tgt := 31) C0.1 C0.2.1 dX5_clear_15 (by decide) (fun c_15 => absurd c_15 (show ¬ nI 60 ≤ nI i from nI_ge (by omega) (by omega))) (fun c_15 => ?_)
      refine lv_aload_n C0.1 C0.2.1 dX5_clear_18 rfl (lv_at hl 0 rfl) ?_
      refine gf_X5_15 C0 w q0 rfl dX5_clear_19 ?_
      refine lv_iload_n C0.1 C0.2.1 dX5_clear_22 rfl (lv_at hl 1 rfl) ?_
      refine lv_lconst (v := 0) C0.1 C0.2.1 dX5_clear_23 (by decide) ?_
      refine hv_last C0 w q1 (hn_in (by omega) (by decide)) dX5_clear_24 (fun Hq lq w => ?_)
      have hc1 : (nI i).toNatClampNeg = i := nI_clamp (by omega)
      rw [hc1] at w
      obtain ⟨V2, eV3⟩ : ∃ V9, V9 = hv_up V8 (t + 1) (.inl (X.2.1 1, 60, .inr (.inl (vp_updL (sp_cp g (fun _ => 0) i) i 0)))) := ⟨_, rfl⟩
      have w : hv_w X s V2 Hq lq := by rw [eV3]; exact w
      have hV4 : V2 t = some (.inr (5, [.int so2, .int (nI n2), .ref (t + 1)])) := by rw [eV3, hv_un (by omega)]; exact q0
      have hV6 : V2 (t + 1) = some (.inl (X.2.1 1, 60, .inr (.inl (vp_updL (sp_cp g (fun _ => 0) i) i 0)))) := by rw [eV3]; exact hv_us
      refine lv_iinc (v := (nI i) + 1) (lv' := [(3, .int ((nI i) + 1)), (0, .ref t)]) C0.1 C0.2.1 dX5_clear_25 hl (k := 1) rfl rfl (by decide) rfl (fun ls hl => ?_)
      refine lv_goto (tgt := 12) C0.1 C0.2.1 dX5_clear_28 (by decide) ?_
      exact ih (i + 1) _ _ ls (by omega) (by rw [eV3, e8, sp_cpz, hv_uu] at w; exact w) (by have h9 := (lv_sub (l' := [(0, .ref t), (3, .int (nI i + 1))]) hl [1, 0] rfl); rw [nI_1] at h9; exact h9)
  refine lv_aload_n C0.1 C0.2.1 dX5_clear_0 rfl (lv_at hl 0 rfl) ?_
  refine lv_iload_n C0.1 C0.2.1 dX5_clear_1 rfl (lv_at hl 1 rfl) ?_
  refine pf_X5_9 C0 w hT (by simp) dX5_clear_2 (fun Hq lq w => ?_)
  obtain ⟨V1, eV2⟩ : ∃ V9, V9 = hv_up V t (.inr (5, [.int so2, .int (nI n), .ref (t + 1)])) := ⟨_, rfl⟩
  have w : hv_w X s V1 Hq lq := by rw [eV2]; exact w
  have hV4 : V1 (t + 1) = some (.inl (X.2.1 1, 60, .inr (.inl g))) := by rw [eV2, hv_un (by omega)]; exact hJ
  have hV5 : V1 t = some (.inr (5, [.int so2, .int (nI n), .ref (t + 1)])) := by rw [eV2]; exact hv_us
  refine lv_aload_n C0.1 C0.2.1 dX5_clear_5 rfl (lv_at hl 0 rfl) ?_
  refine lv_iload_n C0.1 C0.2.1 dX5_clear_6 rfl (lv_at hl 2 rfl) ?_
  refine pf_X5_19 C0 w hV5 (by simp) dX5_clear_7 (fun Hq lq w => ?_)
  obtain ⟨V6, eV7⟩ : ∃ V9, V9 = hv_up V1 t (.inr (5, [.int so2, .int (nI n2), .ref (t + 1)])) := ⟨_, rfl⟩
  have w : hv_w X s V6 Hq lq := by rw [eV7]; exact w
  have hV8 : V6 (t + 1) = some (.inl (X.2.1 1, 60, .inr (.inl g))) := by rw [eV7, hv_un (by omega)]; exact hV4
  have hV10 : V6 t = some (.inr (5, [.int so2, .int (nI n2), .ref (t + 1)])) := by rw [eV7]; exact hv_us
  refine lv_iconst (v := 0) C0.1 C0.2.1 dX5_clear_10 (by decide) ?_
  refine lv_istore_n (lv' := [(3, .int 0), (0, .ref t), (1, .int so2), (2, .int (nI n2))]) C0.1 C0.2.1 dX5_clear_11 rfl hl (by decide) rfl (fun ls hl => ?_)
  have e7 : hv_up (hv_up V t (tE t so2 n2)) (t + 1) (jE X (sp_cp g (fun _ => 0) 0)) = hv_up V t (tE t so2 n2) := by rw [sp_cp0, hv_id (by rw [hv_un (by omega)]; exact hJ)]
  exact loop 60 0 _ _ ls (by omega) (by rw [e7]; rw [eV7, eV2, hv_uu] at w; exact w) (lv_sub hl [1, 0] rfl)

