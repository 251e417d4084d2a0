def fx_ft (up low : Int64) : Nat → Nat → Option (Nat × Nat × Int32)
  | 0, _ => none
  | m + 1, a => match fx_fp (up * (nI a).toInt64 - low) (low * (nI a).toInt64) (60 - a) (a + 1) with
    | some q => some (a, q)
    | none => fx_ft up low m (a + 1)
/-- the fewest units, and which -/
def sp_fu (up low : Int64) : Int32 × Int32 × Int32 × Int32 := if 0 < fx_last up low 1 then (1, fx_last up low 1, 0, 0) else match fx_fp up low 59 2 with
  | some q => (2, nI q.1, q.2, 0)
  | none => match fx_ft up low 59 2 with
    | some q => (3, nI q.1, nI q.2.1, q.2.2)
    | none => (-5, 0, 0, 0)
def sp_units (u lo w : Int32) : Int32 := if sp_in u 1 9999 ∧ sp_in lo 1 9999 then (if sp_in w 0 3 then (if (sp_fu u.toInt64 lo.toInt64).1 < w then -5 else if w = 0 then (sp_fu u.toInt64 lo.toInt64).1 else if w = 1 then (sp_fu u.toInt64 lo.toInt64).2.1 else if w = 2 then (sp_fu u.toInt64 lo.toInt64).2.2.1 else (sp_fu u.toInt64 lo.toInt64).2.2.2) else -1) else -2
set_option maxHeartbeats 4000000 in
set_option maxRecDepth 100000 in
theorem c_X6_findUnits {l : Launch} {X : hv_X} {V : hv_V} {x : Nat} {kk0 : Int32} {u : Nat → Int32} (hX0 : V x = some (xE x kk0)) (hU : V (x + 63) = some (iE X 3 u)) {up low : Int64} : hv_Mi l X 2 yX6_findUnits cX6_findUnits 6 .int V [.ref x, .long up, .long low] (fun y V1 => ∃ (u1 : Nat → Int32) (a b c : Int32), V1 = hv_up V (x + 63) (iE X 3 u1) ∧ sp_fu up low = (y, a, b, c) ∧ (1 ≤ y → u1 0 = a) ∧ (2 ≤ y → u1 1 = b) ∧ (3 ≤ y → u1 2 = c)) := by
  refine hv_enter (by decide) (Nat.le_of_ble_eq_true rfl) ?_
  intro p e s m below meth c ls C0 hr hlk hnm w hl
  have hl : lv_has ls 6 [(0, .ref x), (1, .long up), (3, .long low)] := hl
  have loop3 : ∀ (m9 : Nat) (hsp : sp_fu up low = match fx_ft up low 59 2 with | some q => (3, nI q.1, nI q.2.1, q.2.2) | none => (-5, 0, 0, 0)) (a : Nat) (u8 : Nat → Int32) (Hq : Heap) (lq : List Loc) (ls : Array Slot), (a + m9 = 61) → (fx_ft up low m9 a = fx_ft up low 59 2) → hv_w X s (hv_up V (x + 63) (iE X 3 u8)) Hq lq → lv_has ls 6 [(0, .ref x), (1, .long up), (3, .long low), (5, .int (nI a))] → W p l e (hv_rm 2 0 0) s m ([.ref x, .long up, .long low] : List Value).toArray below meth c Hq lq 0 0 (MQ below (hv_Qi X (fun y V1 => ∃ (u1 : Nat → Int32) (a b c : Int32), V1 = hv_up V (x + 63) (iE X 3 u1) ∧ sp_fu up low = (y, a, b, c) ∧ (1 ≤ y → u1 0 = a) ∧ (2 ≤ y → u1 1 = b) ∧ (3 ≤ y → u1 2 = c))) ([.ref x, .long up, .long low] : List Value).toArray s 0 0 X.2.2.1) (F0 m 84 ls []) := by
    intro m9
    induction m9 with
    | zero =>
      intro hsp a u8 Hq lq ls hi he w hl
      have he : none = fx_ft up low 59 2 := he
      obtain ⟨V8, e8⟩ : ∃ V8, V8 = hv_up V (x + 63) (iE X 3 u8) := ⟨_, rfl⟩
      rw [← e8] at w
      have q0 : V8 x = some (xE x kk0) := by rw [e8, hv_un (by omega)]; exact hX0
      have q1 : V8 (x + 63) = some (iE X 3 u8) := by rw [e8]; exact hv_us
      refine lv_iload C0.1 C0.2.1 dX6_findUnits_84 (lv_at hl 3 rfl) ?_
      refine lv_bipush (v := 60) C0.1 C0.2.1 dX6_findUnits_86 (by decide) ?_
      refine lv_icmp_gt (tgt := 128) C0.1 C0.2.1 dX6_findUnits_88 (by decide) (fun c_88 => ?_) (fun c_88 => absurd (show nI 60 < nI a from nI_lt (by omega) (by omega)) c_88)
      refine lv_bipush (v := -5) C0.1 C0.2.1 dX6_findUnits_128 (by decide) ?_
      exact hv_iret C0 w hr hlk (⟨u8, 0, 0, 0, e8, by rw [hsp, ← he], fun h9 => absurd h9 (by decide), fun h9 => absurd h9 (by decide), fun h9 => absurd h9 (by decide)⟩) dX6_findUnits_130
    | succ m9 ih =>
      intro hsp a u8 Hq lq ls hi he w hl
      obtain ⟨V8, e8⟩ : ∃ V8, V8 = hv_up V (x + 63) (iE X 3 u8) := ⟨_, rfl⟩
      rw [← e8] at w
      have q0 : V8 x = some (xE x kk0) := by rw [e8, hv_un (by omega)]; exact hX0
      have q1 : V8 (x + 63) = some (iE X 3 u8) := by rw [e8]; exact hv_us
      refine lv_iload C0.1 C0.2.1 dX6_findUnits_84 (lv_at hl 3 rfl) ?_
      refine lv_bipush (v := 60) C0.1 C0.2.1 dX6_findUnits_86 (by decide) ?_
      refine lv_icmp_gt (tgt := 128) C0.1 C0.2.1 dX6_findUnits_88 (by decide) (fun c_88 => absurd c_88 (show ¬ nI 60 < nI a from nI_nlt (by omega) (by omega))) (fun c_88 => ?_)
      refine lv_aload_n C0.1 C0.2.1 dX6_findUnits_91 rfl (lv_at hl 0 rfl) ?_
      refine gf_X6_55 C0 w q0 rfl dX6_findUnits_92 ?_
      refine lv_iconst (v := 0) C0.1 C0.2.1 dX6_findUnits_95 (by decide) ?_
      refine lv_iload C0.1 C0.2.1 dX6_findUnits_96 (lv_at hl 3 rfl) ?_
      refine hv_iast C0 w q1 (hn_in (n := 0) (by decide) (by decide)) dX6_findUnits_98 (fun Hq lq w => ?_)
      have hc9 : (0 : Int32).toNatClampNeg = 0 := by decide
      rw [hc9] at w; clear hc9
      obtain ⟨V1, eV2⟩ : ∃ V9, V9 = hv_up V8 (x + 63) (.inl (X.2.1 0, 3, .inl (upd u8 0 (nI a)))) := ⟨_, rfl⟩
      have w : hv_w X s V1 Hq lq := by rw [eV2]; exact w
      have hV3 : V1 x = some (.inr (6, [.ref (x + 1), .ref (x + 27), .int kk0, .ref (x + 53), .ref (x + 57), .ref (x + 58), .ref (x + 60), .ref (x + 61), .ref (x + 62), .ref (x + 63)])) := by rw [eV2, hv_un (by omega)]; exact q0
      have hV5 : V1 (x + 63) = some (.inl (X.2.1 0, 3, .inl (upd u8 0 (nI a)))) := by rw [eV2]; exact hv_us
      refine lv_aload_n C0.1 C0.2.1 dX6_findUnits_99 rfl (lv_at hl 0 rfl) ?_
      refine lv_lload_n C0.1 C0.2.1 dX6_findUnits_100 rfl (lv_at hl 1 rfl) ?_
      refine lv_iload C0.1 C0.2.1 dX6_findUnits_101 (lv_at hl 3 rfl) ?_
      refine lv_i2l (v := (nI a).toInt64) C0.1 C0.2.1 dX6_findUnits_103 rfl ?_
      refine lv_lmul C0.1 C0.2.1 dX6_findUnits_104 ?_
      refine lv_lload_n C0.1 C0.2.1 dX6_findUnits_105 rfl (lv_at hl 2 rfl) ?_
      refine lv_lsub C0.1 C0.2.1 dX6_findUnits_106 ?_
      refine lv_lload_n C0.1 C0.2.1 dX6_findUnits_107 rfl (lv_at hl 2 rfl) ?_
      refine lv_iload C0.1 C0.2.1 dX6_findUnits_108 (lv_at hl 3 rfl) ?_
      refine lv_i2l (v := (nI a).toInt64) C0.1 C0.2.1 dX6_findUnits_110 rfl ?_
      refine lv_lmul C0.1 C0.2.1 dX6_findUnits_111 ?_
      refine lv_iload C0.1 C0.2.1 dX6_findUnits_112 (lv_at hl 3 rfl) ?_
      refine hv_cVi C0 w kl_X6_299 kv_X6_findPair rfl hV3 (c_X6_findPair hV3 hV5 (by omega)) (by decide) (by decide) rfl hl.1 rfl (Nat.le_of_ble_eq_true rfl) dX6_findUnits_114 ⟨Nat.le_refl _, Nat.le_refl _⟩ (fun x6 V7 Hq lq hp8 w => ?_)
      obtain ⟨u9, hu9, hp8b, hz9⟩ := hp8
      obtain ⟨q9, hf9, hq1, hq2, ex9⟩ | ⟨hf9, ex9⟩ := hz9
      · skip
        rw [ex9]; clear ex9
        have hV9 : V7 x = some (xE x kk0) := by rw [hp8b, hv_un (by omega)]; exact hV3
        refine lv_if_eq (tgt := 122) C0.1 C0.2.1 dX6_findUnits_117 (by decide) (fun h9 => absurd h9 (by decide)) (fun _ => ?_)
        refine lv_iconst (v := 3) C0.1 C0.2.1 dX6_findUnits_120 (by decide) ?_
        exact hv_iret C0 w hr hlk (⟨u9, nI a, nI q9.1, q9.2, by rw [hp8b, eV2, e8, hv_uu, hv_uu], by rw [hsp, ← he, fx_ft, hf9], fun _ => by rw [hu9]; simp [upd], fun _ => hq1, fun _ => hq2⟩) dX6_findUnits_121
      · skip
        rw [ex9]; clear ex9
        have hV10 : V7 x = some (xE x kk0) := by rw [hp8b, hv_un (by omega)]; exact hV3
        refine lv_if_eq (tgt := 122) C0.1 C0.2.1 dX6_findUnits_117 (by decide) (fun _ => ?_) (fun h9 => absurd h9 (by decide))
        refine lv_iinc (v := (nI a) + 1) (lv' := [(5, .int ((nI a) + 1)), (0, .ref x), (1, .long up), (3, .long low)]) C0.1 C0.2.1 dX6_findUnits_122 hl (k := 3) rfl rfl (by decide) rfl (fun ls hl => ?_)
        refine lv_goto (tgt := 84) C0.1 C0.2.1 dX6_findUnits_125 (by decide) ?_
        exact ih hsp (a + 1) u9 _ _ ls (by omega) (by rw [← he, fx_ft, hf9]) (by rw [hp8b, eV2, e8, hv_uu, hv_uu] at w; exact w) (by have h9 := (lv_sub (l' := [(0, .ref x), (1, .long up), (3, .long low), (5, .int (nI a + 1))]) hl [1, 2, 3, 0] rfl); rw [nI_1] at h9; exact h9)
  have loop2 : ∀ (m9 : Nat) (hsp : sp_fu up low = match fx_fp up low 59 2 with | some q => (2, nI q.1, q.2, 0) | none => match fx_ft up low 59 2 with | some q => (3, nI q.1, nI q.2.1, q.2.2) | none => (-5, 0, 0, 0)) (a : Nat) (u8 : Nat → Int32) (Hq : Heap) (lq : List Loc) (ls : Array Slot), (a + m9 = 61) → (fx_fp up low m9 a = fx_fp up low 59 2) → hv_w X s (hv_up V (x + 63) (iE X 3 u8)) Hq lq → lv_has ls 6 [(0, .ref x), (1, .long up), (3, .long low), (5, .int (nI a))] → W p l e (hv_rm 2 0 0) s m ([.ref x, .long up, .long low] : List Value).toArray below meth c Hq lq 0 0 (MQ below (hv_Qi X (fun y V1 => ∃ (u1 : Nat → Int32) (a b c : Int32), V1 = hv_up V (x + 63) (iE X 3 u1) ∧ sp_fu up low = (y, a, b, c) ∧ (1 ≤ y → u1 0 = a) ∧ (2 ≤ y → u1 1 = b) ∧ (3 ≤ y → u1 2 = c))) ([.ref x, .long up, .long low] : List Value).toArray s 0 0 X.2.2.1) (F0 m 26 ls []) := by
    intro m9
    induction m9 with
    | zero =>
      intro hsp a u8 Hq lq ls hi he w hl
      have he : none = fx_fp up low 59 2 := he
      obtain ⟨V8, e8⟩ : ∃ V8, V8 = hv_up V (x + 63) (iE X 3 u8) := ⟨_, rfl⟩
      rw [← e8] at w
      have q0 : V8 x = some (xE x kk0) := by rw [e8, hv_un (by omega)]; exact hX0
      have q1 : V8 (x + 63) = some (iE X 3 u8) := by rw [e8]; exact hv_us
      refine lv_iload C0.1 C0.2.1 dX6_findUnits_26 (lv_at hl 3 rfl) ?_
      refine lv_bipush (v := 60) C0.1 C0.2.1 dX6_findUnits_28 (by decide) ?_
      refine lv_icmp_gt (tgt := 81) C0.1 C0.2.1 dX6_findUnits_30 (by decide) (fun c_30 => ?_) (fun c_30 => absurd (show nI 60 < nI a from nI_lt (by omega) (by omega)) c_30)
      refine lv_iconst (v := 2) C0.1 C0.2.1 dX6_findUnits_81 (by decide) ?_
      refine lv_istore (lv' := [(5, .int 2), (0, .ref x), (1, .long up), (3, .long low)]) C0.1 C0.2.1 dX6_findUnits_82 hl (by decide) rfl (fun ls hl => ?_)
      exact loop3 59 (by rw [hsp, ← he]) 2 u8 _ _ ls rfl rfl (by rw [e8] at w; exact w) (lv_sub hl [1, 2, 3, 0] rfl)
    | succ m9 ih =>
      intro hsp a u8 Hq lq ls hi he w hl
      obtain ⟨V8, e8⟩ : ∃ V8, V8 = hv_up V (x + 63) (iE X 3 u8) := ⟨_, rfl⟩
      rw [← e8] at w
      have q0 : V8 x = some (xE x kk0) := by rw [e8, hv_un (by omega)]; exact hX0
      have q1 : V8 (x + 63) = some (iE X 3 u8) := by rw [e8]; exact hv_us
      refine lv_iload C0.1 C0.2.1 dX6_findUnits_26 (lv_at hl 3 rfl) ?_
      refine lv_bipush (v := 60) C0.1 C0.2.1 dX6_findUnits_28 (by decide) ?_
      refine lv_icmp_gt (tgt := 81) C0.1 C0.2.1 dX6_findUnits_30 (by decide) (fun c_30 => absurd c_30 (show ¬ nI 60 < nI a from nI_nlt (by omega) (by omega))) (fun c_30 => ?_)
      refine lv_aload_n C0.1 C0.2.1 dX6_findUnits_33 rfl (lv_at hl 0 rfl) ?_
      refine gf_X6_55 C0 w q0 rfl dX6_findUnits_34 ?_
      refine lv_iconst (v := 0) C0.1 C0.2.1 dX6_findUnits_37 (by decide) ?_
      refine lv_iload C0.1 C0.2.1 dX6_findUnits_38 (lv_at hl 3 rfl) ?_
      refine hv_iast C0 w q1 (hn_in (n := 0) (by decide) (by decide)) dX6_findUnits_40 (fun Hq lq w => ?_)
      have hc9 : (0 : Int32).toNatClampNeg = 0 := by decide
      rw [hc9] at w; clear hc9
      obtain ⟨V1, eV2⟩ : ∃ V9, V9 = hv_up V8 (x + 63) (.inl (X.2.1 0, 3, .inl (upd u8 0 (nI a)))) := ⟨_, rfl⟩
      have w : hv_w X s V1 Hq lq := by rw [eV2]; exact w
      have hV3 : V1 x = some (.inr (6, [.ref (x + 1), .ref (x + 27), .int kk0, .ref (x + 53), .ref (x + 57), .ref (x + 58), .ref (x + 60), .ref (x + 61), .ref (x + 62), .ref (x + 63)])) := by rw [eV2, hv_un (by omega)]; exact q0
      have hV5 : V1 (x + 63) = some (.inl (X.2.1 0, 3, .inl (upd u8 0 (nI a)))) := by rw [eV2]; exact hv_us
      refine lv_aload_n C0.1 C0.2.1 dX6_findUnits_41 rfl (lv_at hl 0 rfl) ?_
      refine gf_X6_55 C0 w hV3 rfl dX6_findUnits_42 ?_
      refine lv_iconst (v := 1) C0.1 C0.2.1 dX6_findUnits_45 (by decide) ?_
      refine lv_lload_n C0.1 C0.2.1 dX6_findUnits_46 rfl (lv_at hl 1 rfl) ?_
      refine lv_iload C0.1 C0.2.1 dX6_findUnits_47 (lv_at hl 3 rfl) ?_
      refine lv_i2l (v := (nI a).toInt64) C0.1 C0.2.1 dX6_findUnits_49 rfl ?_
      refine lv_lmul C0.1 C0.2.1 dX6_findUnits_50 ?_
      refine lv_lload_n C0.1 C0.2.1 dX6_findUnits_51 rfl (lv_at hl 2 rfl) ?_
      refine lv_lsub C0.1 C0.2.1 dX6_findUnits_52 ?_
      refine lv_lload_n C0.1 C0.2.1 dX6_findUnits_53 rfl (lv_at hl 2 rfl) ?_
      refine lv_iload C0.1 C0.2.1 dX6_findUnits_54 (lv_at hl 3 rfl) ?_
      refine lv_i2l (v := (nI a).toInt64) C0.1 C0.2.1 dX6_findUnits_56 rfl ?_
      refine lv_lmul C0.1 C0.2.1 dX6_findUnits_57 ?_
      refine lv_iload C0.1 C0.2.1 dX6_findUnits_58 (lv_at hl 3 rfl) ?_
      refine hv_cSi (As := [.long ((up * ((nI a).toInt64)) - low), .long (low * ((nI a).toInt64)), .int (nI a)]) C0 w kl_X6_295 ks_X6_lastUnit (c_X6_lastUnit) (by decide) (by decide) rfl hl.1 rfl (Nat.le_of_ble_eq_true rfl) dX6_findUnits_60 ⟨Nat.le_refl _, Nat.le_refl _⟩ (fun x6 V7 Hq lq hp8 w => ?_)
      obtain ⟨e9, e8⟩ := hp8
      rw [e9] at w; rw [e8]; clear e9 e8
      refine hv_iast C0 w hV5 (hn_in (n := 1) (by decide) (by decide)) dX6_findUnits_63 (fun Hq lq w => ?_)
      have hc9 : (1 : Int32).toNatClampNeg = 1 := by decide
      rw [hc9] at w; clear hc9
      obtain ⟨V9, eV10⟩ : ∃ V9, V9 = hv_up V1 (x + 63) (.inl (X.2.1 0, 3, .inl (upd (upd u8 0 (nI a)) 1 (fx_last ((up * ((nI a).toInt64)) - low) (low * ((nI a).toInt64)) (nI a))))) := ⟨_, rfl⟩
      have w : hv_w X s V9 Hq lq := by rw [eV10]; exact w
      have hV11 : V9 x = some (.inr (6, [.ref (x + 1), .ref (x + 27), .int kk0, .ref (x + 53), .ref (x + 57), .ref (x + 58), .ref (x + 60), .ref (x + 61), .ref (x + 62), .ref (x + 63)])) := by rw [eV10, hv_un (by omega)]; exact hV3
      have hV13 : V9 (x + 63) = some (.inl (X.2.1 0, 3, .inl (upd (upd u8 0 (nI a)) 1 (fx_last ((up * ((nI a).toInt64)) - low) (low * ((nI a).toInt64)) (nI a))))) := by rw [eV10]; exact hv_us
      refine lv_aload_n C0.1 C0.2.1 dX6_findUnits_64 rfl (lv_at hl 0 rfl) ?_
      refine gf_X6_55 C0 w hV11 rfl dX6_findUnits_65 ?_
      refine lv_iconst (v := 1) C0.1 C0.2.1 dX6_findUnits_68 (by decide) ?_
      refine hv_iald C0 w hV13 (hn_in (n := 1) (by decide) (by decide)) dX6_findUnits_69 ?_
      have hc9 : (1 : Int32).toNatClampNeg = 1 := by decide
      rw [hc9]; clear hc9
      rw [show ∀ (g : Nat → Int32) (v : Int32), upd g 1 v 1 = v from fun g v => by simp [upd]]
      refine lv_if_le (tgt := 75) C0.1 C0.2.1 dX6_findUnits_70 (by decide) (fun c_70 => ?_) (fun c_70 => ?_)
      · skip
        refine lv_iinc (v := (nI a) + 1) (lv' := [(5, .int ((nI a) + 1)), (0, .ref x), (1, .long up), (3, .long low)]) C0.1 C0.2.1 dX6_findUnits_75 hl (k := 3) rfl rfl (by decide) rfl (fun ls hl => ?_)
        refine lv_goto (tgt := 26) C0.1 C0.2.1 dX6_findUnits_78 (by decide) ?_
        exact ih hsp (a + 1) (upd (upd u8 0 (nI a)) 1 (fx_last (up * (nI a).toInt64 - low) (low * (nI a).toInt64) (nI a))) _ _ ls (by omega) (by rw [← he, fx_fp, if_neg (fun h9 => absurd c_70 (Int32.not_le.mpr h9))]) (by rw [eV10, eV2, e8, hv_uu, hv_uu] at w; exact w) (by have h9 := (lv_sub (l' := [(0, .ref x), (1, .long up), (3, .long low), (5, .int (nI a + 1))]) hl [1, 2, 3, 0] rfl); rw [nI_1] at h9; exact h9)
      · skip
        refine lv_iconst (v := 2) C0.1 C0.2.1 dX6_findUnits_73 (by decide) ?_
        exact hv_iret C0 w hr hlk (⟨upd (upd u8 0 (nI a)) 1 (fx_last (up * (nI a).toInt64 - low) (low * (nI a).toInt64) (nI a)), nI a, fx_last (up * (nI a).toInt64 - low) (low * (nI a).toInt64) (nI a), 0, by rw [eV10, eV2, e8, hv_uu, hv_uu], by rw [hsp, ← he, fx_fp, if_pos (Int32.not_le.mp c_70)], fun _ => by simp [upd], fun _ => by simp [upd], fun h9 => absurd h9 (by decide)⟩) dX6_findUnits_74
  refine lv_aload_n C0.1 C0.2.1 dX6_findUnits_0 rfl (lv_at hl 0 rfl) ?_
  refine gf_X6_55 C0 w hX0 rfl dX6_findUnits_1 ?_
  refine lv_iconst (v := 0) C0.1 C0.2.1 dX6_findUnits_4 (by decide) ?_
  refine lv_lload_n C0.1 C0.2.1 dX6_findUnits_5 rfl (lv_at hl 1 rfl) ?_
  refine lv_lload_n C0.1 C0.2.1 dX6_findUnits_6 rfl (lv_at hl 2 rfl) ?_
  refine lv_iconst (v := 1) C0.1 C0.2.1 dX6_findUnits_7 (by decide) ?_
  refine hv_cSi (As := [.long up, .long low, .int 1]) C0 w kl_X6_295 ks_X6_lastUnit (c_X6_lastUnit) (by decide) (by decide) rfl hl.1 rfl (Nat.le_of_ble_eq_true rfl) dX6_findUnits_8 ⟨Nat.le_refl _, Nat.le_refl _⟩ (fun x1 V2 Hq lq hp3 w => ?_)
  obtain ⟨e9, e8⟩ := hp3
  rw [e9] at w; rw [e8]; clear e9 e8
  refine hv_iast C0 w hU (hn_in (n := 0) (by decide) (by decide)) dX6_findUnits_11 (fun Hq lq w => ?_)
  have hc9 : (0 : Int32).toNatClampNeg = 0 := by decide
  rw [hc9] at w; clear hc9
  obtain ⟨V4, eV5⟩ : ∃ V9, V9 = hv_up V (x + 63) (.inl (X.2.1 0, 3, .inl (upd u 0 (fx_last up low 1)))) := ⟨_, rfl⟩
  have w : hv_w X s V4 Hq lq := by rw [eV5]; exact w
  have hV6 : V4 x = some (.inr (6, [.ref (x + 1), .ref (x + 27), .int kk0, .ref (x + 53), .ref (x + 57), .ref (x + 58), .ref (x + 60), .ref (x + 61), .ref (x + 62), .ref (x + 63)])) := by rw [eV5, hv_un (by omega)]; exact hX0
  have hV8 : V4 (x + 63) = some (.inl (X.2.1 0, 3, .inl (upd u 0 (fx_last up low 1)))) := by rw [eV5]; exact hv_us
  refine lv_aload_n C0.1 C0.2.1 dX6_findUnits_12 rfl (lv_at hl 0 rfl) ?_
  refine gf_X6_55 C0 w hV6 rfl dX6_findUnits_13 ?_
  refine lv_iconst (v := 0) C0.1 C0.2.1 dX6_findUnits_16 (by decide) ?_
  refine hv_iald C0 w hV8 (hn_in (n := 0) (by decide) (by decide)) dX6_findUnits_17 ?_
  have hc9 : (0 : Int32).toNatClampNeg = 0 := by decide
  rw [hc9]; clear hc9
  rw [show ∀ (g : Nat → Int32) (v : Int32), upd g 0 v 0 = v from fun g v => by simp [upd]]
  refine lv_if_le (tgt := 23) C0.1 C0.2.1 dX6_findUnits_18 (by decide) (fun c_18 => ?_) (fun c_18 => ?_)
  · skip
    refine lv_iconst (v := 2) C0.1 C0.2.1 dX6_findUnits_23 (by decide) ?_
    refine lv_istore (lv' := [(5, .int 2), (0, .ref x), (1, .long up), (3, .long low)]) C0.1 C0.2.1 dX6_findUnits_24 hl (by decide) rfl (fun ls hl => ?_)
    exact loop2 59 (by rw [sp_fu, if_neg (fun h9 => absurd c_18 (Int32.not_le.mpr h9))]) 2 _ _ _ ls rfl rfl (by rw [eV5] at w; exact w) (lv_sub hl [1, 2, 3, 0] rfl)
  · skip
    refine lv_iconst (v := 1) C0.1 C0.2.1 dX6_findUnits_21 (by decide) ?_
    exact hv_iret C0 w hr hlk (⟨upd u 0 (fx_last up low 1), fx_last up low 1, 0, 0, by rw [eV5], by rw [sp_fu, if_pos (Int32.not_le.mp c_18)], fun _ => by simp [upd], fun h9 => absurd h9 (by decide), fun h9 => absurd h9 (by decide)⟩) dX6_findUnits_22

set_option maxHeartbeats 4000000 in
set_option maxRecDepth 100000 in
theorem m_X6_units {l : Launch} {X : hv_X} {V : hv_V} {x : Nat} {σ : hs_S} (hX : okX X V x σ) (hB : hs_b σ) {u lo w9 : Int32} : hv_Mi l X 6 yX6_units cX6_units 5 .int V [.ref x, .int u, .int lo, .int w9] (fun y V1 => y = sp_units u lo w9 ∧ okX X V1 x σ ∧ hv_out V V1 x (x + 92)) := by
  refine hv_enter (by decide) (Nat.le_of_ble_eq_true rfl) ?_
  intro p e s m below meth c ls C0 hr hlk hnm w hl
  have hl : lv_has ls 5 [(0, .ref x), (1, .int u), (2, .int lo), (3, .int w9)] := hl
  obtain ⟨kk0, hX0, hPg, hKp, hTx, hTp, hSc⟩ := id hX
  obtain ⟨hP0, ⟨rf, hP1, hP2⟩, hP3, hP4, hP5, hP6⟩ := id hPg
  obtain ⟨⟨tf, hT1, hT2⟩, hT3⟩ := id hTp
  obtain ⟨⟨tk, tn, tg, hS1, hS2⟩, ⟨LF, hS3⟩, ⟨RF, hS4⟩, ⟨bf, hS5, hS6⟩, hS7, uf, hS8⟩ := id hSc
  have hbR := hB.1.1
  obtain ⟨sf, sg, sh, hL0, hL1, hL2, hL3, hLa⟩ := id hP4
  obtain ⟨ef, eg, eh, hM0, hM1, hM2, hM3, hMa⟩ := id hP5
  obtain ⟨kf, kg, kh, hK0, hK1, hK2, hK3, hKa⟩ := id hP6
  obtain ⟨pl, cl, wd, vl, hQ0, hQ1, hQ2, hQ3⟩ := id hTx
  refine lv_iload_n C0.1 C0.2.1 dX6_units_0 rfl (lv_at hl 1 rfl) ?_
  refine lv_iconst (v := 1) C0.1 C0.2.1 dX6_units_1 (by decide) ?_
  refine lv_sipush (v := 9999) C0.1 C0.2.1 dX6_units_2 (by decide) ?_
  refine hv_cSi (As := [.int u, .int 1, .int 9999]) C0 w kl_X6_68 ks_X6_within (c_X6_within) (by decide) (by decide) rfl hl.1 rfl (Nat.le_of_ble_eq_true rfl) dX6_units_5 ⟨Nat.le_refl _, Nat.le_refl _⟩ (fun x1 V2 Hq lq hp3 w => ?_)
  obtain ⟨e9, hz9⟩ := hp3
  rw [e9] at w; clear e9
  rcases hz9 with ⟨rfl, hb4⟩ | ⟨rfl, hb4⟩
  · skip
    refine lv_if_eq (tgt := 22) C0.1 C0.2.1 dX6_units_8 (by decide) (fun h9 => absurd h9 (by decide)) (fun _ => ?_)
    refine lv_iload_n C0.1 C0.2.1 dX6_units_11 rfl (lv_at hl 2 rfl) ?_
    refine lv_iconst (v := 1) C0.1 C0.2.1 dX6_units_12 (by decide) ?_
    refine lv_sipush (v := 9999) C0.1 C0.2.1 dX6_units_13 (by decide) ?_
    refine hv_cSi (As := [.int lo, .int 1, .int 9999]) C0 w kl_X6_68 ks_X6_within (c_X6_within) (by decide) (by decide) rfl hl.1 rfl (Nat.le_of_ble_eq_true rfl) dX6_units_16 ⟨Nat.le_refl _, Nat.le_refl _⟩ (fun x5 V6 Hq lq hp7 w => ?_)
    obtain ⟨e9, hz9⟩ := hp7
    rw [e9] at w; clear e9
    rcases hz9 with ⟨rfl, hb8⟩ | ⟨rfl, hb8⟩
    · skip
      refine lv_if_ne (tgt := 25) C0.1 C0.2.1 dX6_units_19 (by decide) (fun _ => ?_) (fun h9 => absurd h9 (by decide))
      refine lv_iload_n C0.1 C0.2.1 dX6_units_25 rfl (lv_at hl 3 rfl) ?_
      refine lv_iconst (v := 0) C0.1 C0.2.1 dX6_units_26 (by decide) ?_
      refine lv_iconst (v := 3) C0.1 C0.2.1 dX6_units_27 (by decide) ?_
      refine hv_cSi (As := [.int w9, .int 0, .int 3]) C0 w kl_X6_68 ks_X6_within (c_X6_within) (by decide) (by decide) rfl hl.1 rfl (Nat.le_of_ble_eq_true rfl) dX6_units_28 ⟨Nat.le_refl _, Nat.le_refl _⟩ (fun x9 V10 Hq lq hp11 w => ?_)
      obtain ⟨e9, hz9⟩ := hp11
      rw [e9] at w; clear e9
      rcases hz9 with ⟨rfl, hb12⟩ | ⟨rfl, hb12⟩
      · skip
        refine lv_if_ne (tgt := 36) C0.1 C0.2.1 dX6_units_31 (by decide) (fun _ => ?_) (fun h9 => absurd h9 (by decide))
        refine lv_aload_n C0.1 C0.2.1 dX6_units_36 rfl (lv_at hl 0 rfl) ?_
        refine lv_iload_n C0.1 C0.2.1 dX6_units_37 rfl (lv_at hl 1 rfl) ?_
        refine lv_i2l (v := u.toInt64) C0.1 C0.2.1 dX6_units_38 rfl ?_
        refine lv_iload_n C0.1 C0.2.1 dX6_units_39 rfl (lv_at hl 2 rfl) ?_
        refine lv_i2l (v := lo.toInt64) C0.1 C0.2.1 dX6_units_40 rfl ?_
        refine hv_cVi C0 w kl_X6_169 kv_X6_findUnits rfl hX0 (c_X6_findUnits hX0 hS8) (by decide) (by decide) rfl hl.1 rfl (Nat.le_of_ble_eq_true rfl) dX6_units_41 ⟨Nat.le_refl _, Nat.le_refl _⟩ (fun x13 V14 Hq lq hp15 w => ?_)
        obtain ⟨u9, a9, b9, c9, hp15b, hf9, hu0, hu1, hu2⟩ := hp15
        have hV16 : V14 x = some (xE x kk0) := by rw [hp15b, hv_un (by omega)]; exact hX0
        have hV17 : V14 (x + 63) = some (iE X 3 u9) := by rw [hp15b]; exact hv_us
        refine lv_istore (lv' := [(4, .int x13), (0, .ref x), (1, .int u), (2, .int lo), (3, .int w9)]) C0.1 C0.2.1 dX6_units_44 hl (by decide) rfl (fun ls hl => ?_)
        refine lv_iload_n C0.1 C0.2.1 dX6_units_46 rfl (lv_at hl 4 rfl) ?_
        refine lv_iload C0.1 C0.2.1 dX6_units_47 (lv_at hl 0 rfl) ?_
        refine lv_icmp_le (tgt := 55) C0.1 C0.2.1 dX6_units_49 (by decide) (fun c_49 => ?_) (fun c_49 => ?_)
        · skip
          refine lv_iload_n C0.1 C0.2.1 dX6_units_55 rfl (lv_at hl 4 rfl) ?_
          refine lv_if_ne (tgt := 64) C0.1 C0.2.1 dX6_units_56 (by decide) (fun c_56 => ?_) (fun c_56 => ?_)
          · skip
            have hw9 : w9 = 1 ∨ w9 = 2 ∨ w9 = 3 := by
              obtain ⟨j9, hj9, rfl⟩ := sp_inN (k := 3) (by decide) hb12
              rcases (show j9 = 0 ∨ j9 = 1 ∨ j9 = 2 ∨ j9 = 3 by omega) with rfl | rfl | rfl | rfl
              · exact absurd rfl c_56
              · exact Or.inl rfl
              · exact Or.inr (Or.inl rfl)
              · exact Or.inr (Or.inr rfl)
            rcases hw9 with rfl | rfl | rfl
            · skip
              refine lv_aload_n C0.1 C0.2.1 dX6_units_64 rfl (lv_at hl 1 rfl) ?_
              refine gf_X6_55 C0 w hV16 rfl dX6_units_65 ?_
              refine lv_iload_n C0.1 C0.2.1 dX6_units_68 rfl (lv_at hl 4 rfl) ?_
              refine lv_iconst (v := 1) C0.1 C0.2.1 dX6_units_69 (by decide) ?_
              refine lv_isub C0.1 C0.2.1 dX6_units_70 ?_
              rw [show (1 : Int32) - 1 = 0 from by decide]
              refine hv_iald C0 w hV17 (hn_in (n := 0) (by decide) (by decide)) dX6_units_71 ?_
              have hc9 : (0 : Int32).toNatClampNeg = 0 := by decide
              rw [hc9]; clear hc9
              exact hv_iret C0 w hr hlk (⟨by rw [sp_units, if_pos ⟨hb4, hb8⟩, if_pos hb12, hf9, if_neg (Int32.not_lt.mpr c_49), if_neg (by decide), if_pos rfl, ← hu0 c_49], ⟨kk0, (by rw [hp15b, hv_un (by omega)] : _ = V x).trans hX0, hPg.fr (fun q h7 h8 => by rw [hp15b, hv_un (by omega)]), hKp.fr (fun q h7 h8 => by rw [hp15b, hv_un (by omega)]), hTx.fr (fun q h7 h8 => by rw [hp15b, hv_un (by omega)]), hTp.fr (by rw [hp15b, hv_un (by omega)]) (fun q h7 h8 => by rw [hp15b, hv_un (by omega)]), ⟨⟨tk, tn, tg, (by rw [hp15b, hv_un (by omega)] : _ = V (x + 58)).trans hS1, (by rw [hp15b, hv_un (by omega)] : _ = V (x + 58 + 1)).trans hS2⟩, ⟨LF, (by rw [hp15b, hv_un (by omega)] : _ = V (x + 60)).trans hS3⟩, ⟨RF, (by rw [hp15b, hv_un (by omega)] : _ = V (x + 61)).trans hS4⟩, ⟨bf, (by rw [hp15b, hv_un (by omega)] : _ = V (x + 62)).trans hS5, hS6⟩, fun j9 hj9 => (hS7 j9 hj9).elim fun F h9 => ⟨F, (by rw [hp15b, hv_un (by omega)] : _ = V (x + 76 + j9)).trans h9⟩, u9, by rw [hp15b]; exact hv_us⟩⟩, (fun q h7 => by rw [hp15b, hv_un (by omega)])⟩) dX6_units_72
            · skip
              refine lv_aload_n C0.1 C0.2.1 dX6_units_64 rfl (lv_at hl 1 rfl) ?_
              refine gf_X6_55 C0 w hV16 rfl dX6_units_65 ?_
              refine lv_iload_n C0.1 C0.2.1 dX6_units_68 rfl (lv_at hl 4 rfl) ?_
              refine lv_iconst (v := 1) C0.1 C0.2.1 dX6_units_69 (by decide) ?_
              refine lv_isub C0.1 C0.2.1 dX6_units_70 ?_
              rw [show (2 : Int32) - 1 = 1 from by decide]
              refine hv_iald C0 w hV17 (hn_in (n := 1) (by decide) (by decide)) dX6_units_71 ?_
              have hc9 : (1 : Int32).toNatClampNeg = 1 := by decide
              rw [hc9]; clear hc9
              exact hv_iret C0 w hr hlk (⟨by rw [sp_units, if_pos ⟨hb4, hb8⟩, if_pos hb12, hf9, if_neg (Int32.not_lt.mpr c_49), if_neg (by decide), if_neg (by decide), if_pos rfl, ← hu1 c_49], ⟨kk0, (by rw [hp15b, hv_un (by omega)] : _ = V x).trans hX0, hPg.fr (fun q h7 h8 => by rw [hp15b, hv_un (by omega)]), hKp.fr (fun q h7 h8 => by rw [hp15b, hv_un (by omega)]), hTx.fr (fun q h7 h8 => by rw [hp15b, hv_un (by omega)]), hTp.fr (by rw [hp15b, hv_un (by omega)]) (fun q h7 h8 => by rw [hp15b, hv_un (by omega)]), ⟨⟨tk, tn, tg, (by rw [hp15b, hv_un (by omega)] : _ = V (x + 58)).trans hS1, (by rw [hp15b, hv_un (by omega)] : _ = V (x + 58 + 1)).trans hS2⟩, ⟨LF, (by rw [hp15b, hv_un (by omega)] : _ = V (x + 60)).trans hS3⟩, ⟨RF, (by rw [hp15b, hv_un (by omega)] : _ = V (x + 61)).trans hS4⟩, ⟨bf, (by rw [hp15b, hv_un (by omega)] : _ = V (x + 62)).trans hS5, hS6⟩, fun j9 hj9 => (hS7 j9 hj9).elim fun F h9 => ⟨F, (by rw [hp15b, hv_un (by omega)] : _ = V (x + 76 + j9)).trans h9⟩, u9, by rw [hp15b]; exact hv_us⟩⟩, (fun q h7 => by rw [hp15b, hv_un (by omega)])⟩) dX6_units_72
            · skip
              refine lv_aload_n C0.1 C0.2.1 dX6_units_64 rfl (lv_at hl 1 rfl) ?_
              refine gf_X6_55 C0 w hV16 rfl dX6_units_65 ?_
              refine lv_iload_n C0.1 C0.2.1 dX6_units_68 rfl (lv_at hl 4 rfl) ?_
              refine lv_iconst (v := 1) C0.1 C0.2.1 dX6_units_69 (by decide) ?_
              refine lv_isub C0.1 C0.2.1 dX6_units_70 ?_
              rw [show (3 : Int32) - 1 = 2 from by decide]
              refine hv_iald C0 w hV17 (hn_in (n := 2) (by decide) (by decide)) dX6_units_71 ?_
              have hc9 : (2 : Int32).toNatClampNeg = 2 := by decide
              rw [hc9]; clear hc9
              exact hv_iret C0 w hr hlk (⟨by rw [sp_units, if_pos ⟨hb4, hb8⟩, if_pos hb12, hf9, if_neg (Int32.not_lt.mpr c_49), if_neg (by decide), if_neg (by decide), if_neg (by decide), ← hu2 c_49], ⟨kk0, (by rw [hp15b, hv_un (by omega)] : _ = V x).trans hX0, hPg.fr (fun q h7 h8 => by rw [hp15b, hv_un (by omega)]), hKp.fr (fun q h7 h8 => by rw [hp15b, hv_un (by omega)]), hTx.fr (fun q h7 h8 => by rw [hp15b, hv_un (by omega)]), hTp.fr (by rw [hp15b, hv_un (by omega)]) (fun q h7 h8 => by rw [hp15b, hv_un (by omega)]), ⟨⟨tk, tn, tg, (by rw [hp15b, hv_un (by omega)] : _ = V (x + 58)).trans hS1, (by rw [hp15b, hv_un (by omega)] : _ = V (x + 58 + 1)).trans hS2⟩, ⟨LF, (by rw [hp15b, hv_un (by omega)] : _ = V (x + 60)).trans hS3⟩, ⟨RF, (by rw [hp15b, hv_un (by omega)] : _ = V (x + 61)).trans hS4⟩, ⟨bf, (by rw [hp15b, hv_un (by omega)] : _ = V (x + 62)).trans hS5, hS6⟩, fun j9 hj9 => (hS7 j9 hj9).elim fun F h9 => ⟨F, (by rw [hp15b, hv_un (by omega)] : _ = V (x + 76 + j9)).trans h9⟩, u9, by rw [hp15b]; exact hv_us⟩⟩, (fun q h7 => by rw [hp15b, hv_un (by omega)])⟩) dX6_units_72
          · skip
            refine lv_iload C0.1 C0.2.1 dX6_units_59 (lv_at hl 0 rfl) ?_
            refine lv_goto (tgt := 72) C0.1 C0.2.1 dX6_units_61 (by decide) ?_
            exact hv_iret C0 w hr hlk (⟨by rw [sp_units, if_pos ⟨hb4, hb8⟩, if_pos hb12, hf9, if_neg (Int32.not_lt.mpr c_49), if_pos c_56], ⟨kk0, (by rw [hp15b, hv_un (by omega)] : _ = V x).trans hX0, hPg.fr (fun q h7 h8 => by rw [hp15b, hv_un (by omega)]), hKp.fr (fun q h7 h8 => by rw [hp15b, hv_un (by omega)]), hTx.fr (fun q h7 h8 => by rw [hp15b, hv_un (by omega)]), hTp.fr (by rw [hp15b, hv_un (by omega)]) (fun q h7 h8 => by rw [hp15b, hv_un (by omega)]), ⟨⟨tk, tn, tg, (by rw [hp15b, hv_un (by omega)] : _ = V (x + 58)).trans hS1, (by rw [hp15b, hv_un (by omega)] : _ = V (x + 58 + 1)).trans hS2⟩, ⟨LF, (by rw [hp15b, hv_un (by omega)] : _ = V (x + 60)).trans hS3⟩, ⟨RF, (by rw [hp15b, hv_un (by omega)] : _ = V (x + 61)).trans hS4⟩, ⟨bf, (by rw [hp15b, hv_un (by omega)] : _ = V (x + 62)).trans hS5, hS6⟩, fun j9 hj9 => (hS7 j9 hj9).elim fun F h9 => ⟨F, (by rw [hp15b, hv_un (by omega)] : _ = V (x + 76 + j9)).trans h9⟩, u9, by rw [hp15b]; exact hv_us⟩⟩, (fun q h7 => by rw [hp15b, hv_un (by omega)])⟩) dX6_units_72
        · skip
          refine lv_bipush (v := -5) C0.1 C0.2.1 dX6_units_52 (by decide) ?_
          exact hv_iret C0 w hr hlk (⟨by rw [sp_units, if_pos ⟨hb4, hb8⟩, if_pos hb12, hf9, if_pos (Int32.not_le.mp c_49)], ⟨kk0, (by rw [hp15b, hv_un (by omega)] : _ = V x).trans hX0, hPg.fr (fun q h7 h8 => by rw [hp15b, hv_un (by omega)]), hKp.fr (fun q h7 h8 => by rw [hp15b, hv_un (by omega)]), hTx.fr (fun q h7 h8 => by rw [hp15b, hv_un (by omega)]), hTp.fr (by rw [hp15b, hv_un (by omega)]) (fun q h7 h8 => by rw [hp15b, hv_un (by omega)]), ⟨⟨tk, tn, tg, (by rw [hp15b, hv_un (by omega)] : _ = V (x + 58)).trans hS1, (by rw [hp15b, hv_un (by omega)] : _ = V (x + 58 + 1)).trans hS2⟩, ⟨LF, (by rw [hp15b, hv_un (by omega)] : _ = V (x + 60)).trans hS3⟩, ⟨RF, (by rw [hp15b, hv_un (by omega)] : _ = V (x + 61)).trans hS4⟩, ⟨bf, (by rw [hp15b, hv_un (by omega)] : _ = V (x + 62)).trans hS5, hS6⟩, fun j9 hj9 => (hS7 j9 hj9).elim fun F h9 => ⟨F, (by rw [hp15b, hv_un (by omega)] : _ = V (x + 76 + j9)).trans h9⟩, u9, by rw [hp15b]; exact hv_us⟩⟩, (fun q h7 => by rw [hp15b, hv_un (by omega)])⟩) dX6_units_54
      · skip
        refine lv_if_ne (tgt := 36) C0.1 C0.2.1 dX6_units_31 (by decide) (fun h9 => absurd h9 (by decide)) (fun _ => ?_)
        refine lv_iconst (v := -1) C0.1 C0.2.1 dX6_units_34 (by decide) ?_
        exact hv_iret C0 w hr hlk (⟨by rw [sp_units, if_pos ⟨hb4, hb8⟩, if_neg hb12], hX, hv_out.rf⟩) dX6_units_35
    · skip
      refine lv_if_ne (tgt := 25) C0.1 C0.2.1 dX6_units_19 (by decide) (fun h9 => absurd h9 (by decide)) (fun _ => ?_)
      refine lv_bipush (v := -2) C0.1 C0.2.1 dX6_units_22 (by decide) ?_
      exact hv_iret C0 w hr hlk (⟨by rw [sp_units, if_neg (fun h9 => hb8 h9.2)], hX, hv_out.rf⟩) dX6_units_24
  · skip
    refine lv_if_eq (tgt := 22) C0.1 C0.2.1 dX6_units_8 (by decide) (fun _ => ?_) (fun h9 => absurd h9 (by decide))
    refine lv_bipush (v := -2) C0.1 C0.2.1 dX6_units_22 (by decide) ?_
    exact hv_iret C0 w hr hlk (⟨by rw [sp_units, if_neg (fun h9 => hb4 h9.1)], hX, hv_out.rf⟩) dX6_units_24

