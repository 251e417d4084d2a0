/-! FRACTION: an object's three fields as one value F: up, low, there -/
abbrev fx_F : Type := Int64 × Int64 × Int32
abbrev fE (F : fx_F) : va_E := .inr (0, [.long F.1, .long F.2.1, .int F.2.2])
def fx_no : fx_F := (0, 1, 0)
/-- Euclid's way, as the loop goes it -/
def fx_gd : Nat → Int64 → Int64 → Int64
  | 0, a, _ => a
  | n + 1, a, b => if b = 0 then a else fx_gd n b (a - a / b * b)
def fx_abs (a : Int64) : Int64 := if 0 < a then a else -a
def fx_div (a b : Int64) : Int64 := if 0 < b then fx_gd 200 (fx_abs a) b else 0
def fx_become (a b : Int64) : fx_F := if fx_div a b ≤ 0 then fx_no else if 1000000000 < fx_abs (a / fx_div a b) ∨ 1000000000 < b / fx_div a b then fx_no else (a / fx_div a b, b / fx_div a b, 1)
def fx_addOn (F : fx_F) (a b : Int64) : fx_F := if F.2.2 = 0 then F else fx_become (F.1 * b + a * F.2.1) (F.2.1 * b)
def fx_takeAway (F G : fx_F) : fx_F := if F.2.2 = 0 ∨ G.2.2 = 0 then fx_no else fx_addOn F (-G.1) G.2.1
def fx_mul (F G : fx_F) : fx_F := if F.2.2 = 0 ∨ G.2.2 = 0 then fx_no else fx_become (F.1 * G.1) (F.2.1 * G.2.1)
def fx_rest (F : fx_F) : fx_F := if F.2.2 = 0 then F else fx_become (F.2.1 - F.1) F.2.1
def fx_divBy (F : fx_F) (d : Int64) : fx_F := if F.2.2 = 0 then F else fx_become F.1 (F.2.1 * d)
abbrev fx_nought (F : fx_F) : Prop := F.2.2 ≠ 0 ∧ F.1 = 0
abbrev fx_proper (F : fx_F) : Prop := F.2.2 ≠ 0 ∧ 0 < F.1 ∧ F.1 < F.2.1
abbrev fx_above (F G : fx_F) : Prop := F.2.2 ≠ 0 ∧ G.2.2 ≠ 0 ∧ G.1 * F.2.1 < F.1 * G.2.1
abbrev fx_just (F : fx_F) (a b : Int64) : Prop := F.2.2 ≠ 0 ∧ F.1 * b = a * F.2.1
def fx_part (F : fx_F) (k : Int32) : Int64 := if F.2.2 = 0 then -9223372036854775808 else if k = 0 then F.1 else F.2.1
/-- a boolean answer -/
abbrev hv_B (P : Prop) (x : Int32) : Prop := (x = 1 ∧ P) ∨ (x = 0 ∧ ¬ P)
set_option maxHeartbeats 4000000 in
set_option maxRecDepth 100000 in
theorem c_X0_vanish {l : Launch} {X : hv_X} {V : hv_V} {o : Nat} {F : fx_F} (hV : V o = some (fE F)) : hv_Mv l X 0 yX0_vanish cX0_vanish 1 V [.ref o] (fun V1 => V1 = hv_up V o (fE fx_no)) := by
  refine hv_enter (by decide) (Nat.le_of_ble_eq_true rfl) ?_
  intro p e s m below meth c ls C0 hr hlk hnm w hl
  have hl : lv_has ls 1 [(0, .ref o)] := hl
  refine lv_aload_n C0.1 C0.2.1 dX0_vanish_0 rfl (lv_at hl 0 rfl) ?_
  refine lv_lconst (v := 0) C0.1 C0.2.1 dX0_vanish_1 (by decide) ?_
  refine pf_X0_19 C0 w hV (by simp) dX0_vanish_2 (fun Hq lq w => ?_)
  obtain ⟨V1, eV2⟩ : ∃ V9, V9 = hv_up V o (.inr (0, [.long 0, .long F.2.1, .int F.2.2])) := ⟨_, rfl⟩
  have w : hv_w X s V1 Hq lq := by rw [eV2]; exact w
  have hV4 : V1 o = some (.inr (0, [.long 0, .long F.2.1, .int F.2.2])) := by rw [eV2]; exact hv_us
  refine lv_aload_n C0.1 C0.2.1 dX0_vanish_5 rfl (lv_at hl 0 rfl) ?_
  refine lv_lconst (v := 1) C0.1 C0.2.1 dX0_vanish_6 (by decide) ?_
  refine pf_X0_9 C0 w hV4 (by simp) dX0_vanish_7 (fun Hq lq w => ?_)
  obtain ⟨V5, eV6⟩ : ∃ V9, V9 = hv_up V1 o (.inr (0, [.long 0, .long 1, .int F.2.2])) := ⟨_, rfl⟩
  have w : hv_w X s V5 Hq lq := by rw [eV6]; exact w
  have hV8 : V5 o = some (.inr (0, [.long 0, .long 1, .int F.2.2])) := by rw [eV6]; exact hv_us
  refine lv_aload_n C0.1 C0.2.1 dX0_vanish_10 rfl (lv_at hl 0 rfl) ?_
  refine lv_iconst (v := 0) C0.1 C0.2.1 dX0_vanish_11 (by decide) ?_
  refine pf_X0_15 C0 w hV8 (by simp) (by decide) (by decide) dX0_vanish_12 (fun Hq lq w => ?_)
  obtain ⟨V9, eV10⟩ : ∃ V9, V9 = hv_up V5 o (.inr (0, [.long 0, .long 1, .int 0])) := ⟨_, rfl⟩
  have w : hv_w X s V9 Hq lq := by rw [eV10]; exact w
  have hV12 : V9 o = some (.inr (0, [.long 0, .long 1, .int 0])) := by rw [eV10]; exact hv_us
  exact hv_vret C0 w hr hlk (by rw [eV10, eV6, eV2, hv_uu, hv_uu]; rfl) dX0_vanish_15

set_option maxHeartbeats 4000000 in
set_option maxRecDepth 100000 in
theorem c_X0_gd {l : Launch} {X : hv_X} {V : hv_V} {a b : Int64} : hv_Ml l X 0 yX0_greatestDivisor cX0_greatestDivisor 11 V [.long a, .long b] (fun x V1 => V1 = V ∧ x = fx_gd 200 a b) := by
  refine hv_enter (by decide) (Nat.le_of_ble_eq_true rfl) ?_
  intro p e s m below meth c ls C0 hr hlk hnm w hl
  have hl : lv_has ls 11 [(0, .long a), (2, .long b)] := hl
  have loop : ∀ (n i : Nat) (g r : Int64) (Hq : Heap) (lq : List Loc) (ls : Array Slot), (i + n = 200) → (fx_gd n g r = fx_gd 200 a b) → hv_w X s (V) Hq lq → lv_has ls 11 [(4, .long g), (6, .long r), (8, .int (nI i))] → W p l e (hv_rm 0 0 0) s m ([.long a, .long b] : List Value).toArray below meth c Hq lq 0 0 (MQ below (hv_Ql X (fun x V1 => V1 = V ∧ x = fx_gd 200 a b)) ([.long a, .long b] : List Value).toArray s 0 0 X.2.2.1) (F0 m 9 ls []) := by
    intro n
    induction n with
    | zero =>
      intro i g r Hq lq ls hi he w hl
      have he : g = fx_gd 200 a b := he
      refine lv_iload C0.1 C0.2.1 dX0_greatestDivisor_9 (lv_at hl 2 rfl) ?_
      refine lv_sipush (v := 200) C0.1 C0.2.1 dX0_greatestDivisor_11 (by decide) ?_
      refine lv_icmp_ge (tgt := 45) C0.1 C0.2.1 dX0_greatestDivisor_14 (by decide) (fun c_14 => ?_) (fun c_14 => absurd (show nI 200 ≤ nI i from nI_le (by omega) (by omega)) c_14)
      refine lv_lload C0.1 C0.2.1 dX0_greatestDivisor_45 (lv_at hl 0 rfl) ?_
      exact hv_lret C0 w hr hlk (⟨rfl, he⟩) dX0_greatestDivisor_47
    | succ n ih =>
      intro i g r Hq lq ls hi he w hl
      refine lv_iload C0.1 C0.2.1 dX0_greatestDivisor_9 (lv_at hl 2 rfl) ?_
      refine lv_sipush (v := 200) C0.1 C0.2.1 dX0_greatestDivisor_11 (by decide) ?_
      refine lv_icmp_ge (tgt := 45) C0.1 C0.2.1 dX0_greatestDivisor_14 (by decide) (fun c_14 => absurd c_14 (show ¬ nI 200 ≤ nI i from nI_ge (by omega) (by omega))) (fun c_14 => ?_)
      refine lv_lload C0.1 C0.2.1 dX0_greatestDivisor_17 (lv_at hl 1 rfl) ?_
      refine lv_lconst (v := 0) C0.1 C0.2.1 dX0_greatestDivisor_19 (by decide) ?_
      refine hv_lc_eq (tgt := 45) C0.1 C0.2.1 dX0_greatestDivisor_20 dX0_greatestDivisor_21 (by decide) (fun c_20 => ?_) (fun c_20 => ?_)
      · skip
        refine lv_lload C0.1 C0.2.1 dX0_greatestDivisor_45 (lv_at hl 0 rfl) ?_
        exact hv_lret C0 w hr hlk (⟨rfl, by rw [← he, fx_gd, if_pos c_20]⟩) dX0_greatestDivisor_47
      · skip
        refine lv_lload C0.1 C0.2.1 dX0_greatestDivisor_24 (lv_at hl 0 rfl) ?_
        refine lv_lload C0.1 C0.2.1 dX0_greatestDivisor_26 (lv_at hl 1 rfl) ?_
        refine lv_lrem C0.1 C0.2.1 dX0_greatestDivisor_28 (c_20) ?_
        refine lv_lstore (lv' := [(9, .long (g - g / r * r)), (4, .long g), (6, .long r), (8, .int (nI i))]) C0.1 C0.2.1 dX0_greatestDivisor_29 hl (by decide) rfl (fun ls hl => ?_)
        refine lv_lload C0.1 C0.2.1 dX0_greatestDivisor_31 (lv_at hl 2 rfl) ?_
        refine lv_lstore (lv' := [(4, .long r), (9, .long (g - g / r * r)), (6, .long r), (8, .int (nI i))]) C0.1 C0.2.1 dX0_greatestDivisor_33 hl (by decide) rfl (fun ls hl => ?_)
        refine lv_lload C0.1 C0.2.1 dX0_greatestDivisor_35 (lv_at hl 1 rfl) ?_
        refine lv_lstore (lv' := [(6, .long (g - g / r * r)), (4, .long r), (9, .long (g - g / r * r)), (8, .int (nI i))]) C0.1 C0.2.1 dX0_greatestDivisor_37 hl (by decide) rfl (fun ls hl => ?_)
        refine lv_iinc (v := (nI i) + 1) (lv' := [(8, .int ((nI i) + 1)), (6, .long (g - g / r * r)), (4, .long r), (9, .long (g - g / r * r))]) C0.1 C0.2.1 dX0_greatestDivisor_39 hl (k := 3) rfl rfl (by decide) rfl (fun ls hl => ?_)
        refine lv_goto (tgt := 9) C0.1 C0.2.1 dX0_greatestDivisor_42 (by decide) ?_
        exact ih (i + 1) _ _ _ _ ls (by omega) (by rw [← he, fx_gd, if_neg c_20]) w (by have h9 := (lv_sub (l' := [(4, .long r), (6, .long (g - g / r * r)), (8, .int (nI i + 1))]) hl [2, 1, 0] rfl); rw [nI_1] at h9; exact h9)
  refine lv_lload_n C0.1 C0.2.1 dX0_greatestDivisor_0 rfl (lv_at hl 0 rfl) ?_
  refine lv_lstore (lv' := [(4, .long a), (0, .long a), (2, .long b)]) C0.1 C0.2.1 dX0_greatestDivisor_1 hl (by decide) rfl (fun ls hl => ?_)
  refine lv_lload_n C0.1 C0.2.1 dX0_greatestDivisor_3 rfl (lv_at hl 2 rfl) ?_
  refine lv_lstore (lv' := [(6, .long b), (4, .long a), (0, .long a), (2, .long b)]) C0.1 C0.2.1 dX0_greatestDivisor_4 hl (by decide) rfl (fun ls hl => ?_)
  refine lv_iconst (v := 0) C0.1 C0.2.1 dX0_greatestDivisor_6 (by decide) ?_
  refine lv_istore (lv' := [(8, .int 0), (6, .long b), (4, .long a), (0, .long a), (2, .long b)]) C0.1 C0.2.1 dX0_greatestDivisor_7 hl (by decide) rfl (fun ls hl => ?_)
  exact loop 200 0 a b _ _ ls rfl rfl w (lv_sub hl [2, 1, 0] rfl)

set_option maxHeartbeats 4000000 in
set_option maxRecDepth 100000 in
theorem c_X0_become {l : Launch} {X : hv_X} {V : hv_V} {o : Nat} {F : fx_F} (hV : V o = some (fE F)) {a b : Int64} : hv_Mv l X 1 yX0_become cX0_become 7 V [.ref o, .long a, .long b] (fun V1 => V1 = hv_up V o (fE (fx_become a b))) := by
  refine hv_enter (by decide) (Nat.le_of_ble_eq_true rfl) ?_
  intro p e s m below meth c ls C0 hr hlk hnm w hl
  have hl : lv_has ls 7 [(0, .ref o), (1, .long a), (3, .long b)] := hl
  refine lv_lload_n C0.1 C0.2.1 dX0_become_0 rfl (lv_at hl 2 rfl) ?_
  refine lv_lconst (v := 0) C0.1 C0.2.1 dX0_become_1 (by decide) ?_
  refine hv_lc_le (tgt := 17) C0.1 C0.2.1 dX0_become_2 dX0_become_3 (by decide) (fun c_2 => ?_) (fun c_2 => ?_)
  · skip
    refine lv_lconst (v := 0) C0.1 C0.2.1 dX0_become_17 (by decide) ?_
    refine lv_lstore (lv' := [(5, .long 0), (0, .ref o), (1, .long a), (3, .long b)]) C0.1 C0.2.1 dX0_become_18 hl (by decide) rfl (fun ls hl => ?_)
    have hl : lv_has ls 7 [(5, .long (fx_div a b)), (0, .ref o), (1, .long a), (3, .long b)] := by rw [show ((fx_div a b)) = (0) from by rw [fx_div, if_neg (Int64.not_lt.mpr c_2)]]; exact hl
    refine lv_lload C0.1 C0.2.1 dX0_become_20 (lv_at hl 0 rfl) ?_
    refine lv_lconst (v := 0) C0.1 C0.2.1 dX0_become_22 (by decide) ?_
    refine hv_lc_gt (tgt := 32) C0.1 C0.2.1 dX0_become_23 dX0_become_24 (by decide) (fun c_23 => ?_) (fun c_23 => ?_)
    · skip
      refine lv_aload_n C0.1 C0.2.1 dX0_become_32 rfl (lv_at hl 1 rfl) ?_
      refine lv_lload_n C0.1 C0.2.1 dX0_become_33 rfl (lv_at hl 2 rfl) ?_
      refine lv_lload C0.1 C0.2.1 dX0_become_34 (lv_at hl 0 rfl) ?_
      refine lv_ldiv C0.1 C0.2.1 dX0_become_36 ((fun h9 => by rw [h9] at c_23; exact absurd c_23 (by decide))) ?_
      refine pf_X0_19 C0 w hV (by simp) dX0_become_37 (fun Hq lq w => ?_)
      obtain ⟨V1, eV2⟩ : ∃ V9, V9 = hv_up V o (.inr (0, [.long (a / (fx_div a b)), .long F.2.1, .int F.2.2])) := ⟨_, rfl⟩
      have w : hv_w X s V1 Hq lq := by rw [eV2]; exact w
      have hV4 : V1 o = some (.inr (0, [.long (a / (fx_div a b)), .long F.2.1, .int F.2.2])) := by rw [eV2]; exact hv_us
      refine lv_aload_n C0.1 C0.2.1 dX0_become_40 rfl (lv_at hl 1 rfl) ?_
      refine lv_lload_n C0.1 C0.2.1 dX0_become_41 rfl (lv_at hl 3 rfl) ?_
      refine lv_lload C0.1 C0.2.1 dX0_become_42 (lv_at hl 0 rfl) ?_
      refine lv_ldiv C0.1 C0.2.1 dX0_become_44 ((fun h9 => by rw [h9] at c_23; exact absurd c_23 (by decide))) ?_
      refine pf_X0_9 C0 w hV4 (by simp) dX0_become_45 (fun Hq lq w => ?_)
      obtain ⟨V5, eV6⟩ : ∃ V9, V9 = hv_up V1 o (.inr (0, [.long (a / (fx_div a b)), .long (b / (fx_div a b)), .int F.2.2])) := ⟨_, rfl⟩
      have w : hv_w X s V5 Hq lq := by rw [eV6]; exact w
      have hV8 : V5 o = some (.inr (0, [.long (a / (fx_div a b)), .long (b / (fx_div a b)), .int F.2.2])) := by rw [eV6]; exact hv_us
      refine lv_aload_n C0.1 C0.2.1 dX0_become_48 rfl (lv_at hl 1 rfl) ?_
      refine lv_iconst (v := 1) C0.1 C0.2.1 dX0_become_49 (by decide) ?_
      refine pf_X0_15 C0 w hV8 (by simp) (by decide) (by decide) dX0_become_50 (fun Hq lq w => ?_)
      obtain ⟨V9, eV10⟩ : ∃ V9, V9 = hv_up V5 o (.inr (0, [.long (a / (fx_div a b)), .long (b / (fx_div a b)), .int 1])) := ⟨_, rfl⟩
      have w : hv_w X s V9 Hq lq := by rw [eV10]; exact w
      have hV12 : V9 o = some (.inr (0, [.long (a / (fx_div a b)), .long (b / (fx_div a b)), .int 1])) := by rw [eV10]; exact hv_us
      refine lv_aload_n C0.1 C0.2.1 dX0_become_53 rfl (lv_at hl 1 rfl) ?_
      refine gf_X0_19 C0 w hV12 rfl dX0_become_54 ?_
      refine va_mabs_long C0.1 C0.2.1 (C0.2.2.1.trans hl.1.symm) C0.2.2.2.1 (C0.2.2.2.2.1 _ kj_X0_22) (C0.2.2.2.2.1 _ kj_abs_s) (C0.2.2.2.2.1 _ kj_Math) (C0.2.2.2.2.1 _ kj_abs_c) (by decide) (Nat.le_of_ble_eq_true rfl) (Nat.le_refl _) (Nat.le_refl _) dX0_become_57 ?_
      refine lv_ldc2 C0.1 C0.2.1 C0.2.2.2.1 (C0.2.2.2.2.1 _ kk_X0_35) dX0_become_60 ?_
      refine hv_lc_gt (tgt := 78) C0.1 C0.2.1 dX0_become_63 dX0_become_64 (by decide) (fun c_63 => ?_) (fun c_63 => ?_)
      · skip
        refine lv_aload_n C0.1 C0.2.1 dX0_become_78 rfl (lv_at hl 1 rfl) ?_
        refine hv_cVv C0 w kl_X0_32 kv_X0_vanish rfl hV12 (c_X0_vanish (F := ((a / (fx_div a b)), (b / (fx_div a b)), 1)) hV12) (by decide) (by decide) rfl hl.1 rfl (Nat.le_of_ble_eq_true rfl) dX0_become_79 ⟨Nat.le_refl _, Nat.le_refl _⟩ (fun V14 Hq lq hp15 w => ?_)
        have hV17 : V14 o = some (fE fx_no) := by rw [hp15]; exact hv_us
        exact hv_vret C0 w hr hlk (by rw [show fx_become a b = fx_no from by rw [fx_become, if_neg (Int64.not_le.mpr c_23), if_pos (Or.inl (show 1000000000 < fx_abs _ from c_63))], hp15, eV10, eV6, eV2, hv_uu, hv_uu, hv_uu] <;> rfl) dX0_become_82
      · skip
        refine lv_aload_n C0.1 C0.2.1 dX0_become_67 rfl (lv_at hl 1 rfl) ?_
        refine gf_X0_9 C0 w hV12 rfl dX0_become_68 ?_
        refine lv_ldc2 C0.1 C0.2.1 C0.2.2.2.1 (C0.2.2.2.2.1 _ kk_X0_35) dX0_become_71 ?_
        refine hv_lc_le (tgt := 82) C0.1 C0.2.1 dX0_become_74 dX0_become_75 (by decide) (fun c_74 => ?_) (fun c_74 => ?_)
        · skip
          exact hv_vret C0 w hr hlk (by rw [show fx_become a b = (a / fx_div a b, b / fx_div a b, 1) from by rw [fx_become, if_neg (Int64.not_le.mpr c_23), if_neg (fun h9 => h9.elim c_63 (fun h8 => absurd c_74 (Int64.not_le.mpr h8)))], eV10, eV6, eV2, hv_uu, hv_uu] <;> rfl) dX0_become_82
        · skip
          refine lv_aload_n C0.1 C0.2.1 dX0_become_78 rfl (lv_at hl 1 rfl) ?_
          refine hv_cVv C0 w kl_X0_32 kv_X0_vanish rfl hV12 (c_X0_vanish (F := ((a / (fx_div a b)), (b / (fx_div a b)), 1)) hV12) (by decide) (by decide) rfl hl.1 rfl (Nat.le_of_ble_eq_true rfl) dX0_become_79 ⟨Nat.le_refl _, Nat.le_refl _⟩ (fun V19 Hq lq hp20 w => ?_)
          have hV22 : V19 o = some (fE fx_no) := by rw [hp20]; exact hv_us
          exact hv_vret C0 w hr hlk (by rw [show fx_become a b = fx_no from by rw [fx_become, if_neg (Int64.not_le.mpr c_23), if_pos (Or.inr (Int64.not_le.mp c_74))], hp20, eV10, eV6, eV2, hv_uu, hv_uu, hv_uu] <;> rfl) dX0_become_82
    · skip
      refine lv_aload_n C0.1 C0.2.1 dX0_become_27 rfl (lv_at hl 1 rfl) ?_
      refine hv_cVv C0 w kl_X0_32 kv_X0_vanish rfl hV (c_X0_vanish (F := (F.1, F.2.1, F.2.2)) hV) (by decide) (by decide) rfl hl.1 rfl (Nat.le_of_ble_eq_true rfl) dX0_become_28 ⟨Nat.le_refl _, Nat.le_refl _⟩ (fun V24 Hq lq hp25 w => ?_)
      have hV27 : V24 o = some (fE fx_no) := by rw [hp25]; exact hv_us
      exact hv_vret C0 w hr hlk (by rw [show fx_become a b = fx_no from by rw [fx_become, if_pos (Int64.not_lt.mp c_23)], hp25] <;> rfl) dX0_become_31
  · skip
    refine lv_lload_n C0.1 C0.2.1 dX0_become_6 rfl (lv_at hl 1 rfl) ?_
    refine va_mabs_long C0.1 C0.2.1 (C0.2.2.1.trans hl.1.symm) C0.2.2.2.1 (C0.2.2.2.2.1 _ kj_X0_22) (C0.2.2.2.2.1 _ kj_abs_s) (C0.2.2.2.2.1 _ kj_Math) (C0.2.2.2.2.1 _ kj_abs_c) (by decide) (Nat.le_of_ble_eq_true rfl) (Nat.le_refl _) (Nat.le_refl _) dX0_become_7 ?_
    refine lv_lload_n C0.1 C0.2.1 dX0_become_10 rfl (lv_at hl 2 rfl) ?_
    refine hv_cSl (As := [.long (if 0 < a then a else -a), .long b]) C0 w kl_X0_28 ks_X0_greatestDivisor (c_X0_gd) (by decide) (by decide) rfl hl.1 rfl (Nat.le_of_ble_eq_true rfl) dX0_become_11 ⟨Nat.le_refl _, Nat.le_refl _⟩ (fun x28 V29 Hq lq hp30 w => ?_)
    obtain ⟨e9, e8⟩ := hp30
    rw [e9] at w; rw [e8]; clear e9 e8
    refine lv_goto (tgt := 18) C0.1 C0.2.1 dX0_become_14 (by decide) ?_
    refine lv_lstore (lv' := [(5, .long (fx_gd 200 (fx_abs a) b)), (0, .ref o), (1, .long a), (3, .long b)]) C0.1 C0.2.1 dX0_become_18 hl (by decide) rfl (fun ls hl => ?_)
    have hl : lv_has ls 7 [(5, .long (fx_div a b)), (0, .ref o), (1, .long a), (3, .long b)] := by rw [show ((fx_div a b)) = ((fx_gd 200 (fx_abs a) b)) from by rw [fx_div, if_pos (Int64.not_le.mp c_2)]]; exact hl
    refine lv_lload C0.1 C0.2.1 dX0_become_20 (lv_at hl 0 rfl) ?_
    refine lv_lconst (v := 0) C0.1 C0.2.1 dX0_become_22 (by decide) ?_
    refine hv_lc_gt (tgt := 32) C0.1 C0.2.1 dX0_become_23 dX0_become_24 (by decide) (fun c_23 => ?_) (fun c_23 => ?_)
    · skip
      refine lv_aload_n C0.1 C0.2.1 dX0_become_32 rfl (lv_at hl 1 rfl) ?_
      refine lv_lload_n C0.1 C0.2.1 dX0_become_33 rfl (lv_at hl 2 rfl) ?_
      refine lv_lload C0.1 C0.2.1 dX0_become_34 (lv_at hl 0 rfl) ?_
      refine lv_ldiv C0.1 C0.2.1 dX0_become_36 ((fun h9 => by rw [h9] at c_23; exact absurd c_23 (by decide))) ?_
      refine pf_X0_19 C0 w hV (by simp) dX0_become_37 (fun Hq lq w => ?_)
      obtain ⟨V31, eV32⟩ : ∃ V9, V9 = hv_up V o (.inr (0, [.long (a / (fx_div a b)), .long F.2.1, .int F.2.2])) := ⟨_, rfl⟩
      have w : hv_w X s V31 Hq lq := by rw [eV32]; exact w
      have hV34 : V31 o = some (.inr (0, [.long (a / (fx_div a b)), .long F.2.1, .int F.2.2])) := by rw [eV32]; exact hv_us
      refine lv_aload_n C0.1 C0.2.1 dX0_become_40 rfl (lv_at hl 1 rfl) ?_
      refine lv_lload_n C0.1 C0.2.1 dX0_become_41 rfl (lv_at hl 3 rfl) ?_
      refine lv_lload C0.1 C0.2.1 dX0_become_42 (lv_at hl 0 rfl) ?_
      refine lv_ldiv C0.1 C0.2.1 dX0_become_44 ((fun h9 => by rw [h9] at c_23; exact absurd c_23 (by decide))) ?_
      refine pf_X0_9 C0 w hV34 (by simp) dX0_become_45 (fun Hq lq w => ?_)
      obtain ⟨V35, eV36⟩ : ∃ V9, V9 = hv_up V31 o (.inr (0, [.long (a / (fx_div a b)), .long (b / (fx_div a b)), .int F.2.2])) := ⟨_, rfl⟩
      have w : hv_w X s V35 Hq lq := by rw [eV36]; exact w
      have hV38 : V35 o = some (.inr (0, [.long (a / (fx_div a b)), .long (b / (fx_div a b)), .int F.2.2])) := by rw [eV36]; exact hv_us
      refine lv_aload_n C0.1 C0.2.1 dX0_become_48 rfl (lv_at hl 1 rfl) ?_
      refine lv_iconst (v := 1) C0.1 C0.2.1 dX0_become_49 (by decide) ?_
      refine pf_X0_15 C0 w hV38 (by simp) (by decide) (by decide) dX0_become_50 (fun Hq lq w => ?_)
      obtain ⟨V39, eV40⟩ : ∃ V9, V9 = hv_up V35 o (.inr (0, [.long (a / (fx_div a b)), .long (b / (fx_div a b)), .int 1])) := ⟨_, rfl⟩
      have w : hv_w X s V39 Hq lq := by rw [eV40]; exact w
      have hV42 : V39 o = some (.inr (0, [.long (a / (fx_div a b)), .long (b / (fx_div a b)), .int 1])) := by rw [eV40]; exact hv_us
      refine lv_aload_n C0.1 C0.2.1 dX0_become_53 rfl (lv_at hl 1 rfl) ?_
      refine gf_X0_19 C0 w hV42 rfl dX0_become_54 ?_
      refine va_mabs_long C0.1 C0.2.1 (C0.2.2.1.trans hl.1.symm) C0.2.2.2.1 (C0.2.2.2.2.1 _ kj_X0_22) (C0.2.2.2.2.1 _ kj_abs_s) (C0.2.2.2.2.1 _ kj_Math) (C0.2.2.2.2.1 _ kj_abs_c) (by decide) (Nat.le_of_ble_eq_true rfl) (Nat.le_refl _) (Nat.le_refl _) dX0_become_57 ?_
      refine lv_ldc2 C0.1 C0.2.1 C0.2.2.2.1 (C0.2.2.2.2.1 _ kk_X0_35) dX0_become_60 ?_
      refine hv_lc_gt (tgt := 78) C0.1 C0.2.1 dX0_become_63 dX0_become_64 (by decide) (fun c_63 => ?_) (fun c_63 => ?_)
      · skip
        refine lv_aload_n C0.1 C0.2.1 dX0_become_78 rfl (lv_at hl 1 rfl) ?_
        refine hv_cVv C0 w kl_X0_32 kv_X0_vanish rfl hV42 (c_X0_vanish (F := ((a / (fx_div a b)), (b / (fx_div a b)), 1)) hV42) (by decide) (by decide) rfl hl.1 rfl (Nat.le_of_ble_eq_true rfl) dX0_become_79 ⟨Nat.le_refl _, Nat.le_refl _⟩ (fun V44 Hq lq hp45 w => ?_)
        have hV47 : V44 o = some (fE fx_no) := by rw [hp45]; exact hv_us
        exact hv_vret C0 w hr hlk (by rw [show fx_become a b = fx_no from by rw [fx_become, if_neg (Int64.not_le.mpr c_23), if_pos (Or.inl (show 1000000000 < fx_abs _ from c_63))], hp45, eV40, eV36, eV32, hv_uu, hv_uu, hv_uu] <;> rfl) dX0_become_82
      · skip
        refine lv_aload_n C0.1 C0.2.1 dX0_become_67 rfl (lv_at hl 1 rfl) ?_
        refine gf_X0_9 C0 w hV42 rfl dX0_become_68 ?_
        refine lv_ldc2 C0.1 C0.2.1 C0.2.2.2.1 (C0.2.2.2.2.1 _ kk_X0_35) dX0_become_71 ?_
        refine hv_lc_le (tgt := 82) C0.1 C0.2.1 dX0_become_74 dX0_become_75 (by decide) (fun c_74 => ?_) (fun c_74 => ?_)
        · skip
          exact hv_vret C0 w hr hlk (by rw [show fx_become a b = (a / fx_div a b, b / fx_div a b, 1) from by rw [fx_become, if_neg (Int64.not_le.mpr c_23), if_neg (fun h9 => h9.elim c_63 (fun h8 => absurd c_74 (Int64.not_le.mpr h8)))], eV40, eV36, eV32, hv_uu, hv_uu] <;> rfl) dX0_become_82
        · skip
          refine lv_aload_n C0.1 C0.2.1 dX0_become_78 rfl (lv_at hl 1 rfl) ?_
          refine hv_cVv C0 w kl_X0_32 kv_X0_vanish rfl hV42 (c_X0_vanish (F := ((a / (fx_div a b)), (b / (fx_div a b)), 1)) hV42) (by decide) (by decide) rfl hl.1 rfl (Nat.le_of_ble_eq_true rfl) dX0_become_79 ⟨Nat.le_refl _, Nat.le_refl _⟩ (fun V49 Hq lq hp50 w => ?_)
          have hV52 : V49 o = some (fE fx_no) := by rw [hp50]; exact hv_us
          exact hv_vret C0 w hr hlk (by rw [show fx_become a b = fx_no from by rw [fx_become, if_neg (Int64.not_le.mpr c_23), if_pos (Or.inr (Int64.not_le.mp c_74))], hp50, eV40, eV36, eV32, hv_uu, hv_uu, hv_uu] <;> rfl) dX0_become_82
    · skip
      refine lv_aload_n C0.1 C0.2.1 dX0_become_27 rfl (lv_at hl 1 rfl) ?_
      refine hv_cVv C0 w kl_X0_32 kv_X0_vanish rfl hV (c_X0_vanish (F := (F.1, F.2.1, F.2.2)) hV) (by decide) (by decide) rfl hl.1 rfl (Nat.le_of_ble_eq_true rfl) dX0_become_28 ⟨Nat.le_refl _, Nat.le_refl _⟩ (fun V54 Hq lq hp55 w => ?_)
      have hV57 : V54 o = some (fE fx_no) := by rw [hp55]; exact hv_us
      exact hv_vret C0 w hr hlk (by rw [show fx_become a b = fx_no from by rw [fx_become, if_pos (Int64.not_lt.mp c_23)], hp55] <;> rfl) dX0_become_31

set_option maxHeartbeats 4000000 in
set_option maxRecDepth 100000 in
theorem c_X0_addOn {l : Launch} {X : hv_X} {V : hv_V} {o : Nat} {F : fx_F} (hV : V o = some (fE F)) {a b : Int64} : hv_Mv l X 2 yX0_addOn cX0_addOn 5 V [.ref o, .long a, .long b] (fun V1 => V1 = hv_up V o (fE (fx_addOn F a b))) := by
  refine hv_enter (by decide) (Nat.le_of_ble_eq_true rfl) ?_
  intro p e s m below meth c ls C0 hr hlk hnm w hl
  have hl : lv_has ls 5 [(0, .ref o), (1, .long a), (3, .long b)] := hl
  refine lv_aload_n C0.1 C0.2.1 dX0_addOn_0 rfl (lv_at hl 0 rfl) ?_
  refine gf_X0_15 C0 w hV rfl dX0_addOn_1 ?_
  refine lv_if_eq (tgt := 30) C0.1 C0.2.1 dX0_addOn_4 (by decide) (fun c_4 => ?_) (fun c_4 => ?_)
  · skip
    exact hv_vret C0 w hr hlk (by rw [fx_addOn, if_pos c_4]; exact (hv_id hV).symm) dX0_addOn_30
  · skip
    refine lv_aload_n C0.1 C0.2.1 dX0_addOn_7 rfl (lv_at hl 0 rfl) ?_
    refine lv_aload_n C0.1 C0.2.1 dX0_addOn_8 rfl (lv_at hl 0 rfl) ?_
    refine gf_X0_19 C0 w hV rfl dX0_addOn_9 ?_
    refine lv_lload_n C0.1 C0.2.1 dX0_addOn_12 rfl (lv_at hl 2 rfl) ?_
    refine lv_lmul C0.1 C0.2.1 dX0_addOn_13 ?_
    refine lv_lload_n C0.1 C0.2.1 dX0_addOn_14 rfl (lv_at hl 1 rfl) ?_
    refine lv_aload_n C0.1 C0.2.1 dX0_addOn_15 rfl (lv_at hl 0 rfl) ?_
    refine gf_X0_9 C0 w hV rfl dX0_addOn_16 ?_
    refine lv_lmul C0.1 C0.2.1 dX0_addOn_19 ?_
    refine lv_ladd C0.1 C0.2.1 dX0_addOn_20 ?_
    refine lv_aload_n C0.1 C0.2.1 dX0_addOn_21 rfl (lv_at hl 0 rfl) ?_
    refine gf_X0_9 C0 w hV rfl dX0_addOn_22 ?_
    refine lv_lload_n C0.1 C0.2.1 dX0_addOn_25 rfl (lv_at hl 2 rfl) ?_
    refine lv_lmul C0.1 C0.2.1 dX0_addOn_26 ?_
    refine hv_cVv C0 w kl_X0_37 kv_X0_become rfl hV (c_X0_become (F := (F.1, F.2.1, F.2.2)) hV) (by decide) (by decide) rfl hl.1 rfl (Nat.le_of_ble_eq_true rfl) dX0_addOn_27 ⟨Nat.le_refl _, Nat.le_refl _⟩ (fun V2 Hq lq hp3 w => ?_)
    have hV5 : V2 o = some (fE (fx_become ((F.1 * b) + (a * F.2.1)) (F.2.1 * b))) := by rw [hp3]; exact hv_us
    exact hv_vret C0 w hr hlk (by rw [fx_addOn, if_neg c_4, hp3] <;> rfl) dX0_addOn_30

set_option maxHeartbeats 4000000 in
set_option maxRecDepth 100000 in
theorem c_X0_becomeRestOfOne {l : Launch} {X : hv_X} {V : hv_V} {o : Nat} {F : fx_F} (hV : V o = some (fE F))  : hv_Mv l X 2 yX0_becomeRestOfOne cX0_becomeRestOfOne 1 V [.ref o] (fun V1 => V1 = hv_up V o (fE (fx_rest F))) := by
  refine hv_enter (by decide) (Nat.le_of_ble_eq_true rfl) ?_
  intro p e s m below meth c ls C0 hr hlk hnm w hl
  have hl : lv_has ls 1 [(0, .ref o)] := hl
  refine lv_aload_n C0.1 C0.2.1 dX0_becomeRestOfOne_0 rfl (lv_at hl 0 rfl) ?_
  refine gf_X0_15 C0 w hV rfl dX0_becomeRestOfOne_1 ?_
  refine lv_if_eq (tgt := 24) C0.1 C0.2.1 dX0_becomeRestOfOne_4 (by decide) (fun c_4 => ?_) (fun c_4 => ?_)
  · skip
    exact hv_vret C0 w hr hlk (by rw [fx_rest, if_pos c_4]; exact (hv_id hV).symm) dX0_becomeRestOfOne_24
  · skip
    refine lv_aload_n C0.1 C0.2.1 dX0_becomeRestOfOne_7 rfl (lv_at hl 0 rfl) ?_
    refine lv_aload_n C0.1 C0.2.1 dX0_becomeRestOfOne_8 rfl (lv_at hl 0 rfl) ?_
    refine gf_X0_9 C0 w hV rfl dX0_becomeRestOfOne_9 ?_
    refine lv_aload_n C0.1 C0.2.1 dX0_becomeRestOfOne_12 rfl (lv_at hl 0 rfl) ?_
    refine gf_X0_19 C0 w hV rfl dX0_becomeRestOfOne_13 ?_
    refine lv_lsub C0.1 C0.2.1 dX0_becomeRestOfOne_16 ?_
    refine lv_aload_n C0.1 C0.2.1 dX0_becomeRestOfOne_17 rfl (lv_at hl 0 rfl) ?_
    refine gf_X0_9 C0 w hV rfl dX0_becomeRestOfOne_18 ?_
    refine hv_cVv C0 w kl_X0_37 kv_X0_become rfl hV (c_X0_become (F := (F.1, F.2.1, F.2.2)) hV) (by decide) (by decide) rfl hl.1 rfl (Nat.le_of_ble_eq_true rfl) dX0_becomeRestOfOne_21 ⟨Nat.le_refl _, Nat.le_refl _⟩ (fun V2 Hq lq hp3 w => ?_)
    have hV5 : V2 o = some (fE (fx_become (F.2.1 - F.1) F.2.1)) := by rw [hp3]; exact hv_us
    exact hv_vret C0 w hr hlk (by rw [fx_rest, if_neg c_4, hp3] <;> rfl) dX0_becomeRestOfOne_24

set_option maxHeartbeats 4000000 in
set_option maxRecDepth 100000 in
theorem c_X0_divideBy {l : Launch} {X : hv_X} {V : hv_V} {o : Nat} {F : fx_F} (hV : V o = some (fE F)) {a : Int64} : hv_Mv l X 2 yX0_divideBy cX0_divideBy 3 V [.ref o, .long a] (fun V1 => V1 = hv_up V o (fE (fx_divBy F a))) := by
  refine hv_enter (by decide) (Nat.le_of_ble_eq_true rfl) ?_
  intro p e s m below meth c ls C0 hr hlk hnm w hl
  have hl : lv_has ls 3 [(0, .ref o), (1, .long a)] := hl
  refine lv_aload_n C0.1 C0.2.1 dX0_divideBy_0 rfl (lv_at hl 0 rfl) ?_
  refine gf_X0_15 C0 w hV rfl dX0_divideBy_1 ?_
  refine lv_if_eq (tgt := 21) C0.1 C0.2.1 dX0_divideBy_4 (by decide) (fun c_4 => ?_) (fun c_4 => ?_)
  · skip
    exact hv_vret C0 w hr hlk (by rw [fx_divBy, if_pos c_4]; exact (hv_id hV).symm) dX0_divideBy_21
  · skip
    refine lv_aload_n C0.1 C0.2.1 dX0_divideBy_7 rfl (lv_at hl 0 rfl) ?_
    refine lv_aload_n C0.1 C0.2.1 dX0_divideBy_8 rfl (lv_at hl 0 rfl) ?_
    refine gf_X0_19 C0 w hV rfl dX0_divideBy_9 ?_
    refine lv_aload_n C0.1 C0.2.1 dX0_divideBy_12 rfl (lv_at hl 0 rfl) ?_
    refine gf_X0_9 C0 w hV rfl dX0_divideBy_13 ?_
    refine lv_lload_n C0.1 C0.2.1 dX0_divideBy_16 rfl (lv_at hl 1 rfl) ?_
    refine lv_lmul C0.1 C0.2.1 dX0_divideBy_17 ?_
    refine hv_cVv C0 w kl_X0_37 kv_X0_become rfl hV (c_X0_become (F := (F.1, F.2.1, F.2.2)) hV) (by decide) (by decide) rfl hl.1 rfl (Nat.le_of_ble_eq_true rfl) dX0_divideBy_18 ⟨Nat.le_refl _, Nat.le_refl _⟩ (fun V2 Hq lq hp3 w => ?_)
    have hV5 : V2 o = some (fE (fx_become F.1 (F.2.1 * a))) := by rw [hp3]; exact hv_us
    exact hv_vret C0 w hr hlk (by rw [fx_divBy, if_neg c_4, hp3] <;> rfl) dX0_divideBy_21

set_option maxHeartbeats 4000000 in
set_option maxRecDepth 100000 in
theorem c_X0_takeAway {l : Launch} {X : hv_X} {V : hv_V} {o : Nat} {F : fx_F} (hV : V o = some (fE F)) {q : Nat} {G : fx_F} (hG : V q = some (fE G)) (hne : q ≠ o) : hv_Mv l X 3 yX0_takeAway cX0_takeAway 2 V [.ref o, .ref q] (fun V1 => V1 = hv_up V o (fE (fx_takeAway F G))) := by
  refine hv_enter (by decide) (Nat.le_of_ble_eq_true rfl) ?_
  intro p e s m below meth c ls C0 hr hlk hnm w hl
  have hl : lv_has ls 2 [(0, .ref o), (1, .ref q)] := hl
  refine lv_aload_n C0.1 C0.2.1 dX0_takeAway_0 rfl (lv_at hl 0 rfl) ?_
  refine gf_X0_15 C0 w hV rfl dX0_takeAway_1 ?_
  refine lv_if_eq (tgt := 14) C0.1 C0.2.1 dX0_takeAway_4 (by decide) (fun c_4 => ?_) (fun c_4 => ?_)
  · skip
    refine lv_aload_n C0.1 C0.2.1 dX0_takeAway_14 rfl (lv_at hl 0 rfl) ?_
    refine hv_cVv C0 w kl_X0_32 kv_X0_vanish rfl hV (c_X0_vanish (F := (F.1, F.2.1, F.2.2)) hV) (by decide) (by decide) rfl hl.1 rfl (Nat.le_of_ble_eq_true rfl) dX0_takeAway_15 ⟨Nat.le_refl _, Nat.le_refl _⟩ (fun V2 Hq lq hp3 w => ?_)
    have hV5 : V2 q = some (.inr (0, [.long G.1, .long G.2.1, .int G.2.2])) := by rw [hp3, hv_un hne]; exact hG
    have hV6 : V2 o = some (fE fx_no) := by rw [hp3]; exact hv_us
    exact hv_vret C0 w hr hlk (by rw [fx_takeAway, if_pos (Or.inl c_4), hp3] <;> rfl) dX0_takeAway_18
  · skip
    refine lv_aload_n C0.1 C0.2.1 dX0_takeAway_7 rfl (lv_at hl 1 rfl) ?_
    refine gf_X0_15 C0 w hG rfl dX0_takeAway_8 ?_
    refine lv_if_ne (tgt := 19) C0.1 C0.2.1 dX0_takeAway_11 (by decide) (fun c_11 => ?_) (fun c_11 => ?_)
    · skip
      refine lv_aload_n C0.1 C0.2.1 dX0_takeAway_19 rfl (lv_at hl 0 rfl) ?_
      refine lv_aload_n C0.1 C0.2.1 dX0_takeAway_20 rfl (lv_at hl 1 rfl) ?_
      refine gf_X0_19 C0 w hG rfl dX0_takeAway_21 ?_
      refine lv_lneg C0.1 C0.2.1 dX0_takeAway_24 ?_
      refine lv_aload_n C0.1 C0.2.1 dX0_takeAway_25 rfl (lv_at hl 1 rfl) ?_
      refine gf_X0_9 C0 w hG rfl dX0_takeAway_26 ?_
      refine hv_cVv C0 w kl_X0_41 kv_X0_addOn rfl hV (c_X0_addOn (F := (F.1, F.2.1, F.2.2)) hV) (by decide) (by decide) rfl hl.1 rfl (Nat.le_of_ble_eq_true rfl) dX0_takeAway_29 ⟨Nat.le_refl _, Nat.le_refl _⟩ (fun V8 Hq lq hp9 w => ?_)
      have hV11 : V8 q = some (.inr (0, [.long G.1, .long G.2.1, .int G.2.2])) := by rw [hp9, hv_un hne]; exact hG
      have hV12 : V8 o = some (fE (fx_addOn (F.1, F.2.1, F.2.2) (-G.1) G.2.1)) := by rw [hp9]; exact hv_us
      exact hv_vret C0 w hr hlk (by rw [fx_takeAway, if_neg (fun h9 => h9.elim c_4 c_11), hp9] <;> rfl) dX0_takeAway_32
    · skip
      refine lv_aload_n C0.1 C0.2.1 dX0_takeAway_14 rfl (lv_at hl 0 rfl) ?_
      refine hv_cVv C0 w kl_X0_32 kv_X0_vanish rfl hV (c_X0_vanish (F := (F.1, F.2.1, F.2.2)) hV) (by decide) (by decide) rfl hl.1 rfl (Nat.le_of_ble_eq_true rfl) dX0_takeAway_15 ⟨Nat.le_refl _, Nat.le_refl _⟩ (fun V14 Hq lq hp15 w => ?_)
      have hV17 : V14 q = some (.inr (0, [.long G.1, .long G.2.1, .int G.2.2])) := by rw [hp15, hv_un hne]; exact hG
      have hV18 : V14 o = some (fE fx_no) := by rw [hp15]; exact hv_us
      exact hv_vret C0 w hr hlk (by rw [fx_takeAway, if_pos (Or.inr c_11), hp15] <;> rfl) dX0_takeAway_18

set_option maxHeartbeats 4000000 in
set_option maxRecDepth 100000 in
theorem c_X0_multiplyBy {l : Launch} {X : hv_X} {V : hv_V} {o : Nat} {F : fx_F} (hV : V o = some (fE F)) {q : Nat} {G : fx_F} (hG : V q = some (fE G)) (hne : q ≠ o) : hv_Mv l X 3 yX0_multiplyBy cX0_multiplyBy 2 V [.ref o, .ref q] (fun V1 => V1 = hv_up V o (fE (fx_mul F G))) := by
  refine hv_enter (by decide) (Nat.le_of_ble_eq_true rfl) ?_
  intro p e s m below meth c ls C0 hr hlk hnm w hl
  have hl : lv_has ls 2 [(0, .ref o), (1, .ref q)] := hl
  refine lv_aload_n C0.1 C0.2.1 dX0_multiplyBy_0 rfl (lv_at hl 0 rfl) ?_
  refine gf_X0_15 C0 w hV rfl dX0_multiplyBy_1 ?_
  refine lv_if_eq (tgt := 14) C0.1 C0.2.1 dX0_multiplyBy_4 (by decide) (fun c_4 => ?_) (fun c_4 => ?_)
  · skip
    refine lv_aload_n C0.1 C0.2.1 dX0_multiplyBy_14 rfl (lv_at hl 0 rfl) ?_
    refine hv_cVv C0 w kl_X0_32 kv_X0_vanish rfl hV (c_X0_vanish (F := (F.1, F.2.1, F.2.2)) hV) (by decide) (by decide) rfl hl.1 rfl (Nat.le_of_ble_eq_true rfl) dX0_multiplyBy_15 ⟨Nat.le_refl _, Nat.le_refl _⟩ (fun V2 Hq lq hp3 w => ?_)
    have hV5 : V2 q = some (.inr (0, [.long G.1, .long G.2.1, .int G.2.2])) := by rw [hp3, hv_un hne]; exact hG
    have hV6 : V2 o = some (fE fx_no) := by rw [hp3]; exact hv_us
    exact hv_vret C0 w hr hlk (by rw [fx_mul, if_pos (Or.inl c_4), hp3] <;> rfl) dX0_multiplyBy_18
  · skip
    refine lv_aload_n C0.1 C0.2.1 dX0_multiplyBy_7 rfl (lv_at hl 1 rfl) ?_
    refine gf_X0_15 C0 w hG rfl dX0_multiplyBy_8 ?_
    refine lv_if_ne (tgt := 19) C0.1 C0.2.1 dX0_multiplyBy_11 (by decide) (fun c_11 => ?_) (fun c_11 => ?_)
    · skip
      refine lv_aload_n C0.1 C0.2.1 dX0_multiplyBy_19 rfl (lv_at hl 0 rfl) ?_
      refine lv_aload_n C0.1 C0.2.1 dX0_multiplyBy_20 rfl (lv_at hl 0 rfl) ?_
      refine gf_X0_19 C0 w hV rfl dX0_multiplyBy_21 ?_
      refine lv_aload_n C0.1 C0.2.1 dX0_multiplyBy_24 rfl (lv_at hl 1 rfl) ?_
      refine gf_X0_19 C0 w hG rfl dX0_multiplyBy_25 ?_
      refine lv_lmul C0.1 C0.2.1 dX0_multiplyBy_28 ?_
      refine lv_aload_n C0.1 C0.2.1 dX0_multiplyBy_29 rfl (lv_at hl 0 rfl) ?_
      refine gf_X0_9 C0 w hV rfl dX0_multiplyBy_30 ?_
      refine lv_aload_n C0.1 C0.2.1 dX0_multiplyBy_33 rfl (lv_at hl 1 rfl) ?_
      refine gf_X0_9 C0 w hG rfl dX0_multiplyBy_34 ?_
      refine lv_lmul C0.1 C0.2.1 dX0_multiplyBy_37 ?_
      refine hv_cVv C0 w kl_X0_37 kv_X0_become rfl hV (c_X0_become (F := (F.1, F.2.1, F.2.2)) hV) (by decide) (by decide) rfl hl.1 rfl (Nat.le_of_ble_eq_true rfl) dX0_multiplyBy_38 ⟨Nat.le_refl _, Nat.le_refl _⟩ (fun V8 Hq lq hp9 w => ?_)
      have hV11 : V8 q = some (.inr (0, [.long G.1, .long G.2.1, .int G.2.2])) := by rw [hp9, hv_un hne]; exact hG
      have hV12 : V8 o = some (fE (fx_become (F.1 * G.1) (F.2.1 * G.2.1))) := by rw [hp9]; exact hv_us
      exact hv_vret C0 w hr hlk (by rw [fx_mul, if_neg (fun h9 => h9.elim c_4 c_11), hp9] <;> rfl) dX0_multiplyBy_41
    · skip
      refine lv_aload_n C0.1 C0.2.1 dX0_multiplyBy_14 rfl (lv_at hl 0 rfl) ?_
      refine hv_cVv C0 w kl_X0_32 kv_X0_vanish rfl hV (c_X0_vanish (F := (F.1, F.2.1, F.2.2)) hV) (by decide) (by decide) rfl hl.1 rfl (Nat.le_of_ble_eq_true rfl) dX0_multiplyBy_15 ⟨Nat.le_refl _, Nat.le_refl _⟩ (fun V14 Hq lq hp15 w => ?_)
      have hV17 : V14 q = some (.inr (0, [.long G.1, .long G.2.1, .int G.2.2])) := by rw [hp15, hv_un hne]; exact hG
      have hV18 : V14 o = some (fE fx_no) := by rw [hp15]; exact hv_us
      exact hv_vret C0 w hr hlk (by rw [fx_mul, if_pos (Or.inr c_11), hp15] <;> rfl) dX0_multiplyBy_18

set_option maxHeartbeats 4000000 in
set_option maxRecDepth 100000 in
theorem c_X0_isNought {l : Launch} {X : hv_X} {V : hv_V} {o : Nat} {F : fx_F} (hV : V o = some (fE F))  : hv_Mi l X 0 yX0_isNought cX0_isNought 1 .boolean V [.ref o] (fun x V1 => V1 = V ∧ hv_B (fx_nought F) x) := by
  refine hv_enter (by decide) (Nat.le_of_ble_eq_true rfl) ?_
  intro p e s m below meth c ls C0 hr hlk hnm w hl
  have hl : lv_has ls 1 [(0, .ref o)] := hl
  refine lv_aload_n C0.1 C0.2.1 dX0_isNought_0 rfl (lv_at hl 0 rfl) ?_
  refine gf_X0_15 C0 w hV rfl dX0_isNought_1 ?_
  refine lv_if_eq (tgt := 20) C0.1 C0.2.1 dX0_isNought_4 (by decide) (fun c_4 => ?_) (fun c_4 => ?_)
  · skip
    refine lv_iconst (v := 0) C0.1 C0.2.1 dX0_isNought_20 (by decide) ?_
    exact hv_zret C0 w hr hlk (by decide) (⟨rfl, Or.inr ⟨rfl, by first | (simp_all [fx_nought]; done) | exact fun h9 => absurd h9.2.1 (Int64.not_lt.mpr c_12)⟩⟩) dX0_isNought_21
  · skip
    refine lv_aload_n C0.1 C0.2.1 dX0_isNought_7 rfl (lv_at hl 0 rfl) ?_
    refine gf_X0_19 C0 w hV rfl dX0_isNought_8 ?_
    refine lv_lconst (v := 0) C0.1 C0.2.1 dX0_isNought_11 (by decide) ?_
    refine hv_lc_ne (tgt := 20) C0.1 C0.2.1 dX0_isNought_12 dX0_isNought_13 (by decide) (fun c_12 => ?_) (fun c_12 => ?_)
    · skip
      refine lv_iconst (v := 0) C0.1 C0.2.1 dX0_isNought_20 (by decide) ?_
      exact hv_zret C0 w hr hlk (by decide) (⟨rfl, Or.inr ⟨rfl, by first | (simp_all [fx_nought]; done) | exact fun h9 => absurd h9.2.1 (Int64.not_lt.mpr c_12)⟩⟩) dX0_isNought_21
    · skip
      refine lv_iconst (v := 1) C0.1 C0.2.1 dX0_isNought_16 (by decide) ?_
      refine lv_goto (tgt := 21) C0.1 C0.2.1 dX0_isNought_17 (by decide) ?_
      exact hv_zret C0 w hr hlk (by decide) (⟨rfl, Or.inl ⟨rfl, by simp_all [fx_nought]⟩⟩) dX0_isNought_21

set_option maxHeartbeats 4000000 in
set_option maxRecDepth 100000 in
theorem c_X0_isProper {l : Launch} {X : hv_X} {V : hv_V} {o : Nat} {F : fx_F} (hV : V o = some (fE F))  : hv_Mi l X 0 yX0_isProper cX0_isProper 1 .boolean V [.ref o] (fun x V1 => V1 = V ∧ hv_B (fx_proper F) x) := by
  refine hv_enter (by decide) (Nat.le_of_ble_eq_true rfl) ?_
  intro p e s m below meth c ls C0 hr hlk hnm w hl
  have hl : lv_has ls 1 [(0, .ref o)] := hl
  refine lv_aload_n C0.1 C0.2.1 dX0_isProper_0 rfl (lv_at hl 0 rfl) ?_
  refine gf_X0_15 C0 w hV rfl dX0_isProper_1 ?_
  refine lv_if_eq (tgt := 32) C0.1 C0.2.1 dX0_isProper_4 (by decide) (fun c_4 => ?_) (fun c_4 => ?_)
  · skip
    refine lv_iconst (v := 0) C0.1 C0.2.1 dX0_isProper_32 (by decide) ?_
    exact hv_zret C0 w hr hlk (by decide) (⟨rfl, Or.inr ⟨rfl, by first | (simp_all [fx_proper]; done) | exact fun h9 => absurd h9.2.1 (Int64.not_lt.mpr c_12)⟩⟩) dX0_isProper_33
  · skip
    refine lv_aload_n C0.1 C0.2.1 dX0_isProper_7 rfl (lv_at hl 0 rfl) ?_
    refine gf_X0_19 C0 w hV rfl dX0_isProper_8 ?_
    refine lv_lconst (v := 0) C0.1 C0.2.1 dX0_isProper_11 (by decide) ?_
    refine hv_lc_le (tgt := 32) C0.1 C0.2.1 dX0_isProper_12 dX0_isProper_13 (by decide) (fun c_12 => ?_) (fun c_12 => ?_)
    · skip
      refine lv_iconst (v := 0) C0.1 C0.2.1 dX0_isProper_32 (by decide) ?_
      exact hv_zret C0 w hr hlk (by decide) (⟨rfl, Or.inr ⟨rfl, by first | (simp_all [fx_proper]; done) | exact fun h9 => absurd h9.2.1 (Int64.not_lt.mpr c_12)⟩⟩) dX0_isProper_33
    · skip
      refine lv_aload_n C0.1 C0.2.1 dX0_isProper_16 rfl (lv_at hl 0 rfl) ?_
      refine gf_X0_19 C0 w hV rfl dX0_isProper_17 ?_
      refine lv_aload_n C0.1 C0.2.1 dX0_isProper_20 rfl (lv_at hl 0 rfl) ?_
      refine gf_X0_9 C0 w hV rfl dX0_isProper_21 ?_
      refine hv_lc_ge (tgt := 32) C0.1 C0.2.1 dX0_isProper_24 dX0_isProper_25 (by decide) (fun c_24 => ?_) (fun c_24 => ?_)
      · skip
        refine lv_iconst (v := 0) C0.1 C0.2.1 dX0_isProper_32 (by decide) ?_
        exact hv_zret C0 w hr hlk (by decide) (⟨rfl, Or.inr ⟨rfl, by first | (simp_all [fx_proper]; done) | exact fun h9 => absurd h9.2.1 (Int64.not_lt.mpr c_12)⟩⟩) dX0_isProper_33
      · skip
        refine lv_iconst (v := 1) C0.1 C0.2.1 dX0_isProper_28 (by decide) ?_
        refine lv_goto (tgt := 33) C0.1 C0.2.1 dX0_isProper_29 (by decide) ?_
        exact hv_zret C0 w hr hlk (by decide) (⟨rfl, Or.inl ⟨rfl, by simp_all [fx_proper]⟩⟩) dX0_isProper_33

set_option maxHeartbeats 4000000 in
set_option maxRecDepth 100000 in
theorem c_X0_isAbove {l : Launch} {X : hv_X} {V : hv_V} {o : Nat} {F : fx_F} (hV : V o = some (fE F)) {q : Nat} {G : fx_F} (hG : V q = some (fE G)) : hv_Mi l X 0 yX0_isAbove cX0_isAbove 2 .boolean V [.ref o, .ref q] (fun x V1 => V1 = V ∧ hv_B (fx_above F G) x) := by
  refine hv_enter (by decide) (Nat.le_of_ble_eq_true rfl) ?_
  intro p e s m below meth c ls C0 hr hlk hnm w hl
  have hl : lv_has ls 2 [(0, .ref o), (1, .ref q)] := hl
  refine lv_aload_n C0.1 C0.2.1 dX0_isAbove_0 rfl (lv_at hl 0 rfl) ?_
  refine gf_X0_15 C0 w hV rfl dX0_isAbove_1 ?_
  refine lv_if_eq (tgt := 40) C0.1 C0.2.1 dX0_isAbove_4 (by decide) (fun c_4 => ?_) (fun c_4 => ?_)
  · skip
    refine lv_iconst (v := 0) C0.1 C0.2.1 dX0_isAbove_40 (by decide) ?_
    exact hv_zret C0 w hr hlk (by decide) (⟨rfl, Or.inr ⟨rfl, by first | (simp_all [fx_above]; done) | exact fun h9 => absurd h9.2.1 (Int64.not_lt.mpr c_12)⟩⟩) dX0_isAbove_41
  · skip
    refine lv_aload_n C0.1 C0.2.1 dX0_isAbove_7 rfl (lv_at hl 1 rfl) ?_
    refine gf_X0_15 C0 w hG rfl dX0_isAbove_8 ?_
    refine lv_if_eq (tgt := 40) C0.1 C0.2.1 dX0_isAbove_11 (by decide) (fun c_11 => ?_) (fun c_11 => ?_)
    · skip
      refine lv_iconst (v := 0) C0.1 C0.2.1 dX0_isAbove_40 (by decide) ?_
      exact hv_zret C0 w hr hlk (by decide) (⟨rfl, Or.inr ⟨rfl, by first | (simp_all [fx_above]; done) | exact fun h9 => absurd h9.2.1 (Int64.not_lt.mpr c_12)⟩⟩) dX0_isAbove_41
    · skip
      refine lv_aload_n C0.1 C0.2.1 dX0_isAbove_14 rfl (lv_at hl 0 rfl) ?_
      refine gf_X0_19 C0 w hV rfl dX0_isAbove_15 ?_
      refine lv_aload_n C0.1 C0.2.1 dX0_isAbove_18 rfl (lv_at hl 1 rfl) ?_
      refine gf_X0_9 C0 w hG rfl dX0_isAbove_19 ?_
      refine lv_lmul C0.1 C0.2.1 dX0_isAbove_22 ?_
      refine lv_aload_n C0.1 C0.2.1 dX0_isAbove_23 rfl (lv_at hl 1 rfl) ?_
      refine gf_X0_19 C0 w hG rfl dX0_isAbove_24 ?_
      refine lv_aload_n C0.1 C0.2.1 dX0_isAbove_27 rfl (lv_at hl 0 rfl) ?_
      refine gf_X0_9 C0 w hV rfl dX0_isAbove_28 ?_
      refine lv_lmul C0.1 C0.2.1 dX0_isAbove_31 ?_
      refine hv_lc_le (tgt := 40) C0.1 C0.2.1 dX0_isAbove_32 dX0_isAbove_33 (by decide) (fun c_32 => ?_) (fun c_32 => ?_)
      · skip
        refine lv_iconst (v := 0) C0.1 C0.2.1 dX0_isAbove_40 (by decide) ?_
        exact hv_zret C0 w hr hlk (by decide) (⟨rfl, Or.inr ⟨rfl, by first | (simp_all [fx_above]; done) | exact fun h9 => absurd h9.2.1 (Int64.not_lt.mpr c_12)⟩⟩) dX0_isAbove_41
      · skip
        refine lv_iconst (v := 1) C0.1 C0.2.1 dX0_isAbove_36 (by decide) ?_
        refine lv_goto (tgt := 41) C0.1 C0.2.1 dX0_isAbove_37 (by decide) ?_
        exact hv_zret C0 w hr hlk (by decide) (⟨rfl, Or.inl ⟨rfl, by simp_all [fx_above]⟩⟩) dX0_isAbove_41

set_option maxHeartbeats 4000000 in
set_option maxRecDepth 100000 in
theorem c_X0_isJust {l : Launch} {X : hv_X} {V : hv_V} {o : Nat} {F : fx_F} (hV : V o = some (fE F)) {a b : Int64} : hv_Mi l X 0 yX0_isJust cX0_isJust 5 .boolean V [.ref o, .long a, .long b] (fun x V1 => V1 = V ∧ hv_B (fx_just F a b) x) := by
  refine hv_enter (by decide) (Nat.le_of_ble_eq_true rfl) ?_
  intro p e s m below meth c ls C0 hr hlk hnm w hl
  have hl : lv_has ls 5 [(0, .ref o), (1, .long a), (3, .long b)] := hl
  refine lv_aload_n C0.1 C0.2.1 dX0_isJust_0 rfl (lv_at hl 0 rfl) ?_
  refine gf_X0_15 C0 w hV rfl dX0_isJust_1 ?_
  refine lv_if_eq (tgt := 27) C0.1 C0.2.1 dX0_isJust_4 (by decide) (fun c_4 => ?_) (fun c_4 => ?_)
  · skip
    refine lv_iconst (v := 0) C0.1 C0.2.1 dX0_isJust_27 (by decide) ?_
    exact hv_zret C0 w hr hlk (by decide) (⟨rfl, Or.inr ⟨rfl, by first | (simp_all [fx_just]; done) | exact fun h9 => absurd h9.2.1 (Int64.not_lt.mpr c_12)⟩⟩) dX0_isJust_28
  · skip
    refine lv_aload_n C0.1 C0.2.1 dX0_isJust_7 rfl (lv_at hl 0 rfl) ?_
    refine gf_X0_19 C0 w hV rfl dX0_isJust_8 ?_
    refine lv_lload_n C0.1 C0.2.1 dX0_isJust_11 rfl (lv_at hl 2 rfl) ?_
    refine lv_lmul C0.1 C0.2.1 dX0_isJust_12 ?_
    refine lv_lload_n C0.1 C0.2.1 dX0_isJust_13 rfl (lv_at hl 1 rfl) ?_
    refine lv_aload_n C0.1 C0.2.1 dX0_isJust_14 rfl (lv_at hl 0 rfl) ?_
    refine gf_X0_9 C0 w hV rfl dX0_isJust_15 ?_
    refine lv_lmul C0.1 C0.2.1 dX0_isJust_18 ?_
    refine hv_lc_ne (tgt := 27) C0.1 C0.2.1 dX0_isJust_19 dX0_isJust_20 (by decide) (fun c_19 => ?_) (fun c_19 => ?_)
    · skip
      refine lv_iconst (v := 0) C0.1 C0.2.1 dX0_isJust_27 (by decide) ?_
      exact hv_zret C0 w hr hlk (by decide) (⟨rfl, Or.inr ⟨rfl, by first | (simp_all [fx_just]; done) | exact fun h9 => absurd h9.2.1 (Int64.not_lt.mpr c_12)⟩⟩) dX0_isJust_28
    · skip
      refine lv_iconst (v := 1) C0.1 C0.2.1 dX0_isJust_23 (by decide) ?_
      refine lv_goto (tgt := 28) C0.1 C0.2.1 dX0_isJust_24 (by decide) ?_
      exact hv_zret C0 w hr hlk (by decide) (⟨rfl, Or.inl ⟨rfl, by simp_all [fx_just]⟩⟩) dX0_isJust_28

set_option maxHeartbeats 4000000 in
set_option maxRecDepth 100000 in
theorem c_X0_partOf {l : Launch} {X : hv_X} {V : hv_V} {o : Nat} {F : fx_F} (hV : V o = some (fE F)) {k : Int32} : hv_Ml l X 0 yX0_partOf cX0_partOf 2 V [.ref o, .int k] (fun x V1 => V1 = V ∧ x = fx_part F k) := by
  refine hv_enter (by decide) (Nat.le_of_ble_eq_true rfl) ?_
  intro p e s m below meth c ls C0 hr hlk hnm w hl
  have hl : lv_has ls 2 [(0, .ref o), (1, .int k)] := hl
  refine lv_aload_n C0.1 C0.2.1 dX0_partOf_0 rfl (lv_at hl 0 rfl) ?_
  refine gf_X0_15 C0 w hV rfl dX0_partOf_1 ?_
  refine lv_if_ne (tgt := 11) C0.1 C0.2.1 dX0_partOf_4 (by decide) (fun c_4 => ?_) (fun c_4 => ?_)
  · skip
    refine lv_iload_n C0.1 C0.2.1 dX0_partOf_11 rfl (lv_at hl 1 rfl) ?_
    refine lv_if_ne (tgt := 22) C0.1 C0.2.1 dX0_partOf_12 (by decide) (fun c_12 => ?_) (fun c_12 => ?_)
    · skip
      refine lv_aload_n C0.1 C0.2.1 dX0_partOf_22 rfl (lv_at hl 0 rfl) ?_
      refine gf_X0_9 C0 w hV rfl dX0_partOf_23 ?_
      exact hv_lret C0 w hr hlk (⟨rfl, by simp_all [fx_part]⟩) dX0_partOf_26
    · skip
      refine lv_aload_n C0.1 C0.2.1 dX0_partOf_15 rfl (lv_at hl 0 rfl) ?_
      refine gf_X0_19 C0 w hV rfl dX0_partOf_16 ?_
      refine lv_goto (tgt := 26) C0.1 C0.2.1 dX0_partOf_19 (by decide) ?_
      exact hv_lret C0 w hr hlk (⟨rfl, by simp_all [fx_part]⟩) dX0_partOf_26
  · skip
    refine lv_ldc2 C0.1 C0.2.1 C0.2.2.2.1 (C0.2.2.2.2.1 _ kk_X0_44) dX0_partOf_7 ?_
    exact hv_lret C0 w hr hlk (⟨rfl, by simp_all [fx_part]⟩) dX0_partOf_10

