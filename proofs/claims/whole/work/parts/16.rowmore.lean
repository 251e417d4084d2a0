/-! ROW: GREATER, what happens -/
def sp_dif (f g : Nat → Int32) : Nat → Nat → Nat
  | 0, i => i
  | m + 1, i => if f i = g i then sp_dif f g m (i + 1) else i
def sp_mm (n n2 : Nat) : Nat := if n2 < n then n2 else n
def sp_gr2 (kd : Int32) (n n2 i : Nat) (x y : Int32) : Int32 :=
  if i = n ∧ i = n2 then 0
  else if i < n ∧ i < n2 then (if decide (x < y) = (decide (kd = 0) || (decide (kd = 1) || (decide (kd = 2) && !(decide (kd = 2) && decide (nI i - nI i / 2 * 2 = 1))))) then 1 else 2)
  else (if decide (i < n) = (decide (kd = 2) && decide (nI i - nI i / 2 * 2 = 1)) then 2 else 1)
def sp_greater (kd : Int32) (n n2 : Nat) (f g : Nat → Int32) : Int32 := sp_gr2 kd n n2 (sp_dif f g (sp_mm n n2) 0) (f (sp_dif f g (sp_mm n n2) 0)) (g (sp_dif f g (sp_mm n n2) 0))
def sp_one (x : Int32) : Int32 := if 1000000000 < x + 1 then 1000000000 else x + 1
def sp_inc (f : Nat → Int32) (n : Nat) : Nat → Int32 := fun i => if i < n then sp_one (f i) else f i
theorem sp_inc0 (f : Nat → Int32) : sp_inc f 0 = f := by funext i; simp [sp_inc]
theorem sp_incs (f : Nat → Int32) (n : Nat) : upd (sp_inc f n) n (sp_one (f n)) = sp_inc f (n + 1) := by
  funext i
  by_cases h : i = n
  · subst h; simp [sp_inc, upd]
  · by_cases h2 : i < n
    · simp [sp_inc, upd, h, h2, Nat.lt_succ_of_lt h2]
    · simp [sp_inc, upd, h, h2, show ¬ i < n + 1 by omega]
theorem sp_incn (f : Nat → Int32) (n : Nat) : sp_inc f n n = f n := by simp [sp_inc]
def sp_und (what kd : Int32) (n : Nat) (f : Nat → Int32) : Int32 × Nat × (Nat → Int32) := if what = 0 then (kd, n - 1, f) else if what = 1 then (kd, n, sp_inc f n) else (kd + 1 - (kd + 1) / 4 * 4, n, f)
theorem hs_pred {n : Nat} (h : n ≤ 16) : (if 0 < nI n - 1 then nI n - 1 else 0) = nI (n - 1) := by
  rcases (show n = 0 ∨ n = 1 ∨ n = 2 ∨ n = 3 ∨ n = 4 ∨ n = 5 ∨ n = 6 ∨ n = 7 ∨ n = 8 ∨ n = 9 ∨ n = 10 ∨ n = 11 ∨ n = 12 ∨ n = 13 ∨ n = 14 ∨ n = 15 ∨ n = 16 by omega) with rfl | rfl | rfl | rfl | rfl | rfl | rfl | rfl | rfl | rfl | rfl | rfl | rfl | rfl | rfl | rfl | rfl <;> decide
theorem sp_mm_le (n n2 : Nat) : sp_mm n n2 ≤ n ∧ sp_mm n n2 ≤ n2 ∧ (sp_mm n n2 = n ∨ sp_mm n n2 = n2) := by unfold sp_mm; split <;> omega
theorem sp_mm_nI {n n2 : Nat} (h : n ≤ 16) (h2 : n2 ≤ 16) : (if nI n2 < nI n then nI n2 else nI n) = nI (sp_mm n n2) := by
  unfold sp_mm
  by_cases q : n2 < n
  · rw [if_pos q, if_pos (nI_lt q (by omega))]
  · rw [if_neg q, if_neg (nI_nlt (by omega) (by omega))]
set_option maxHeartbeats 4000000 in
set_option maxRecDepth 100000 in
theorem c_X3_greaterByNumbers {l : Launch} {X : hv_X} {V : hv_V} {r b n : Nat} {kd : Int32} {f : Nat → Int32} (hR : V r = some (rE kd n b)) (hB : V b = some (nE X f)) {r2 b2 n2 : Nat} {kd2 : Int32} {f2 : Nat → Int32} (hR2 : V r2 = some (rE kd2 n2 b2)) (hB2 : V b2 = some (nE X f2)) (hn : n ≤ 16) (hn2 : n2 ≤ 16) : hv_Mi l X 1 yX3_greaterByNumbers cX3_greaterByNumbers 7 .int V [.ref r, .ref r2] (fun x V1 => V1 = V ∧ x = sp_greater kd n n2 f f2) := by
  refine hv_enter (by decide) (Nat.le_of_ble_eq_true rfl) ?_
  intro p e s m below meth c ls C0 hr hlk hnm w hl
  have hl : lv_has ls 7 [(0, .ref r), (1, .ref r2)] := hl
  obtain ⟨hm1, hm2, hm3⟩ := sp_mm_le n n2
  have loop : ∀ (m9 i : Nat) (Hq : Heap) (lq : List Loc) (ls : Array Slot), (i + m9 = sp_mm n n2) → (sp_dif f f2 m9 i = sp_dif f f2 (sp_mm n n2) 0) → hv_w X s (V) Hq lq → lv_has ls 7 [(0, .ref r), (1, .ref r2), (2, .int (nI (sp_mm n n2))), (3, .int (nI i))] → W p l e (hv_rm 1 0 0) s m ([.ref r, .ref r2] : List Value).toArray below meth c Hq lq 0 0 (MQ below (hv_Qi X (fun x V1 => V1 = V ∧ x = sp_greater kd n n2 f f2)) ([.ref r, .ref r2] : List Value).toArray s 0 0 X.2.2.1) (F0 m 14 ls []) := by
    intro m9
    induction m9 with
    | zero =>
      intro i Hq lq ls hi he w hl
      have he : i = sp_dif f f2 (sp_mm n n2) 0 := he
      have hi : i = sp_mm n n2 := hi
      refine lv_iload_n C0.1 C0.2.1 dX3_greaterByNumbers_14 rfl (lv_at hl 3 rfl) ?_
      refine lv_iload_n C0.1 C0.2.1 dX3_greaterByNumbers_15 rfl (lv_at hl 2 rfl) ?_
      refine lv_icmp_ge (tgt := 40) C0.1 C0.2.1 dX3_greaterByNumbers_16 (by decide) (fun c_16 => ?_) (fun c_16 => absurd (nI_le (by omega) (by omega)) c_16)
      have hres : sp_greater kd n n2 f f2 = sp_gr2 kd n n2 i (f i) (f2 i) := by rw [sp_greater, ← he]
      have e1 : nI i = nI n ↔ i = n := nI_eq (by omega) (by omega)
      have e2 : nI i = nI n2 ↔ i = n2 := nI_eq (by omega) (by omega)
      have e3 : nI n ≤ nI i ↔ n ≤ i := nI_leI (by omega) (by omega)
      refine lv_iload_n C0.1 C0.2.1 dX3_greaterByNumbers_40 rfl (lv_at hl 3 rfl) ?_
      refine lv_aload_n C0.1 C0.2.1 dX3_greaterByNumbers_41 rfl (lv_at hl 0 rfl) ?_
      refine gf_X3_19 C0 w hR rfl dX3_greaterByNumbers_42 ?_
      refine lv_icmp_ne (tgt := 58) C0.1 C0.2.1 dX3_greaterByNumbers_45 (by decide) (fun c_45 => ?_) (fun c_45 => ?_)
      · skip
        refine lv_aload_n C0.1 C0.2.1 dX3_greaterByNumbers_58 rfl (lv_at hl 0 rfl) ?_
        refine gf_X3_15 C0 w hR rfl dX3_greaterByNumbers_59 ?_
        refine lv_iconst (v := 2) C0.1 C0.2.1 dX3_greaterByNumbers_62 (by decide) ?_
        refine lv_icmp_ne (tgt := 77) C0.1 C0.2.1 dX3_greaterByNumbers_63 (by decide) (fun c_63 => ?_) (fun c_63 => ?_)
        · skip
          refine lv_iconst (v := 0) C0.1 C0.2.1 dX3_greaterByNumbers_77 (by decide) ?_
          refine lv_istore (lv' := [(4, .int 0), (0, .ref r), (1, .ref r2), (2, .int (nI (sp_mm n n2))), (3, .int (nI i))]) C0.1 C0.2.1 dX3_greaterByNumbers_78 hl (by decide) rfl (fun ls hl => ?_)
          refine lv_iload_n C0.1 C0.2.1 dX3_greaterByNumbers_80 rfl (lv_at hl 4 rfl) ?_
          refine lv_iload_n C0.1 C0.2.1 dX3_greaterByNumbers_81 rfl (lv_at hl 3 rfl) ?_
          refine lv_icmp_ge (tgt := 155) C0.1 C0.2.1 dX3_greaterByNumbers_82 (by decide) (fun c_82 => ?_) (fun c_82 => absurd (nI_le (by omega) (by omega)) c_82)
          have q3 : ¬ (i < n ∧ i < n2) := by omega
          refine lv_iload_n C0.1 C0.2.1 dX3_greaterByNumbers_155 rfl (lv_at hl 4 rfl) ?_
          refine lv_aload_n C0.1 C0.2.1 dX3_greaterByNumbers_156 rfl (lv_at hl 1 rfl) ?_
          refine gf_X3_19 C0 w hR rfl dX3_greaterByNumbers_157 ?_
          refine lv_icmp_ge (tgt := 167) C0.1 C0.2.1 dX3_greaterByNumbers_160 (by decide) (fun c_160 => ?_) (fun c_160 => ?_)
          · skip
            refine lv_iconst (v := 0) C0.1 C0.2.1 dX3_greaterByNumbers_167 (by decide) ?_
            refine lv_iload C0.1 C0.2.1 dX3_greaterByNumbers_168 (lv_at hl 0 rfl) ?_
            refine lv_icmp_eq (tgt := 177) C0.1 C0.2.1 dX3_greaterByNumbers_170 (by decide) (fun _ => ?_) (fun h9 => absurd h9 (by decide))
            refine lv_iconst (v := 0) C0.1 C0.2.1 dX3_greaterByNumbers_177 (by decide) ?_
            refine lv_istore (lv' := [(5, .int 0), (4, .int 0), (0, .ref r), (1, .ref r2), (2, .int (nI (sp_mm n n2))), (3, .int (nI i))]) C0.1 C0.2.1 dX3_greaterByNumbers_178 hl (by decide) rfl (fun ls hl => ?_)
            refine lv_iload C0.1 C0.2.1 dX3_greaterByNumbers_180 (lv_at hl 0 rfl) ?_
            refine lv_if_eq (tgt := 189) C0.1 C0.2.1 dX3_greaterByNumbers_182 (by decide) (fun _ => ?_) (fun h9 => absurd h9 (by decide))
            refine lv_iconst (v := 2) C0.1 C0.2.1 dX3_greaterByNumbers_189 (by decide) ?_
            exact hv_iret C0 w hr hlk (⟨rfl, by rw [hres, sp_gr2, if_neg (fun h9 => c_45 (e1.mpr h9.1)), if_neg q3]; simp [decide_eq_false c_63, decide_eq_false (Nat.not_lt.mpr (e3.mp c_160))]⟩) dX3_greaterByNumbers_190
          · skip
            refine lv_iconst (v := 1) C0.1 C0.2.1 dX3_greaterByNumbers_163 (by decide) ?_
            refine lv_goto (tgt := 168) C0.1 C0.2.1 dX3_greaterByNumbers_164 (by decide) ?_
            refine lv_iload C0.1 C0.2.1 dX3_greaterByNumbers_168 (lv_at hl 0 rfl) ?_
            refine lv_icmp_eq (tgt := 177) C0.1 C0.2.1 dX3_greaterByNumbers_170 (by decide) (fun h9 => absurd h9 (by decide)) (fun _ => ?_)
            refine lv_iconst (v := 1) C0.1 C0.2.1 dX3_greaterByNumbers_173 (by decide) ?_
            refine lv_goto (tgt := 178) C0.1 C0.2.1 dX3_greaterByNumbers_174 (by decide) ?_
            refine lv_istore (lv' := [(5, .int 1), (4, .int 0), (0, .ref r), (1, .ref r2), (2, .int (nI (sp_mm n n2))), (3, .int (nI i))]) C0.1 C0.2.1 dX3_greaterByNumbers_178 hl (by decide) rfl (fun ls hl => ?_)
            refine lv_iload C0.1 C0.2.1 dX3_greaterByNumbers_180 (lv_at hl 0 rfl) ?_
            refine lv_if_eq (tgt := 189) C0.1 C0.2.1 dX3_greaterByNumbers_182 (by decide) (fun h9 => absurd h9 (by decide)) (fun _ => ?_)
            refine lv_iconst (v := 1) C0.1 C0.2.1 dX3_greaterByNumbers_185 (by decide) ?_
            refine lv_goto (tgt := 190) C0.1 C0.2.1 dX3_greaterByNumbers_186 (by decide) ?_
            exact hv_iret C0 w hr hlk (⟨rfl, by rw [hres, sp_gr2, if_neg (fun h9 => c_45 (e1.mpr h9.1)), if_neg q3]; simp [decide_eq_false c_63, decide_eq_true (Nat.not_le.mp (fun h9 => c_160 (e3.mpr h9)))]⟩) dX3_greaterByNumbers_190
        · skip
          refine lv_iload_n C0.1 C0.2.1 dX3_greaterByNumbers_66 rfl (lv_at hl 3 rfl) ?_
          refine lv_iconst (v := 2) C0.1 C0.2.1 dX3_greaterByNumbers_67 (by decide) ?_
          refine lv_irem C0.1 C0.2.1 dX3_greaterByNumbers_68 (by decide) ?_
          refine lv_iconst (v := 1) C0.1 C0.2.1 dX3_greaterByNumbers_69 (by decide) ?_
          refine lv_icmp_ne (tgt := 77) C0.1 C0.2.1 dX3_greaterByNumbers_70 (by decide) (fun c_70 => ?_) (fun c_70 => ?_)
          · skip
            refine lv_iconst (v := 0) C0.1 C0.2.1 dX3_greaterByNumbers_77 (by decide) ?_
            refine lv_istore (lv' := [(4, .int 0), (0, .ref r), (1, .ref r2), (2, .int (nI (sp_mm n n2))), (3, .int (nI i))]) C0.1 C0.2.1 dX3_greaterByNumbers_78 hl (by decide) rfl (fun ls hl => ?_)
            refine lv_iload_n C0.1 C0.2.1 dX3_greaterByNumbers_80 rfl (lv_at hl 4 rfl) ?_
            refine lv_iload_n C0.1 C0.2.1 dX3_greaterByNumbers_81 rfl (lv_at hl 3 rfl) ?_
            refine lv_icmp_ge (tgt := 155) C0.1 C0.2.1 dX3_greaterByNumbers_82 (by decide) (fun c_82 => ?_) (fun c_82 => absurd (nI_le (by omega) (by omega)) c_82)
            have q3 : ¬ (i < n ∧ i < n2) := by omega
            refine lv_iload_n C0.1 C0.2.1 dX3_greaterByNumbers_155 rfl (lv_at hl 4 rfl) ?_
            refine lv_aload_n C0.1 C0.2.1 dX3_greaterByNumbers_156 rfl (lv_at hl 1 rfl) ?_
            refine gf_X3_19 C0 w hR rfl dX3_greaterByNumbers_157 ?_
            refine lv_icmp_ge (tgt := 167) C0.1 C0.2.1 dX3_greaterByNumbers_160 (by decide) (fun c_160 => ?_) (fun c_160 => ?_)
            · skip
              refine lv_iconst (v := 0) C0.1 C0.2.1 dX3_greaterByNumbers_167 (by decide) ?_
              refine lv_iload C0.1 C0.2.1 dX3_greaterByNumbers_168 (lv_at hl 0 rfl) ?_
              refine lv_icmp_eq (tgt := 177) C0.1 C0.2.1 dX3_greaterByNumbers_170 (by decide) (fun _ => ?_) (fun h9 => absurd h9 (by decide))
              refine lv_iconst (v := 0) C0.1 C0.2.1 dX3_greaterByNumbers_177 (by decide) ?_
              refine lv_istore (lv' := [(5, .int 0), (4, .int 0), (0, .ref r), (1, .ref r2), (2, .int (nI (sp_mm n n2))), (3, .int (nI i))]) C0.1 C0.2.1 dX3_greaterByNumbers_178 hl (by decide) rfl (fun ls hl => ?_)
              refine lv_iload C0.1 C0.2.1 dX3_greaterByNumbers_180 (lv_at hl 0 rfl) ?_
              refine lv_if_eq (tgt := 189) C0.1 C0.2.1 dX3_greaterByNumbers_182 (by decide) (fun _ => ?_) (fun h9 => absurd h9 (by decide))
              refine lv_iconst (v := 2) C0.1 C0.2.1 dX3_greaterByNumbers_189 (by decide) ?_
              exact hv_iret C0 w hr hlk (⟨rfl, by rw [hres, sp_gr2, if_neg (fun h9 => c_45 (e1.mpr h9.1)), if_neg q3]; simp [decide_eq_true c_63, decide_eq_false c_70, decide_eq_false (Nat.not_lt.mpr (e3.mp c_160))]⟩) dX3_greaterByNumbers_190
            · skip
              refine lv_iconst (v := 1) C0.1 C0.2.1 dX3_greaterByNumbers_163 (by decide) ?_
              refine lv_goto (tgt := 168) C0.1 C0.2.1 dX3_greaterByNumbers_164 (by decide) ?_
              refine lv_iload C0.1 C0.2.1 dX3_greaterByNumbers_168 (lv_at hl 0 rfl) ?_
              refine lv_icmp_eq (tgt := 177) C0.1 C0.2.1 dX3_greaterByNumbers_170 (by decide) (fun h9 => absurd h9 (by decide)) (fun _ => ?_)
              refine lv_iconst (v := 1) C0.1 C0.2.1 dX3_greaterByNumbers_173 (by decide) ?_
              refine lv_goto (tgt := 178) C0.1 C0.2.1 dX3_greaterByNumbers_174 (by decide) ?_
              refine lv_istore (lv' := [(5, .int 1), (4, .int 0), (0, .ref r), (1, .ref r2), (2, .int (nI (sp_mm n n2))), (3, .int (nI i))]) C0.1 C0.2.1 dX3_greaterByNumbers_178 hl (by decide) rfl (fun ls hl => ?_)
              refine lv_iload C0.1 C0.2.1 dX3_greaterByNumbers_180 (lv_at hl 0 rfl) ?_
              refine lv_if_eq (tgt := 189) C0.1 C0.2.1 dX3_greaterByNumbers_182 (by decide) (fun h9 => absurd h9 (by decide)) (fun _ => ?_)
              refine lv_iconst (v := 1) C0.1 C0.2.1 dX3_greaterByNumbers_185 (by decide) ?_
              refine lv_goto (tgt := 190) C0.1 C0.2.1 dX3_greaterByNumbers_186 (by decide) ?_
              exact hv_iret C0 w hr hlk (⟨rfl, by rw [hres, sp_gr2, if_neg (fun h9 => c_45 (e1.mpr h9.1)), if_neg q3]; simp [decide_eq_true c_63, decide_eq_false c_70, decide_eq_true (Nat.not_le.mp (fun h9 => c_160 (e3.mpr h9)))]⟩) dX3_greaterByNumbers_190
          · skip
            refine lv_iconst (v := 1) C0.1 C0.2.1 dX3_greaterByNumbers_73 (by decide) ?_
            refine lv_goto (tgt := 78) C0.1 C0.2.1 dX3_greaterByNumbers_74 (by decide) ?_
            refine lv_istore (lv' := [(4, .int 1), (0, .ref r), (1, .ref r2), (2, .int (nI (sp_mm n n2))), (3, .int (nI i))]) C0.1 C0.2.1 dX3_greaterByNumbers_78 hl (by decide) rfl (fun ls hl => ?_)
            refine lv_iload_n C0.1 C0.2.1 dX3_greaterByNumbers_80 rfl (lv_at hl 4 rfl) ?_
            refine lv_iload_n C0.1 C0.2.1 dX3_greaterByNumbers_81 rfl (lv_at hl 3 rfl) ?_
            refine lv_icmp_ge (tgt := 155) C0.1 C0.2.1 dX3_greaterByNumbers_82 (by decide) (fun c_82 => ?_) (fun c_82 => absurd (nI_le (by omega) (by omega)) c_82)
            have q3 : ¬ (i < n ∧ i < n2) := by omega
            refine lv_iload_n C0.1 C0.2.1 dX3_greaterByNumbers_155 rfl (lv_at hl 4 rfl) ?_
            refine lv_aload_n C0.1 C0.2.1 dX3_greaterByNumbers_156 rfl (lv_at hl 1 rfl) ?_
            refine gf_X3_19 C0 w hR rfl dX3_greaterByNumbers_157 ?_
            refine lv_icmp_ge (tgt := 167) C0.1 C0.2.1 dX3_greaterByNumbers_160 (by decide) (fun c_160 => ?_) (fun c_160 => ?_)
            · skip
              refine lv_iconst (v := 0) C0.1 C0.2.1 dX3_greaterByNumbers_167 (by decide) ?_
              refine lv_iload C0.1 C0.2.1 dX3_greaterByNumbers_168 (lv_at hl 0 rfl) ?_
              refine lv_icmp_eq (tgt := 177) C0.1 C0.2.1 dX3_greaterByNumbers_170 (by decide) (fun h9 => absurd h9 (by decide)) (fun _ => ?_)
              refine lv_iconst (v := 1) C0.1 C0.2.1 dX3_greaterByNumbers_173 (by decide) ?_
              refine lv_goto (tgt := 178) C0.1 C0.2.1 dX3_greaterByNumbers_174 (by decide) ?_
              refine lv_istore (lv' := [(5, .int 1), (4, .int 1), (0, .ref r), (1, .ref r2), (2, .int (nI (sp_mm n n2))), (3, .int (nI i))]) C0.1 C0.2.1 dX3_greaterByNumbers_178 hl (by decide) rfl (fun ls hl => ?_)
              refine lv_iload C0.1 C0.2.1 dX3_greaterByNumbers_180 (lv_at hl 0 rfl) ?_
              refine lv_if_eq (tgt := 189) C0.1 C0.2.1 dX3_greaterByNumbers_182 (by decide) (fun h9 => absurd h9 (by decide)) (fun _ => ?_)
              refine lv_iconst (v := 1) C0.1 C0.2.1 dX3_greaterByNumbers_185 (by decide) ?_
              refine lv_goto (tgt := 190) C0.1 C0.2.1 dX3_greaterByNumbers_186 (by decide) ?_
              exact hv_iret C0 w hr hlk (⟨rfl, by rw [hres, sp_gr2, if_neg (fun h9 => c_45 (e1.mpr h9.1)), if_neg q3]; simp [decide_eq_true c_63, decide_eq_true c_70, decide_eq_false (Nat.not_lt.mpr (e3.mp c_160))]⟩) dX3_greaterByNumbers_190
            · skip
              refine lv_iconst (v := 1) C0.1 C0.2.1 dX3_greaterByNumbers_163 (by decide) ?_
              refine lv_goto (tgt := 168) C0.1 C0.2.1 dX3_greaterByNumbers_164 (by decide) ?_
              refine lv_iload C0.1 C0.2.1 dX3_greaterByNumbers_168 (lv_at hl 0 rfl) ?_
              refine lv_icmp_eq (tgt := 177) C0.1 C0.2.1 dX3_greaterByNumbers_170 (by decide) (fun _ => ?_) (fun h9 => absurd h9 (by decide))
              refine lv_iconst (v := 0) C0.1 C0.2.1 dX3_greaterByNumbers_177 (by decide) ?_
              refine lv_istore (lv' := [(5, .int 0), (4, .int 1), (0, .ref r), (1, .ref r2), (2, .int (nI (sp_mm n n2))), (3, .int (nI i))]) C0.1 C0.2.1 dX3_greaterByNumbers_178 hl (by decide) rfl (fun ls hl => ?_)
              refine lv_iload C0.1 C0.2.1 dX3_greaterByNumbers_180 (lv_at hl 0 rfl) ?_
              refine lv_if_eq (tgt := 189) C0.1 C0.2.1 dX3_greaterByNumbers_182 (by decide) (fun _ => ?_) (fun h9 => absurd h9 (by decide))
              refine lv_iconst (v := 2) C0.1 C0.2.1 dX3_greaterByNumbers_189 (by decide) ?_
              exact hv_iret C0 w hr hlk (⟨rfl, by rw [hres, sp_gr2, if_neg (fun h9 => c_45 (e1.mpr h9.1)), if_neg q3]; simp [decide_eq_true c_63, decide_eq_true c_70, decide_eq_true (Nat.not_le.mp (fun h9 => c_160 (e3.mpr h9)))]⟩) dX3_greaterByNumbers_190
      · skip
        refine lv_iload_n C0.1 C0.2.1 dX3_greaterByNumbers_48 rfl (lv_at hl 3 rfl) ?_
        refine lv_aload_n C0.1 C0.2.1 dX3_greaterByNumbers_49 rfl (lv_at hl 1 rfl) ?_
        refine gf_X3_19 C0 w hR2 rfl dX3_greaterByNumbers_50 ?_
        refine lv_icmp_ne (tgt := 58) C0.1 C0.2.1 dX3_greaterByNumbers_53 (by decide) (fun c_53 => ?_) (fun c_53 => ?_)
        · skip
          refine lv_aload_n C0.1 C0.2.1 dX3_greaterByNumbers_58 rfl (lv_at hl 0 rfl) ?_
          refine gf_X3_15 C0 w hR rfl dX3_greaterByNumbers_59 ?_
          refine lv_iconst (v := 2) C0.1 C0.2.1 dX3_greaterByNumbers_62 (by decide) ?_
          refine lv_icmp_ne (tgt := 77) C0.1 C0.2.1 dX3_greaterByNumbers_63 (by decide) (fun c_63 => ?_) (fun c_63 => ?_)
          · skip
            refine lv_iconst (v := 0) C0.1 C0.2.1 dX3_greaterByNumbers_77 (by decide) ?_
            refine lv_istore (lv' := [(4, .int 0), (0, .ref r), (1, .ref r2), (2, .int (nI (sp_mm n n2))), (3, .int (nI i))]) C0.1 C0.2.1 dX3_greaterByNumbers_78 hl (by decide) rfl (fun ls hl => ?_)
            refine lv_iload_n C0.1 C0.2.1 dX3_greaterByNumbers_80 rfl (lv_at hl 4 rfl) ?_
            refine lv_iload_n C0.1 C0.2.1 dX3_greaterByNumbers_81 rfl (lv_at hl 3 rfl) ?_
            refine lv_icmp_ge (tgt := 155) C0.1 C0.2.1 dX3_greaterByNumbers_82 (by decide) (fun c_82 => ?_) (fun c_82 => absurd (nI_le (by omega) (by omega)) c_82)
            have q3 : ¬ (i < n ∧ i < n2) := by omega
            refine lv_iload_n C0.1 C0.2.1 dX3_greaterByNumbers_155 rfl (lv_at hl 4 rfl) ?_
            refine lv_aload_n C0.1 C0.2.1 dX3_greaterByNumbers_156 rfl (lv_at hl 1 rfl) ?_
            refine gf_X3_19 C0 w hR rfl dX3_greaterByNumbers_157 ?_
            refine lv_icmp_ge (tgt := 167) C0.1 C0.2.1 dX3_greaterByNumbers_160 (by decide) (fun c_160 => ?_) (fun c_160 => ?_)
            · skip
              refine lv_iconst (v := 0) C0.1 C0.2.1 dX3_greaterByNumbers_167 (by decide) ?_
              refine lv_iload C0.1 C0.2.1 dX3_greaterByNumbers_168 (lv_at hl 0 rfl) ?_
              refine lv_icmp_eq (tgt := 177) C0.1 C0.2.1 dX3_greaterByNumbers_170 (by decide) (fun _ => ?_) (fun h9 => absurd h9 (by decide))
              refine lv_iconst (v := 0) C0.1 C0.2.1 dX3_greaterByNumbers_177 (by decide) ?_
              refine lv_istore (lv' := [(5, .int 0), (4, .int 0), (0, .ref r), (1, .ref r2), (2, .int (nI (sp_mm n n2))), (3, .int (nI i))]) C0.1 C0.2.1 dX3_greaterByNumbers_178 hl (by decide) rfl (fun ls hl => ?_)
              refine lv_iload C0.1 C0.2.1 dX3_greaterByNumbers_180 (lv_at hl 0 rfl) ?_
              refine lv_if_eq (tgt := 189) C0.1 C0.2.1 dX3_greaterByNumbers_182 (by decide) (fun _ => ?_) (fun h9 => absurd h9 (by decide))
              refine lv_iconst (v := 2) C0.1 C0.2.1 dX3_greaterByNumbers_189 (by decide) ?_
              exact hv_iret C0 w hr hlk (⟨rfl, by rw [hres, sp_gr2, if_neg (fun h9 => c_53 (e2.mpr h9.2)), if_neg q3]; simp [decide_eq_false c_63, decide_eq_false (Nat.not_lt.mpr (e3.mp c_160))]⟩) dX3_greaterByNumbers_190
            · skip
              refine lv_iconst (v := 1) C0.1 C0.2.1 dX3_greaterByNumbers_163 (by decide) ?_
              refine lv_goto (tgt := 168) C0.1 C0.2.1 dX3_greaterByNumbers_164 (by decide) ?_
              refine lv_iload C0.1 C0.2.1 dX3_greaterByNumbers_168 (lv_at hl 0 rfl) ?_
              refine lv_icmp_eq (tgt := 177) C0.1 C0.2.1 dX3_greaterByNumbers_170 (by decide) (fun h9 => absurd h9 (by decide)) (fun _ => ?_)
              refine lv_iconst (v := 1) C0.1 C0.2.1 dX3_greaterByNumbers_173 (by decide) ?_
              refine lv_goto (tgt := 178) C0.1 C0.2.1 dX3_greaterByNumbers_174 (by decide) ?_
              refine lv_istore (lv' := [(5, .int 1), (4, .int 0), (0, .ref r), (1, .ref r2), (2, .int (nI (sp_mm n n2))), (3, .int (nI i))]) C0.1 C0.2.1 dX3_greaterByNumbers_178 hl (by decide) rfl (fun ls hl => ?_)
              refine lv_iload C0.1 C0.2.1 dX3_greaterByNumbers_180 (lv_at hl 0 rfl) ?_
              refine lv_if_eq (tgt := 189) C0.1 C0.2.1 dX3_greaterByNumbers_182 (by decide) (fun h9 => absurd h9 (by decide)) (fun _ => ?_)
              refine lv_iconst (v := 1) C0.1 C0.2.1 dX3_greaterByNumbers_185 (by decide) ?_
              refine lv_goto (tgt := 190) C0.1 C0.2.1 dX3_greaterByNumbers_186 (by decide) ?_
              exact hv_iret C0 w hr hlk (⟨rfl, by rw [hres, sp_gr2, if_neg (fun h9 => c_53 (e2.mpr h9.2)), if_neg q3]; simp [decide_eq_false c_63, decide_eq_true (Nat.not_le.mp (fun h9 => c_160 (e3.mpr h9)))]⟩) dX3_greaterByNumbers_190
          · skip
            refine lv_iload_n C0.1 C0.2.1 dX3_greaterByNumbers_66 rfl (lv_at hl 3 rfl) ?_
            refine lv_iconst (v := 2) C0.1 C0.2.1 dX3_greaterByNumbers_67 (by decide) ?_
            refine lv_irem C0.1 C0.2.1 dX3_greaterByNumbers_68 (by decide) ?_
            refine lv_iconst (v := 1) C0.1 C0.2.1 dX3_greaterByNumbers_69 (by decide) ?_
            refine lv_icmp_ne (tgt := 77) C0.1 C0.2.1 dX3_greaterByNumbers_70 (by decide) (fun c_70 => ?_) (fun c_70 => ?_)
            · skip
              refine lv_iconst (v := 0) C0.1 C0.2.1 dX3_greaterByNumbers_77 (by decide) ?_
              refine lv_istore (lv' := [(4, .int 0), (0, .ref r), (1, .ref r2), (2, .int (nI (sp_mm n n2))), (3, .int (nI i))]) C0.1 C0.2.1 dX3_greaterByNumbers_78 hl (by decide) rfl (fun ls hl => ?_)
              refine lv_iload_n C0.1 C0.2.1 dX3_greaterByNumbers_80 rfl (lv_at hl 4 rfl) ?_
              refine lv_iload_n C0.1 C0.2.1 dX3_greaterByNumbers_81 rfl (lv_at hl 3 rfl) ?_
              refine lv_icmp_ge (tgt := 155) C0.1 C0.2.1 dX3_greaterByNumbers_82 (by decide) (fun c_82 => ?_) (fun c_82 => absurd (nI_le (by omega) (by omega)) c_82)
              have q3 : ¬ (i < n ∧ i < n2) := by omega
              refine lv_iload_n C0.1 C0.2.1 dX3_greaterByNumbers_155 rfl (lv_at hl 4 rfl) ?_
              refine lv_aload_n C0.1 C0.2.1 dX3_greaterByNumbers_156 rfl (lv_at hl 1 rfl) ?_
              refine gf_X3_19 C0 w hR rfl dX3_greaterByNumbers_157 ?_
              refine lv_icmp_ge (tgt := 167) C0.1 C0.2.1 dX3_greaterByNumbers_160 (by decide) (fun c_160 => ?_) (fun c_160 => ?_)
              · skip
                refine lv_iconst (v := 0) C0.1 C0.2.1 dX3_greaterByNumbers_167 (by decide) ?_
                refine lv_iload C0.1 C0.2.1 dX3_greaterByNumbers_168 (lv_at hl 0 rfl) ?_
                refine lv_icmp_eq (tgt := 177) C0.1 C0.2.1 dX3_greaterByNumbers_170 (by decide) (fun _ => ?_) (fun h9 => absurd h9 (by decide))
                refine lv_iconst (v := 0) C0.1 C0.2.1 dX3_greaterByNumbers_177 (by decide) ?_
                refine lv_istore (lv' := [(5, .int 0), (4, .int 0), (0, .ref r), (1, .ref r2), (2, .int (nI (sp_mm n n2))), (3, .int (nI i))]) C0.1 C0.2.1 dX3_greaterByNumbers_178 hl (by decide) rfl (fun ls hl => ?_)
                refine lv_iload C0.1 C0.2.1 dX3_greaterByNumbers_180 (lv_at hl 0 rfl) ?_
                refine lv_if_eq (tgt := 189) C0.1 C0.2.1 dX3_greaterByNumbers_182 (by decide) (fun _ => ?_) (fun h9 => absurd h9 (by decide))
                refine lv_iconst (v := 2) C0.1 C0.2.1 dX3_greaterByNumbers_189 (by decide) ?_
                exact hv_iret C0 w hr hlk (⟨rfl, by rw [hres, sp_gr2, if_neg (fun h9 => c_53 (e2.mpr h9.2)), if_neg q3]; simp [decide_eq_true c_63, decide_eq_false c_70, decide_eq_false (Nat.not_lt.mpr (e3.mp c_160))]⟩) dX3_greaterByNumbers_190
              · skip
                refine lv_iconst (v := 1) C0.1 C0.2.1 dX3_greaterByNumbers_163 (by decide) ?_
                refine lv_goto (tgt := 168) C0.1 C0.2.1 dX3_greaterByNumbers_164 (by decide) ?_
                refine lv_iload C0.1 C0.2.1 dX3_greaterByNumbers_168 (lv_at hl 0 rfl) ?_
                refine lv_icmp_eq (tgt := 177) C0.1 C0.2.1 dX3_greaterByNumbers_170 (by decide) (fun h9 => absurd h9 (by decide)) (fun _ => ?_)
                refine lv_iconst (v := 1) C0.1 C0.2.1 dX3_greaterByNumbers_173 (by decide) ?_
                refine lv_goto (tgt := 178) C0.1 C0.2.1 dX3_greaterByNumbers_174 (by decide) ?_
                refine lv_istore (lv' := [(5, .int 1), (4, .int 0), (0, .ref r), (1, .ref r2), (2, .int (nI (sp_mm n n2))), (3, .int (nI i))]) C0.1 C0.2.1 dX3_greaterByNumbers_178 hl (by decide) rfl (fun ls hl => ?_)
                refine lv_iload C0.1 C0.2.1 dX3_greaterByNumbers_180 (lv_at hl 0 rfl) ?_
                refine lv_if_eq (tgt := 189) C0.1 C0.2.1 dX3_greaterByNumbers_182 (by decide) (fun h9 => absurd h9 (by decide)) (fun _ => ?_)
                refine lv_iconst (v := 1) C0.1 C0.2.1 dX3_greaterByNumbers_185 (by decide) ?_
                refine lv_goto (tgt := 190) C0.1 C0.2.1 dX3_greaterByNumbers_186 (by decide) ?_
                exact hv_iret C0 w hr hlk (⟨rfl, by rw [hres, sp_gr2, if_neg (fun h9 => c_53 (e2.mpr h9.2)), if_neg q3]; simp [decide_eq_true c_63, decide_eq_false c_70, decide_eq_true (Nat.not_le.mp (fun h9 => c_160 (e3.mpr h9)))]⟩) dX3_greaterByNumbers_190
            · skip
              refine lv_iconst (v := 1) C0.1 C0.2.1 dX3_greaterByNumbers_73 (by decide) ?_
              refine lv_goto (tgt := 78) C0.1 C0.2.1 dX3_greaterByNumbers_74 (by decide) ?_
              refine lv_istore (lv' := [(4, .int 1), (0, .ref r), (1, .ref r2), (2, .int (nI (sp_mm n n2))), (3, .int (nI i))]) C0.1 C0.2.1 dX3_greaterByNumbers_78 hl (by decide) rfl (fun ls hl => ?_)
              refine lv_iload_n C0.1 C0.2.1 dX3_greaterByNumbers_80 rfl (lv_at hl 4 rfl) ?_
              refine lv_iload_n C0.1 C0.2.1 dX3_greaterByNumbers_81 rfl (lv_at hl 3 rfl) ?_
              refine lv_icmp_ge (tgt := 155) C0.1 C0.2.1 dX3_greaterByNumbers_82 (by decide) (fun c_82 => ?_) (fun c_82 => absurd (nI_le (by omega) (by omega)) c_82)
              have q3 : ¬ (i < n ∧ i < n2) := by omega
              refine lv_iload_n C0.1 C0.2.1 dX3_greaterByNumbers_155 rfl (lv_at hl 4 rfl) ?_
              refine lv_aload_n C0.1 C0.2.1 dX3_greaterByNumbers_156 rfl (lv_at hl 1 rfl) ?_
              refine gf_X3_19 C0 w hR rfl dX3_greaterByNumbers_157 ?_
              refine lv_icmp_ge (tgt := 167) C0.1 C0.2.1 dX3_greaterByNumbers_160 (by decide) (fun c_160 => ?_) (fun c_160 => ?_)
              · skip
                refine lv_iconst (v := 0) C0.1 C0.2.1 dX3_greaterByNumbers_167 (by decide) ?_
                refine lv_iload C0.1 C0.2.1 dX3_greaterByNumbers_168 (lv_at hl 0 rfl) ?_
                refine lv_icmp_eq (tgt := 177) C0.1 C0.2.1 dX3_greaterByNumbers_170 (by decide) (fun h9 => absurd h9 (by decide)) (fun _ => ?_)
                refine lv_iconst (v := 1) C0.1 C0.2.1 dX3_greaterByNumbers_173 (by decide) ?_
                refine lv_goto (tgt := 178) C0.1 C0.2.1 dX3_greaterByNumbers_174 (by decide) ?_
                refine lv_istore (lv' := [(5, .int 1), (4, .int 1), (0, .ref r), (1, .ref r2), (2, .int (nI (sp_mm n n2))), (3, .int (nI i))]) C0.1 C0.2.1 dX3_greaterByNumbers_178 hl (by decide) rfl (fun ls hl => ?_)
                refine lv_iload C0.1 C0.2.1 dX3_greaterByNumbers_180 (lv_at hl 0 rfl) ?_
                refine lv_if_eq (tgt := 189) C0.1 C0.2.1 dX3_greaterByNumbers_182 (by decide) (fun h9 => absurd h9 (by decide)) (fun _ => ?_)
                refine lv_iconst (v := 1) C0.1 C0.2.1 dX3_greaterByNumbers_185 (by decide) ?_
                refine lv_goto (tgt := 190) C0.1 C0.2.1 dX3_greaterByNumbers_186 (by decide) ?_
                exact hv_iret C0 w hr hlk (⟨rfl, by rw [hres, sp_gr2, if_neg (fun h9 => c_53 (e2.mpr h9.2)), if_neg q3]; simp [decide_eq_true c_63, decide_eq_true c_70, decide_eq_false (Nat.not_lt.mpr (e3.mp c_160))]⟩) dX3_greaterByNumbers_190
              · skip
                refine lv_iconst (v := 1) C0.1 C0.2.1 dX3_greaterByNumbers_163 (by decide) ?_
                refine lv_goto (tgt := 168) C0.1 C0.2.1 dX3_greaterByNumbers_164 (by decide) ?_
                refine lv_iload C0.1 C0.2.1 dX3_greaterByNumbers_168 (lv_at hl 0 rfl) ?_
                refine lv_icmp_eq (tgt := 177) C0.1 C0.2.1 dX3_greaterByNumbers_170 (by decide) (fun _ => ?_) (fun h9 => absurd h9 (by decide))
                refine lv_iconst (v := 0) C0.1 C0.2.1 dX3_greaterByNumbers_177 (by decide) ?_
                refine lv_istore (lv' := [(5, .int 0), (4, .int 1), (0, .ref r), (1, .ref r2), (2, .int (nI (sp_mm n n2))), (3, .int (nI i))]) C0.1 C0.2.1 dX3_greaterByNumbers_178 hl (by decide) rfl (fun ls hl => ?_)
                refine lv_iload C0.1 C0.2.1 dX3_greaterByNumbers_180 (lv_at hl 0 rfl) ?_
                refine lv_if_eq (tgt := 189) C0.1 C0.2.1 dX3_greaterByNumbers_182 (by decide) (fun _ => ?_) (fun h9 => absurd h9 (by decide))
                refine lv_iconst (v := 2) C0.1 C0.2.1 dX3_greaterByNumbers_189 (by decide) ?_
                exact hv_iret C0 w hr hlk (⟨rfl, by rw [hres, sp_gr2, if_neg (fun h9 => c_53 (e2.mpr h9.2)), if_neg q3]; simp [decide_eq_true c_63, decide_eq_true c_70, decide_eq_true (Nat.not_le.mp (fun h9 => c_160 (e3.mpr h9)))]⟩) dX3_greaterByNumbers_190
        · skip
          refine lv_iconst (v := 0) C0.1 C0.2.1 dX3_greaterByNumbers_56 (by decide) ?_
          exact hv_iret C0 w hr hlk (⟨rfl, by rw [hres, sp_gr2, if_pos ⟨e1.mp c_45, e2.mp c_53⟩]⟩) dX3_greaterByNumbers_57
    | succ m9 ih =>
      intro i Hq lq ls hi he w hl
      refine lv_iload_n C0.1 C0.2.1 dX3_greaterByNumbers_14 rfl (lv_at hl 3 rfl) ?_
      refine lv_iload_n C0.1 C0.2.1 dX3_greaterByNumbers_15 rfl (lv_at hl 2 rfl) ?_
      refine lv_icmp_ge (tgt := 40) C0.1 C0.2.1 dX3_greaterByNumbers_16 (by decide) (fun c_16 => absurd c_16 (nI_ge (by omega) (by omega))) (fun c_16 => ?_)
      refine lv_aload_n C0.1 C0.2.1 dX3_greaterByNumbers_19 rfl (lv_at hl 0 rfl) ?_
      refine gf_X3_9 C0 w hR rfl dX3_greaterByNumbers_20 ?_
      refine lv_iload_n C0.1 C0.2.1 dX3_greaterByNumbers_23 rfl (lv_at hl 3 rfl) ?_
      refine hv_iald C0 w hB (hn_in (by omega) (by decide)) dX3_greaterByNumbers_24 ?_
      have hc1 : (nI i).toNatClampNeg = i := nI_clamp (by omega)
      rw [hc1]
      refine lv_aload_n C0.1 C0.2.1 dX3_greaterByNumbers_25 rfl (lv_at hl 1 rfl) ?_
      refine gf_X3_9 C0 w hR2 rfl dX3_greaterByNumbers_26 ?_
      refine lv_iload_n C0.1 C0.2.1 dX3_greaterByNumbers_29 rfl (lv_at hl 3 rfl) ?_
      refine hv_iald C0 w hB2 (hn_in (by omega) (by decide)) dX3_greaterByNumbers_30 ?_
      have hc2 : (nI i).toNatClampNeg = i := nI_clamp (by omega)
      rw [hc2]
      refine lv_icmp_ne (tgt := 40) C0.1 C0.2.1 dX3_greaterByNumbers_31 (by decide) (fun c_31 => ?_) (fun c_31 => ?_)
      · skip
        have he : i = sp_dif f f2 (sp_mm n n2) 0 := by rw [← he, sp_dif, if_neg c_31]
        have hres : sp_greater kd n n2 f f2 = sp_gr2 kd n n2 i (f i) (f2 i) := by rw [sp_greater, ← he]
        have e1 : nI i = nI n ↔ i = n := nI_eq (by omega) (by omega)
        have e2 : nI i = nI n2 ↔ i = n2 := nI_eq (by omega) (by omega)
        have e3 : nI n ≤ nI i ↔ n ≤ i := nI_leI (by omega) (by omega)
        refine lv_iload_n C0.1 C0.2.1 dX3_greaterByNumbers_40 rfl (lv_at hl 3 rfl) ?_
        refine lv_aload_n C0.1 C0.2.1 dX3_greaterByNumbers_41 rfl (lv_at hl 0 rfl) ?_
        refine gf_X3_19 C0 w hR rfl dX3_greaterByNumbers_42 ?_
        refine lv_icmp_ne (tgt := 58) C0.1 C0.2.1 dX3_greaterByNumbers_45 (by decide) (fun c_45 => ?_) (fun c_45 => ?_)
        · skip
          refine lv_aload_n C0.1 C0.2.1 dX3_greaterByNumbers_58 rfl (lv_at hl 0 rfl) ?_
          refine gf_X3_15 C0 w hR rfl dX3_greaterByNumbers_59 ?_
          refine lv_iconst (v := 2) C0.1 C0.2.1 dX3_greaterByNumbers_62 (by decide) ?_
          refine lv_icmp_ne (tgt := 77) C0.1 C0.2.1 dX3_greaterByNumbers_63 (by decide) (fun c_63 => ?_) (fun c_63 => ?_)
          · skip
            refine lv_iconst (v := 0) C0.1 C0.2.1 dX3_greaterByNumbers_77 (by decide) ?_
            refine lv_istore (lv' := [(4, .int 0), (0, .ref r), (1, .ref r2), (2, .int (nI (sp_mm n n2))), (3, .int (nI i))]) C0.1 C0.2.1 dX3_greaterByNumbers_78 hl (by decide) rfl (fun ls hl => ?_)
            refine lv_iload_n C0.1 C0.2.1 dX3_greaterByNumbers_80 rfl (lv_at hl 4 rfl) ?_
            refine lv_iload_n C0.1 C0.2.1 dX3_greaterByNumbers_81 rfl (lv_at hl 3 rfl) ?_
            refine lv_icmp_ge (tgt := 155) C0.1 C0.2.1 dX3_greaterByNumbers_82 (by decide) (fun c_82 => absurd c_82 (nI_ge (by omega) (by omega))) (fun c_82 => ?_)
            have q1 : i < n := by omega
            have q2 : i < n2 := by omega
            refine lv_aload_n C0.1 C0.2.1 dX3_greaterByNumbers_85 rfl (lv_at hl 1 rfl) ?_
            refine gf_X3_15 C0 w hR rfl dX3_greaterByNumbers_86 ?_
            refine lv_if_eq (tgt := 113) C0.1 C0.2.1 dX3_greaterByNumbers_89 (by decide) (fun c_89 => ?_) (fun c_89 => ?_)
            · skip
              refine lv_iconst (v := 1) C0.1 C0.2.1 dX3_greaterByNumbers_113 (by decide) ?_
              refine lv_goto (tgt := 118) C0.1 C0.2.1 dX3_greaterByNumbers_114 (by decide) ?_
              refine lv_istore (lv' := [(6, .int 1), (4, .int 0), (0, .ref r), (1, .ref r2), (2, .int (nI (sp_mm n n2))), (3, .int (nI i))]) C0.1 C0.2.1 dX3_greaterByNumbers_118 hl (by decide) rfl (fun ls hl => ?_)
              refine lv_aload_n C0.1 C0.2.1 dX3_greaterByNumbers_120 rfl (lv_at hl 2 rfl) ?_
              refine gf_X3_9 C0 w hR rfl dX3_greaterByNumbers_121 ?_
              refine lv_iload_n C0.1 C0.2.1 dX3_greaterByNumbers_124 rfl (lv_at hl 5 rfl) ?_
              refine hv_iald C0 w hB (hn_in (by omega) (by decide)) dX3_greaterByNumbers_125 ?_
              have hc3 : (nI i).toNatClampNeg = i := nI_clamp (by omega)
              rw [hc3]
              refine lv_aload_n C0.1 C0.2.1 dX3_greaterByNumbers_126 rfl (lv_at hl 3 rfl) ?_
              refine gf_X3_9 C0 w hR2 rfl dX3_greaterByNumbers_127 ?_
              refine lv_iload_n C0.1 C0.2.1 dX3_greaterByNumbers_130 rfl (lv_at hl 5 rfl) ?_
              refine hv_iald C0 w hB2 (hn_in (by omega) (by decide)) dX3_greaterByNumbers_131 ?_
              have hc4 : (nI i).toNatClampNeg = i := nI_clamp (by omega)
              rw [hc4]
              refine lv_icmp_ge (tgt := 139) C0.1 C0.2.1 dX3_greaterByNumbers_132 (by decide) (fun c_132 => ?_) (fun c_132 => ?_)
              · skip
                refine lv_iconst (v := 0) C0.1 C0.2.1 dX3_greaterByNumbers_139 (by decide) ?_
                refine lv_iload C0.1 C0.2.1 dX3_greaterByNumbers_140 (lv_at hl 0 rfl) ?_
                refine lv_icmp_ne (tgt := 149) C0.1 C0.2.1 dX3_greaterByNumbers_142 (by decide) (fun _ => ?_) (fun h9 => absurd h9 (by decide))
                refine lv_iconst (v := 0) C0.1 C0.2.1 dX3_greaterByNumbers_149 (by decide) ?_
                refine lv_istore (lv' := [(5, .int 0), (6, .int 1), (4, .int 0), (0, .ref r), (1, .ref r2), (2, .int (nI (sp_mm n n2))), (3, .int (nI i))]) C0.1 C0.2.1 dX3_greaterByNumbers_150 hl (by decide) rfl (fun ls hl => ?_)
                refine lv_goto (tgt := 180) C0.1 C0.2.1 dX3_greaterByNumbers_152 (by decide) ?_
                refine lv_iload C0.1 C0.2.1 dX3_greaterByNumbers_180 (lv_at hl 0 rfl) ?_
                refine lv_if_eq (tgt := 189) C0.1 C0.2.1 dX3_greaterByNumbers_182 (by decide) (fun _ => ?_) (fun h9 => absurd h9 (by decide))
                refine lv_iconst (v := 2) C0.1 C0.2.1 dX3_greaterByNumbers_189 (by decide) ?_
                exact hv_iret C0 w hr hlk (⟨rfl, by rw [hres, sp_gr2, if_neg (fun h9 => c_45 (e1.mpr h9.1)), if_pos ⟨q1, q2⟩]; simp [decide_eq_false c_63, decide_eq_true c_89, decide_eq_false (Int32.not_lt.mpr c_132)]⟩) dX3_greaterByNumbers_190
              · skip
                refine lv_iconst (v := 1) C0.1 C0.2.1 dX3_greaterByNumbers_135 (by decide) ?_
                refine lv_goto (tgt := 140) C0.1 C0.2.1 dX3_greaterByNumbers_136 (by decide) ?_
                refine lv_iload C0.1 C0.2.1 dX3_greaterByNumbers_140 (lv_at hl 0 rfl) ?_
                refine lv_icmp_ne (tgt := 149) C0.1 C0.2.1 dX3_greaterByNumbers_142 (by decide) (fun h9 => absurd h9 (by decide)) (fun _ => ?_)
                refine lv_iconst (v := 1) C0.1 C0.2.1 dX3_greaterByNumbers_145 (by decide) ?_
                refine lv_goto (tgt := 150) C0.1 C0.2.1 dX3_greaterByNumbers_146 (by decide) ?_
                refine lv_istore (lv' := [(5, .int 1), (6, .int 1), (4, .int 0), (0, .ref r), (1, .ref r2), (2, .int (nI (sp_mm n n2))), (3, .int (nI i))]) C0.1 C0.2.1 dX3_greaterByNumbers_150 hl (by decide) rfl (fun ls hl => ?_)
                refine lv_goto (tgt := 180) C0.1 C0.2.1 dX3_greaterByNumbers_152 (by decide) ?_
                refine lv_iload C0.1 C0.2.1 dX3_greaterByNumbers_180 (lv_at hl 0 rfl) ?_
                refine lv_if_eq (tgt := 189) C0.1 C0.2.1 dX3_greaterByNumbers_182 (by decide) (fun h9 => absurd h9 (by decide)) (fun _ => ?_)
                refine lv_iconst (v := 1) C0.1 C0.2.1 dX3_greaterByNumbers_185 (by decide) ?_
                refine lv_goto (tgt := 190) C0.1 C0.2.1 dX3_greaterByNumbers_186 (by decide) ?_
                exact hv_iret C0 w hr hlk (⟨rfl, by rw [hres, sp_gr2, if_neg (fun h9 => c_45 (e1.mpr h9.1)), if_pos ⟨q1, q2⟩]; simp [decide_eq_false c_63, decide_eq_true c_89, decide_eq_true (Int32.not_le.mp c_132)]⟩) dX3_greaterByNumbers_190
            · skip
              refine lv_aload_n C0.1 C0.2.1 dX3_greaterByNumbers_92 rfl (lv_at hl 1 rfl) ?_
              refine gf_X3_15 C0 w hR rfl dX3_greaterByNumbers_93 ?_
              refine lv_iconst (v := 1) C0.1 C0.2.1 dX3_greaterByNumbers_96 (by decide) ?_
              refine lv_icmp_eq (tgt := 113) C0.1 C0.2.1 dX3_greaterByNumbers_97 (by decide) (fun c_97 => ?_) (fun c_97 => ?_)
              · skip
                refine lv_iconst (v := 1) C0.1 C0.2.1 dX3_greaterByNumbers_113 (by decide) ?_
                refine lv_goto (tgt := 118) C0.1 C0.2.1 dX3_greaterByNumbers_114 (by decide) ?_
                refine lv_istore (lv' := [(6, .int 1), (4, .int 0), (0, .ref r), (1, .ref r2), (2, .int (nI (sp_mm n n2))), (3, .int (nI i))]) C0.1 C0.2.1 dX3_greaterByNumbers_118 hl (by decide) rfl (fun ls hl => ?_)
                refine lv_aload_n C0.1 C0.2.1 dX3_greaterByNumbers_120 rfl (lv_at hl 2 rfl) ?_
                refine gf_X3_9 C0 w hR rfl dX3_greaterByNumbers_121 ?_
                refine lv_iload_n C0.1 C0.2.1 dX3_greaterByNumbers_124 rfl (lv_at hl 5 rfl) ?_
                refine hv_iald C0 w hB (hn_in (by omega) (by decide)) dX3_greaterByNumbers_125 ?_
                have hc5 : (nI i).toNatClampNeg = i := nI_clamp (by omega)
                rw [hc5]
                refine lv_aload_n C0.1 C0.2.1 dX3_greaterByNumbers_126 rfl (lv_at hl 3 rfl) ?_
                refine gf_X3_9 C0 w hR2 rfl dX3_greaterByNumbers_127 ?_
                refine lv_iload_n C0.1 C0.2.1 dX3_greaterByNumbers_130 rfl (lv_at hl 5 rfl) ?_
                refine hv_iald C0 w hB2 (hn_in (by omega) (by decide)) dX3_greaterByNumbers_131 ?_
                have hc6 : (nI i).toNatClampNeg = i := nI_clamp (by omega)
                rw [hc6]
                refine lv_icmp_ge (tgt := 139) C0.1 C0.2.1 dX3_greaterByNumbers_132 (by decide) (fun c_132 => ?_) (fun c_132 => ?_)
                · skip
                  refine lv_iconst (v := 0) C0.1 C0.2.1 dX3_greaterByNumbers_139 (by decide) ?_
                  refine lv_iload C0.1 C0.2.1 dX3_greaterByNumbers_140 (lv_at hl 0 rfl) ?_
                  refine lv_icmp_ne (tgt := 149) C0.1 C0.2.1 dX3_greaterByNumbers_142 (by decide) (fun _ => ?_) (fun h9 => absurd h9 (by decide))
                  refine lv_iconst (v := 0) C0.1 C0.2.1 dX3_greaterByNumbers_149 (by decide) ?_
                  refine lv_istore (lv' := [(5, .int 0), (6, .int 1), (4, .int 0), (0, .ref r), (1, .ref r2), (2, .int (nI (sp_mm n n2))), (3, .int (nI i))]) C0.1 C0.2.1 dX3_greaterByNumbers_150 hl (by decide) rfl (fun ls hl => ?_)
                  refine lv_goto (tgt := 180) C0.1 C0.2.1 dX3_greaterByNumbers_152 (by decide) ?_
                  refine lv_iload C0.1 C0.2.1 dX3_greaterByNumbers_180 (lv_at hl 0 rfl) ?_
                  refine lv_if_eq (tgt := 189) C0.1 C0.2.1 dX3_greaterByNumbers_182 (by decide) (fun _ => ?_) (fun h9 => absurd h9 (by decide))
                  refine lv_iconst (v := 2) C0.1 C0.2.1 dX3_greaterByNumbers_189 (by decide) ?_
                  exact hv_iret C0 w hr hlk (⟨rfl, by rw [hres, sp_gr2, if_neg (fun h9 => c_45 (e1.mpr h9.1)), if_pos ⟨q1, q2⟩]; simp [decide_eq_false c_63, decide_eq_false c_89, decide_eq_true c_97, decide_eq_false (Int32.not_lt.mpr c_132)]⟩) dX3_greaterByNumbers_190
                · skip
                  refine lv_iconst (v := 1) C0.1 C0.2.1 dX3_greaterByNumbers_135 (by decide) ?_
                  refine lv_goto (tgt := 140) C0.1 C0.2.1 dX3_greaterByNumbers_136 (by decide) ?_
                  refine lv_iload C0.1 C0.2.1 dX3_greaterByNumbers_140 (lv_at hl 0 rfl) ?_
                  refine lv_icmp_ne (tgt := 149) C0.1 C0.2.1 dX3_greaterByNumbers_142 (by decide) (fun h9 => absurd h9 (by decide)) (fun _ => ?_)
                  refine lv_iconst (v := 1) C0.1 C0.2.1 dX3_greaterByNumbers_145 (by decide) ?_
                  refine lv_goto (tgt := 150) C0.1 C0.2.1 dX3_greaterByNumbers_146 (by decide) ?_
                  refine lv_istore (lv' := [(5, .int 1), (6, .int 1), (4, .int 0), (0, .ref r), (1, .ref r2), (2, .int (nI (sp_mm n n2))), (3, .int (nI i))]) C0.1 C0.2.1 dX3_greaterByNumbers_150 hl (by decide) rfl (fun ls hl => ?_)
                  refine lv_goto (tgt := 180) C0.1 C0.2.1 dX3_greaterByNumbers_152 (by decide) ?_
                  refine lv_iload C0.1 C0.2.1 dX3_greaterByNumbers_180 (lv_at hl 0 rfl) ?_
                  refine lv_if_eq (tgt := 189) C0.1 C0.2.1 dX3_greaterByNumbers_182 (by decide) (fun h9 => absurd h9 (by decide)) (fun _ => ?_)
                  refine lv_iconst (v := 1) C0.1 C0.2.1 dX3_greaterByNumbers_185 (by decide) ?_
                  refine lv_goto (tgt := 190) C0.1 C0.2.1 dX3_greaterByNumbers_186 (by decide) ?_
                  exact hv_iret C0 w hr hlk (⟨rfl, by rw [hres, sp_gr2, if_neg (fun h9 => c_45 (e1.mpr h9.1)), if_pos ⟨q1, q2⟩]; simp [decide_eq_false c_63, decide_eq_false c_89, decide_eq_true c_97, decide_eq_true (Int32.not_le.mp c_132)]⟩) dX3_greaterByNumbers_190
              · skip
                refine lv_aload_n C0.1 C0.2.1 dX3_greaterByNumbers_100 rfl (lv_at hl 1 rfl) ?_
                refine gf_X3_15 C0 w hR rfl dX3_greaterByNumbers_101 ?_
                refine lv_iconst (v := 2) C0.1 C0.2.1 dX3_greaterByNumbers_104 (by decide) ?_
                refine lv_icmp_ne (tgt := 117) C0.1 C0.2.1 dX3_greaterByNumbers_105 (by decide) (fun c_105 => ?_) (fun c_105 => ?_)
                · skip
                  refine lv_iconst (v := 0) C0.1 C0.2.1 dX3_greaterByNumbers_117 (by decide) ?_
                  refine lv_istore (lv' := [(6, .int 0), (4, .int 0), (0, .ref r), (1, .ref r2), (2, .int (nI (sp_mm n n2))), (3, .int (nI i))]) C0.1 C0.2.1 dX3_greaterByNumbers_118 hl (by decide) rfl (fun ls hl => ?_)
                  refine lv_aload_n C0.1 C0.2.1 dX3_greaterByNumbers_120 rfl (lv_at hl 2 rfl) ?_
                  refine gf_X3_9 C0 w hR rfl dX3_greaterByNumbers_121 ?_
                  refine lv_iload_n C0.1 C0.2.1 dX3_greaterByNumbers_124 rfl (lv_at hl 5 rfl) ?_
                  refine hv_iald C0 w hB (hn_in (by omega) (by decide)) dX3_greaterByNumbers_125 ?_
                  have hc7 : (nI i).toNatClampNeg = i := nI_clamp (by omega)
                  rw [hc7]
                  refine lv_aload_n C0.1 C0.2.1 dX3_greaterByNumbers_126 rfl (lv_at hl 3 rfl) ?_
                  refine gf_X3_9 C0 w hR2 rfl dX3_greaterByNumbers_127 ?_
                  refine lv_iload_n C0.1 C0.2.1 dX3_greaterByNumbers_130 rfl (lv_at hl 5 rfl) ?_
                  refine hv_iald C0 w hB2 (hn_in (by omega) (by decide)) dX3_greaterByNumbers_131 ?_
                  have hc8 : (nI i).toNatClampNeg = i := nI_clamp (by omega)
                  rw [hc8]
                  refine lv_icmp_ge (tgt := 139) C0.1 C0.2.1 dX3_greaterByNumbers_132 (by decide) (fun c_132 => ?_) (fun c_132 => ?_)
                  · skip
                    refine lv_iconst (v := 0) C0.1 C0.2.1 dX3_greaterByNumbers_139 (by decide) ?_
                    refine lv_iload C0.1 C0.2.1 dX3_greaterByNumbers_140 (lv_at hl 0 rfl) ?_
                    refine lv_icmp_ne (tgt := 149) C0.1 C0.2.1 dX3_greaterByNumbers_142 (by decide) (fun h9 => absurd h9 (by decide)) (fun _ => ?_)
                    refine lv_iconst (v := 1) C0.1 C0.2.1 dX3_greaterByNumbers_145 (by decide) ?_
                    refine lv_goto (tgt := 150) C0.1 C0.2.1 dX3_greaterByNumbers_146 (by decide) ?_
                    refine lv_istore (lv' := [(5, .int 1), (6, .int 0), (4, .int 0), (0, .ref r), (1, .ref r2), (2, .int (nI (sp_mm n n2))), (3, .int (nI i))]) C0.1 C0.2.1 dX3_greaterByNumbers_150 hl (by decide) rfl (fun ls hl => ?_)
                    refine lv_goto (tgt := 180) C0.1 C0.2.1 dX3_greaterByNumbers_152 (by decide) ?_
                    refine lv_iload C0.1 C0.2.1 dX3_greaterByNumbers_180 (lv_at hl 0 rfl) ?_
                    refine lv_if_eq (tgt := 189) C0.1 C0.2.1 dX3_greaterByNumbers_182 (by decide) (fun h9 => absurd h9 (by decide)) (fun _ => ?_)
                    refine lv_iconst (v := 1) C0.1 C0.2.1 dX3_greaterByNumbers_185 (by decide) ?_
                    refine lv_goto (tgt := 190) C0.1 C0.2.1 dX3_greaterByNumbers_186 (by decide) ?_
                    exact hv_iret C0 w hr hlk (⟨rfl, by rw [hres, sp_gr2, if_neg (fun h9 => c_45 (e1.mpr h9.1)), if_pos ⟨q1, q2⟩]; simp [decide_eq_false c_63, decide_eq_false c_89, decide_eq_false c_97, decide_eq_false c_105, decide_eq_false (Int32.not_lt.mpr c_132)]⟩) dX3_greaterByNumbers_190
                  · skip
                    refine lv_iconst (v := 1) C0.1 C0.2.1 dX3_greaterByNumbers_135 (by decide) ?_
                    refine lv_goto (tgt := 140) C0.1 C0.2.1 dX3_greaterByNumbers_136 (by decide) ?_
                    refine lv_iload C0.1 C0.2.1 dX3_greaterByNumbers_140 (lv_at hl 0 rfl) ?_
                    refine lv_icmp_ne (tgt := 149) C0.1 C0.2.1 dX3_greaterByNumbers_142 (by decide) (fun _ => ?_) (fun h9 => absurd h9 (by decide))
                    refine lv_iconst (v := 0) C0.1 C0.2.1 dX3_greaterByNumbers_149 (by decide) ?_
                    refine lv_istore (lv' := [(5, .int 0), (6, .int 0), (4, .int 0), (0, .ref r), (1, .ref r2), (2, .int (nI (sp_mm n n2))), (3, .int (nI i))]) C0.1 C0.2.1 dX3_greaterByNumbers_150 hl (by decide) rfl (fun ls hl => ?_)
                    refine lv_goto (tgt := 180) C0.1 C0.2.1 dX3_greaterByNumbers_152 (by decide) ?_
                    refine lv_iload C0.1 C0.2.1 dX3_greaterByNumbers_180 (lv_at hl 0 rfl) ?_
                    refine lv_if_eq (tgt := 189) C0.1 C0.2.1 dX3_greaterByNumbers_182 (by decide) (fun _ => ?_) (fun h9 => absurd h9 (by decide))
                    refine lv_iconst (v := 2) C0.1 C0.2.1 dX3_greaterByNumbers_189 (by decide) ?_
                    exact hv_iret C0 w hr hlk (⟨rfl, by rw [hres, sp_gr2, if_neg (fun h9 => c_45 (e1.mpr h9.1)), if_pos ⟨q1, q2⟩]; simp [decide_eq_false c_63, decide_eq_false c_89, decide_eq_false c_97, decide_eq_false c_105, decide_eq_true (Int32.not_le.mp c_132)]⟩) dX3_greaterByNumbers_190
                · skip
                  refine lv_iload C0.1 C0.2.1 dX3_greaterByNumbers_108 (lv_at hl 0 rfl) ?_
                  refine lv_if_ne (tgt := 117) C0.1 C0.2.1 dX3_greaterByNumbers_110 (by decide) (fun h9 => absurd h9 (by decide)) (fun _ => ?_)
                  refine lv_iconst (v := 1) C0.1 C0.2.1 dX3_greaterByNumbers_113 (by decide) ?_
                  refine lv_goto (tgt := 118) C0.1 C0.2.1 dX3_greaterByNumbers_114 (by decide) ?_
                  refine lv_istore (lv' := [(6, .int 1), (4, .int 0), (0, .ref r), (1, .ref r2), (2, .int (nI (sp_mm n n2))), (3, .int (nI i))]) C0.1 C0.2.1 dX3_greaterByNumbers_118 hl (by decide) rfl (fun ls hl => ?_)
                  refine lv_aload_n C0.1 C0.2.1 dX3_greaterByNumbers_120 rfl (lv_at hl 2 rfl) ?_
                  refine gf_X3_9 C0 w hR rfl dX3_greaterByNumbers_121 ?_
                  refine lv_iload_n C0.1 C0.2.1 dX3_greaterByNumbers_124 rfl (lv_at hl 5 rfl) ?_
                  refine hv_iald C0 w hB (hn_in (by omega) (by decide)) dX3_greaterByNumbers_125 ?_
                  have hc9 : (nI i).toNatClampNeg = i := nI_clamp (by omega)
                  rw [hc9]
                  refine lv_aload_n C0.1 C0.2.1 dX3_greaterByNumbers_126 rfl (lv_at hl 3 rfl) ?_
                  refine gf_X3_9 C0 w hR2 rfl dX3_greaterByNumbers_127 ?_
                  refine lv_iload_n C0.1 C0.2.1 dX3_greaterByNumbers_130 rfl (lv_at hl 5 rfl) ?_
                  refine hv_iald C0 w hB2 (hn_in (by omega) (by decide)) dX3_greaterByNumbers_131 ?_
                  have hc10 : (nI i).toNatClampNeg = i := nI_clamp (by omega)
                  rw [hc10]
                  refine lv_icmp_ge (tgt := 139) C0.1 C0.2.1 dX3_greaterByNumbers_132 (by decide) (fun c_132 => ?_) (fun c_132 => ?_)
                  · skip
                    refine lv_iconst (v := 0) C0.1 C0.2.1 dX3_greaterByNumbers_139 (by decide) ?_
                    refine lv_iload C0.1 C0.2.1 dX3_greaterByNumbers_140 (lv_at hl 0 rfl) ?_
                    refine lv_icmp_ne (tgt := 149) C0.1 C0.2.1 dX3_greaterByNumbers_142 (by decide) (fun _ => ?_) (fun h9 => absurd h9 (by decide))
                    refine lv_iconst (v := 0) C0.1 C0.2.1 dX3_greaterByNumbers_149 (by decide) ?_
                    refine lv_istore (lv' := [(5, .int 0), (6, .int 1), (4, .int 0), (0, .ref r), (1, .ref r2), (2, .int (nI (sp_mm n n2))), (3, .int (nI i))]) C0.1 C0.2.1 dX3_greaterByNumbers_150 hl (by decide) rfl (fun ls hl => ?_)
                    refine lv_goto (tgt := 180) C0.1 C0.2.1 dX3_greaterByNumbers_152 (by decide) ?_
                    refine lv_iload C0.1 C0.2.1 dX3_greaterByNumbers_180 (lv_at hl 0 rfl) ?_
                    refine lv_if_eq (tgt := 189) C0.1 C0.2.1 dX3_greaterByNumbers_182 (by decide) (fun _ => ?_) (fun h9 => absurd h9 (by decide))
                    refine lv_iconst (v := 2) C0.1 C0.2.1 dX3_greaterByNumbers_189 (by decide) ?_
                    exact hv_iret C0 w hr hlk (⟨rfl, by first | exact absurd c_105 c_63 | exact absurd c_63 c_105⟩) dX3_greaterByNumbers_190
                  · skip
                    refine lv_iconst (v := 1) C0.1 C0.2.1 dX3_greaterByNumbers_135 (by decide) ?_
                    refine lv_goto (tgt := 140) C0.1 C0.2.1 dX3_greaterByNumbers_136 (by decide) ?_
                    refine lv_iload C0.1 C0.2.1 dX3_greaterByNumbers_140 (lv_at hl 0 rfl) ?_
                    refine lv_icmp_ne (tgt := 149) C0.1 C0.2.1 dX3_greaterByNumbers_142 (by decide) (fun h9 => absurd h9 (by decide)) (fun _ => ?_)
                    refine lv_iconst (v := 1) C0.1 C0.2.1 dX3_greaterByNumbers_145 (by decide) ?_
                    refine lv_goto (tgt := 150) C0.1 C0.2.1 dX3_greaterByNumbers_146 (by decide) ?_
                    refine lv_istore (lv' := [(5, .int 1), (6, .int 1), (4, .int 0), (0, .ref r), (1, .ref r2), (2, .int (nI (sp_mm n n2))), (3, .int (nI i))]) C0.1 C0.2.1 dX3_greaterByNumbers_150 hl (by decide) rfl (fun ls hl => ?_)
                    refine lv_goto (tgt := 180) C0.1 C0.2.1 dX3_greaterByNumbers_152 (by decide) ?_
                    refine lv_iload C0.1 C0.2.1 dX3_greaterByNumbers_180 (lv_at hl 0 rfl) ?_
                    refine lv_if_eq (tgt := 189) C0.1 C0.2.1 dX3_greaterByNumbers_182 (by decide) (fun h9 => absurd h9 (by decide)) (fun _ => ?_)
                    refine lv_iconst (v := 1) C0.1 C0.2.1 dX3_greaterByNumbers_185 (by decide) ?_
                    refine lv_goto (tgt := 190) C0.1 C0.2.1 dX3_greaterByNumbers_186 (by decide) ?_
                    exact hv_iret C0 w hr hlk (⟨rfl, by first | exact absurd c_105 c_63 | exact absurd c_63 c_105⟩) dX3_greaterByNumbers_190
          · skip
            refine lv_iload_n C0.1 C0.2.1 dX3_greaterByNumbers_66 rfl (lv_at hl 3 rfl) ?_
            refine lv_iconst (v := 2) C0.1 C0.2.1 dX3_greaterByNumbers_67 (by decide) ?_
            refine lv_irem C0.1 C0.2.1 dX3_greaterByNumbers_68 (by decide) ?_
            refine lv_iconst (v := 1) C0.1 C0.2.1 dX3_greaterByNumbers_69 (by decide) ?_
            refine lv_icmp_ne (tgt := 77) C0.1 C0.2.1 dX3_greaterByNumbers_70 (by decide) (fun c_70 => ?_) (fun c_70 => ?_)
            · skip
              refine lv_iconst (v := 0) C0.1 C0.2.1 dX3_greaterByNumbers_77 (by decide) ?_
              refine lv_istore (lv' := [(4, .int 0), (0, .ref r), (1, .ref r2), (2, .int (nI (sp_mm n n2))), (3, .int (nI i))]) C0.1 C0.2.1 dX3_greaterByNumbers_78 hl (by decide) rfl (fun ls hl => ?_)
              refine lv_iload_n C0.1 C0.2.1 dX3_greaterByNumbers_80 rfl (lv_at hl 4 rfl) ?_
              refine lv_iload_n C0.1 C0.2.1 dX3_greaterByNumbers_81 rfl (lv_at hl 3 rfl) ?_
              refine lv_icmp_ge (tgt := 155) C0.1 C0.2.1 dX3_greaterByNumbers_82 (by decide) (fun c_82 => absurd c_82 (nI_ge (by omega) (by omega))) (fun c_82 => ?_)
              have q1 : i < n := by omega
              have q2 : i < n2 := by omega
              refine lv_aload_n C0.1 C0.2.1 dX3_greaterByNumbers_85 rfl (lv_at hl 1 rfl) ?_
              refine gf_X3_15 C0 w hR rfl dX3_greaterByNumbers_86 ?_
              refine lv_if_eq (tgt := 113) C0.1 C0.2.1 dX3_greaterByNumbers_89 (by decide) (fun c_89 => ?_) (fun c_89 => ?_)
              · skip
                refine lv_iconst (v := 1) C0.1 C0.2.1 dX3_greaterByNumbers_113 (by decide) ?_
                refine lv_goto (tgt := 118) C0.1 C0.2.1 dX3_greaterByNumbers_114 (by decide) ?_
                refine lv_istore (lv' := [(6, .int 1), (4, .int 0), (0, .ref r), (1, .ref r2), (2, .int (nI (sp_mm n n2))), (3, .int (nI i))]) C0.1 C0.2.1 dX3_greaterByNumbers_118 hl (by decide) rfl (fun ls hl => ?_)
                refine lv_aload_n C0.1 C0.2.1 dX3_greaterByNumbers_120 rfl (lv_at hl 2 rfl) ?_
                refine gf_X3_9 C0 w hR rfl dX3_greaterByNumbers_121 ?_
                refine lv_iload_n C0.1 C0.2.1 dX3_greaterByNumbers_124 rfl (lv_at hl 5 rfl) ?_
                refine hv_iald C0 w hB (hn_in (by omega) (by decide)) dX3_greaterByNumbers_125 ?_
                have hc11 : (nI i).toNatClampNeg = i := nI_clamp (by omega)
                rw [hc11]
                refine lv_aload_n C0.1 C0.2.1 dX3_greaterByNumbers_126 rfl (lv_at hl 3 rfl) ?_
                refine gf_X3_9 C0 w hR2 rfl dX3_greaterByNumbers_127 ?_
                refine lv_iload_n C0.1 C0.2.1 dX3_greaterByNumbers_130 rfl (lv_at hl 5 rfl) ?_
                refine hv_iald C0 w hB2 (hn_in (by omega) (by decide)) dX3_greaterByNumbers_131 ?_
                have hc12 : (nI i).toNatClampNeg = i := nI_clamp (by omega)
                rw [hc12]
                refine lv_icmp_ge (tgt := 139) C0.1 C0.2.1 dX3_greaterByNumbers_132 (by decide) (fun c_132 => ?_) (fun c_132 => ?_)
                · skip
                  refine lv_iconst (v := 0) C0.1 C0.2.1 dX3_greaterByNumbers_139 (by decide) ?_
                  refine lv_iload C0.1 C0.2.1 dX3_greaterByNumbers_140 (lv_at hl 0 rfl) ?_
                  refine lv_icmp_ne (tgt := 149) C0.1 C0.2.1 dX3_greaterByNumbers_142 (by decide) (fun _ => ?_) (fun h9 => absurd h9 (by decide))
                  refine lv_iconst (v := 0) C0.1 C0.2.1 dX3_greaterByNumbers_149 (by decide) ?_
                  refine lv_istore (lv' := [(5, .int 0), (6, .int 1), (4, .int 0), (0, .ref r), (1, .ref r2), (2, .int (nI (sp_mm n n2))), (3, .int (nI i))]) C0.1 C0.2.1 dX3_greaterByNumbers_150 hl (by decide) rfl (fun ls hl => ?_)
                  refine lv_goto (tgt := 180) C0.1 C0.2.1 dX3_greaterByNumbers_152 (by decide) ?_
                  refine lv_iload C0.1 C0.2.1 dX3_greaterByNumbers_180 (lv_at hl 0 rfl) ?_
                  refine lv_if_eq (tgt := 189) C0.1 C0.2.1 dX3_greaterByNumbers_182 (by decide) (fun _ => ?_) (fun h9 => absurd h9 (by decide))
                  refine lv_iconst (v := 2) C0.1 C0.2.1 dX3_greaterByNumbers_189 (by decide) ?_
                  exact hv_iret C0 w hr hlk (⟨rfl, by rw [hres, sp_gr2, if_neg (fun h9 => c_45 (e1.mpr h9.1)), if_pos ⟨q1, q2⟩]; simp [decide_eq_true c_63, decide_eq_false c_70, decide_eq_true c_89, decide_eq_false (Int32.not_lt.mpr c_132)]⟩) dX3_greaterByNumbers_190
                · skip
                  refine lv_iconst (v := 1) C0.1 C0.2.1 dX3_greaterByNumbers_135 (by decide) ?_
                  refine lv_goto (tgt := 140) C0.1 C0.2.1 dX3_greaterByNumbers_136 (by decide) ?_
                  refine lv_iload C0.1 C0.2.1 dX3_greaterByNumbers_140 (lv_at hl 0 rfl) ?_
                  refine lv_icmp_ne (tgt := 149) C0.1 C0.2.1 dX3_greaterByNumbers_142 (by decide) (fun h9 => absurd h9 (by decide)) (fun _ => ?_)
                  refine lv_iconst (v := 1) C0.1 C0.2.1 dX3_greaterByNumbers_145 (by decide) ?_
                  refine lv_goto (tgt := 150) C0.1 C0.2.1 dX3_greaterByNumbers_146 (by decide) ?_
                  refine lv_istore (lv' := [(5, .int 1), (6, .int 1), (4, .int 0), (0, .ref r), (1, .ref r2), (2, .int (nI (sp_mm n n2))), (3, .int (nI i))]) C0.1 C0.2.1 dX3_greaterByNumbers_150 hl (by decide) rfl (fun ls hl => ?_)
                  refine lv_goto (tgt := 180) C0.1 C0.2.1 dX3_greaterByNumbers_152 (by decide) ?_
                  refine lv_iload C0.1 C0.2.1 dX3_greaterByNumbers_180 (lv_at hl 0 rfl) ?_
                  refine lv_if_eq (tgt := 189) C0.1 C0.2.1 dX3_greaterByNumbers_182 (by decide) (fun h9 => absurd h9 (by decide)) (fun _ => ?_)
                  refine lv_iconst (v := 1) C0.1 C0.2.1 dX3_greaterByNumbers_185 (by decide) ?_
                  refine lv_goto (tgt := 190) C0.1 C0.2.1 dX3_greaterByNumbers_186 (by decide) ?_
                  exact hv_iret C0 w hr hlk (⟨rfl, by rw [hres, sp_gr2, if_neg (fun h9 => c_45 (e1.mpr h9.1)), if_pos ⟨q1, q2⟩]; simp [decide_eq_true c_63, decide_eq_false c_70, decide_eq_true c_89, decide_eq_true (Int32.not_le.mp c_132)]⟩) dX3_greaterByNumbers_190
              · skip
                refine lv_aload_n C0.1 C0.2.1 dX3_greaterByNumbers_92 rfl (lv_at hl 1 rfl) ?_
                refine gf_X3_15 C0 w hR rfl dX3_greaterByNumbers_93 ?_
                refine lv_iconst (v := 1) C0.1 C0.2.1 dX3_greaterByNumbers_96 (by decide) ?_
                refine lv_icmp_eq (tgt := 113) C0.1 C0.2.1 dX3_greaterByNumbers_97 (by decide) (fun c_97 => ?_) (fun c_97 => ?_)
                · skip
                  refine lv_iconst (v := 1) C0.1 C0.2.1 dX3_greaterByNumbers_113 (by decide) ?_
                  refine lv_goto (tgt := 118) C0.1 C0.2.1 dX3_greaterByNumbers_114 (by decide) ?_
                  refine lv_istore (lv' := [(6, .int 1), (4, .int 0), (0, .ref r), (1, .ref r2), (2, .int (nI (sp_mm n n2))), (3, .int (nI i))]) C0.1 C0.2.1 dX3_greaterByNumbers_118 hl (by decide) rfl (fun ls hl => ?_)
                  refine lv_aload_n C0.1 C0.2.1 dX3_greaterByNumbers_120 rfl (lv_at hl 2 rfl) ?_
                  refine gf_X3_9 C0 w hR rfl dX3_greaterByNumbers_121 ?_
                  refine lv_iload_n C0.1 C0.2.1 dX3_greaterByNumbers_124 rfl (lv_at hl 5 rfl) ?_
                  refine hv_iald C0 w hB (hn_in (by omega) (by decide)) dX3_greaterByNumbers_125 ?_
                  have hc13 : (nI i).toNatClampNeg = i := nI_clamp (by omega)
                  rw [hc13]
                  refine lv_aload_n C0.1 C0.2.1 dX3_greaterByNumbers_126 rfl (lv_at hl 3 rfl) ?_
                  refine gf_X3_9 C0 w hR2 rfl dX3_greaterByNumbers_127 ?_
                  refine lv_iload_n C0.1 C0.2.1 dX3_greaterByNumbers_130 rfl (lv_at hl 5 rfl) ?_
                  refine hv_iald C0 w hB2 (hn_in (by omega) (by decide)) dX3_greaterByNumbers_131 ?_
                  have hc14 : (nI i).toNatClampNeg = i := nI_clamp (by omega)
                  rw [hc14]
                  refine lv_icmp_ge (tgt := 139) C0.1 C0.2.1 dX3_greaterByNumbers_132 (by decide) (fun c_132 => ?_) (fun c_132 => ?_)
                  · skip
                    refine lv_iconst (v := 0) C0.1 C0.2.1 dX3_greaterByNumbers_139 (by decide) ?_
                    refine lv_iload C0.1 C0.2.1 dX3_greaterByNumbers_140 (lv_at hl 0 rfl) ?_
                    refine lv_icmp_ne (tgt := 149) C0.1 C0.2.1 dX3_greaterByNumbers_142 (by decide) (fun _ => ?_) (fun h9 => absurd h9 (by decide))
                    refine lv_iconst (v := 0) C0.1 C0.2.1 dX3_greaterByNumbers_149 (by decide) ?_
                    refine lv_istore (lv' := [(5, .int 0), (6, .int 1), (4, .int 0), (0, .ref r), (1, .ref r2), (2, .int (nI (sp_mm n n2))), (3, .int (nI i))]) C0.1 C0.2.1 dX3_greaterByNumbers_150 hl (by decide) rfl (fun ls hl => ?_)
                    refine lv_goto (tgt := 180) C0.1 C0.2.1 dX3_greaterByNumbers_152 (by decide) ?_
                    refine lv_iload C0.1 C0.2.1 dX3_greaterByNumbers_180 (lv_at hl 0 rfl) ?_
                    refine lv_if_eq (tgt := 189) C0.1 C0.2.1 dX3_greaterByNumbers_182 (by decide) (fun _ => ?_) (fun h9 => absurd h9 (by decide))
                    refine lv_iconst (v := 2) C0.1 C0.2.1 dX3_greaterByNumbers_189 (by decide) ?_
                    exact hv_iret C0 w hr hlk (⟨rfl, by rw [hres, sp_gr2, if_neg (fun h9 => c_45 (e1.mpr h9.1)), if_pos ⟨q1, q2⟩]; simp [decide_eq_true c_63, decide_eq_false c_70, decide_eq_false c_89, decide_eq_true c_97, decide_eq_false (Int32.not_lt.mpr c_132)]⟩) dX3_greaterByNumbers_190
                  · skip
                    refine lv_iconst (v := 1) C0.1 C0.2.1 dX3_greaterByNumbers_135 (by decide) ?_
                    refine lv_goto (tgt := 140) C0.1 C0.2.1 dX3_greaterByNumbers_136 (by decide) ?_
                    refine lv_iload C0.1 C0.2.1 dX3_greaterByNumbers_140 (lv_at hl 0 rfl) ?_
                    refine lv_icmp_ne (tgt := 149) C0.1 C0.2.1 dX3_greaterByNumbers_142 (by decide) (fun h9 => absurd h9 (by decide)) (fun _ => ?_)
                    refine lv_iconst (v := 1) C0.1 C0.2.1 dX3_greaterByNumbers_145 (by decide) ?_
                    refine lv_goto (tgt := 150) C0.1 C0.2.1 dX3_greaterByNumbers_146 (by decide) ?_
                    refine lv_istore (lv' := [(5, .int 1), (6, .int 1), (4, .int 0), (0, .ref r), (1, .ref r2), (2, .int (nI (sp_mm n n2))), (3, .int (nI i))]) C0.1 C0.2.1 dX3_greaterByNumbers_150 hl (by decide) rfl (fun ls hl => ?_)
                    refine lv_goto (tgt := 180) C0.1 C0.2.1 dX3_greaterByNumbers_152 (by decide) ?_
                    refine lv_iload C0.1 C0.2.1 dX3_greaterByNumbers_180 (lv_at hl 0 rfl) ?_
                    refine lv_if_eq (tgt := 189) C0.1 C0.2.1 dX3_greaterByNumbers_182 (by decide) (fun h9 => absurd h9 (by decide)) (fun _ => ?_)
                    refine lv_iconst (v := 1) C0.1 C0.2.1 dX3_greaterByNumbers_185 (by decide) ?_
                    refine lv_goto (tgt := 190) C0.1 C0.2.1 dX3_greaterByNumbers_186 (by decide) ?_
                    exact hv_iret C0 w hr hlk (⟨rfl, by rw [hres, sp_gr2, if_neg (fun h9 => c_45 (e1.mpr h9.1)), if_pos ⟨q1, q2⟩]; simp [decide_eq_true c_63, decide_eq_false c_70, decide_eq_false c_89, decide_eq_true c_97, decide_eq_true (Int32.not_le.mp c_132)]⟩) dX3_greaterByNumbers_190
                · skip
                  refine lv_aload_n C0.1 C0.2.1 dX3_greaterByNumbers_100 rfl (lv_at hl 1 rfl) ?_
                  refine gf_X3_15 C0 w hR rfl dX3_greaterByNumbers_101 ?_
                  refine lv_iconst (v := 2) C0.1 C0.2.1 dX3_greaterByNumbers_104 (by decide) ?_
                  refine lv_icmp_ne (tgt := 117) C0.1 C0.2.1 dX3_greaterByNumbers_105 (by decide) (fun c_105 => ?_) (fun c_105 => ?_)
                  · skip
                    refine lv_iconst (v := 0) C0.1 C0.2.1 dX3_greaterByNumbers_117 (by decide) ?_
                    refine lv_istore (lv' := [(6, .int 0), (4, .int 0), (0, .ref r), (1, .ref r2), (2, .int (nI (sp_mm n n2))), (3, .int (nI i))]) C0.1 C0.2.1 dX3_greaterByNumbers_118 hl (by decide) rfl (fun ls hl => ?_)
                    refine lv_aload_n C0.1 C0.2.1 dX3_greaterByNumbers_120 rfl (lv_at hl 2 rfl) ?_
                    refine gf_X3_9 C0 w hR rfl dX3_greaterByNumbers_121 ?_
                    refine lv_iload_n C0.1 C0.2.1 dX3_greaterByNumbers_124 rfl (lv_at hl 5 rfl) ?_
                    refine hv_iald C0 w hB (hn_in (by omega) (by decide)) dX3_greaterByNumbers_125 ?_
                    have hc15 : (nI i).toNatClampNeg = i := nI_clamp (by omega)
                    rw [hc15]
                    refine lv_aload_n C0.1 C0.2.1 dX3_greaterByNumbers_126 rfl (lv_at hl 3 rfl) ?_
                    refine gf_X3_9 C0 w hR2 rfl dX3_greaterByNumbers_127 ?_
                    refine lv_iload_n C0.1 C0.2.1 dX3_greaterByNumbers_130 rfl (lv_at hl 5 rfl) ?_
                    refine hv_iald C0 w hB2 (hn_in (by omega) (by decide)) dX3_greaterByNumbers_131 ?_
                    have hc16 : (nI i).toNatClampNeg = i := nI_clamp (by omega)
                    rw [hc16]
                    refine lv_icmp_ge (tgt := 139) C0.1 C0.2.1 dX3_greaterByNumbers_132 (by decide) (fun c_132 => ?_) (fun c_132 => ?_)
                    · skip
                      refine lv_iconst (v := 0) C0.1 C0.2.1 dX3_greaterByNumbers_139 (by decide) ?_
                      refine lv_iload C0.1 C0.2.1 dX3_greaterByNumbers_140 (lv_at hl 0 rfl) ?_
                      refine lv_icmp_ne (tgt := 149) C0.1 C0.2.1 dX3_greaterByNumbers_142 (by decide) (fun h9 => absurd h9 (by decide)) (fun _ => ?_)
                      refine lv_iconst (v := 1) C0.1 C0.2.1 dX3_greaterByNumbers_145 (by decide) ?_
                      refine lv_goto (tgt := 150) C0.1 C0.2.1 dX3_greaterByNumbers_146 (by decide) ?_
                      refine lv_istore (lv' := [(5, .int 1), (6, .int 0), (4, .int 0), (0, .ref r), (1, .ref r2), (2, .int (nI (sp_mm n n2))), (3, .int (nI i))]) C0.1 C0.2.1 dX3_greaterByNumbers_150 hl (by decide) rfl (fun ls hl => ?_)
                      refine lv_goto (tgt := 180) C0.1 C0.2.1 dX3_greaterByNumbers_152 (by decide) ?_
                      refine lv_iload C0.1 C0.2.1 dX3_greaterByNumbers_180 (lv_at hl 0 rfl) ?_
                      refine lv_if_eq (tgt := 189) C0.1 C0.2.1 dX3_greaterByNumbers_182 (by decide) (fun h9 => absurd h9 (by decide)) (fun _ => ?_)
                      refine lv_iconst (v := 1) C0.1 C0.2.1 dX3_greaterByNumbers_185 (by decide) ?_
                      refine lv_goto (tgt := 190) C0.1 C0.2.1 dX3_greaterByNumbers_186 (by decide) ?_
                      exact hv_iret C0 w hr hlk (⟨rfl, by first | exact absurd c_105 c_63 | exact absurd c_63 c_105⟩) dX3_greaterByNumbers_190
                    · skip
                      refine lv_iconst (v := 1) C0.1 C0.2.1 dX3_greaterByNumbers_135 (by decide) ?_
                      refine lv_goto (tgt := 140) C0.1 C0.2.1 dX3_greaterByNumbers_136 (by decide) ?_
                      refine lv_iload C0.1 C0.2.1 dX3_greaterByNumbers_140 (lv_at hl 0 rfl) ?_
                      refine lv_icmp_ne (tgt := 149) C0.1 C0.2.1 dX3_greaterByNumbers_142 (by decide) (fun _ => ?_) (fun h9 => absurd h9 (by decide))
                      refine lv_iconst (v := 0) C0.1 C0.2.1 dX3_greaterByNumbers_149 (by decide) ?_
                      refine lv_istore (lv' := [(5, .int 0), (6, .int 0), (4, .int 0), (0, .ref r), (1, .ref r2), (2, .int (nI (sp_mm n n2))), (3, .int (nI i))]) C0.1 C0.2.1 dX3_greaterByNumbers_150 hl (by decide) rfl (fun ls hl => ?_)
                      refine lv_goto (tgt := 180) C0.1 C0.2.1 dX3_greaterByNumbers_152 (by decide) ?_
                      refine lv_iload C0.1 C0.2.1 dX3_greaterByNumbers_180 (lv_at hl 0 rfl) ?_
                      refine lv_if_eq (tgt := 189) C0.1 C0.2.1 dX3_greaterByNumbers_182 (by decide) (fun _ => ?_) (fun h9 => absurd h9 (by decide))
                      refine lv_iconst (v := 2) C0.1 C0.2.1 dX3_greaterByNumbers_189 (by decide) ?_
                      exact hv_iret C0 w hr hlk (⟨rfl, by first | exact absurd c_105 c_63 | exact absurd c_63 c_105⟩) dX3_greaterByNumbers_190
                  · skip
                    refine lv_iload C0.1 C0.2.1 dX3_greaterByNumbers_108 (lv_at hl 0 rfl) ?_
                    refine lv_if_ne (tgt := 117) C0.1 C0.2.1 dX3_greaterByNumbers_110 (by decide) (fun h9 => absurd h9 (by decide)) (fun _ => ?_)
                    refine lv_iconst (v := 1) C0.1 C0.2.1 dX3_greaterByNumbers_113 (by decide) ?_
                    refine lv_goto (tgt := 118) C0.1 C0.2.1 dX3_greaterByNumbers_114 (by decide) ?_
                    refine lv_istore (lv' := [(6, .int 1), (4, .int 0), (0, .ref r), (1, .ref r2), (2, .int (nI (sp_mm n n2))), (3, .int (nI i))]) C0.1 C0.2.1 dX3_greaterByNumbers_118 hl (by decide) rfl (fun ls hl => ?_)
                    refine lv_aload_n C0.1 C0.2.1 dX3_greaterByNumbers_120 rfl (lv_at hl 2 rfl) ?_
                    refine gf_X3_9 C0 w hR rfl dX3_greaterByNumbers_121 ?_
                    refine lv_iload_n C0.1 C0.2.1 dX3_greaterByNumbers_124 rfl (lv_at hl 5 rfl) ?_
                    refine hv_iald C0 w hB (hn_in (by omega) (by decide)) dX3_greaterByNumbers_125 ?_
                    have hc17 : (nI i).toNatClampNeg = i := nI_clamp (by omega)
                    rw [hc17]
                    refine lv_aload_n C0.1 C0.2.1 dX3_greaterByNumbers_126 rfl (lv_at hl 3 rfl) ?_
                    refine gf_X3_9 C0 w hR2 rfl dX3_greaterByNumbers_127 ?_
                    refine lv_iload_n C0.1 C0.2.1 dX3_greaterByNumbers_130 rfl (lv_at hl 5 rfl) ?_
                    refine hv_iald C0 w hB2 (hn_in (by omega) (by decide)) dX3_greaterByNumbers_131 ?_
                    have hc18 : (nI i).toNatClampNeg = i := nI_clamp (by omega)
                    rw [hc18]
                    refine lv_icmp_ge (tgt := 139) C0.1 C0.2.1 dX3_greaterByNumbers_132 (by decide) (fun c_132 => ?_) (fun c_132 => ?_)
                    · skip
                      refine lv_iconst (v := 0) C0.1 C0.2.1 dX3_greaterByNumbers_139 (by decide) ?_
                      refine lv_iload C0.1 C0.2.1 dX3_greaterByNumbers_140 (lv_at hl 0 rfl) ?_
                      refine lv_icmp_ne (tgt := 149) C0.1 C0.2.1 dX3_greaterByNumbers_142 (by decide) (fun _ => ?_) (fun h9 => absurd h9 (by decide))
                      refine lv_iconst (v := 0) C0.1 C0.2.1 dX3_greaterByNumbers_149 (by decide) ?_
                      refine lv_istore (lv' := [(5, .int 0), (6, .int 1), (4, .int 0), (0, .ref r), (1, .ref r2), (2, .int (nI (sp_mm n n2))), (3, .int (nI i))]) C0.1 C0.2.1 dX3_greaterByNumbers_150 hl (by decide) rfl (fun ls hl => ?_)
                      refine lv_goto (tgt := 180) C0.1 C0.2.1 dX3_greaterByNumbers_152 (by decide) ?_
                      refine lv_iload C0.1 C0.2.1 dX3_greaterByNumbers_180 (lv_at hl 0 rfl) ?_
                      refine lv_if_eq (tgt := 189) C0.1 C0.2.1 dX3_greaterByNumbers_182 (by decide) (fun _ => ?_) (fun h9 => absurd h9 (by decide))
                      refine lv_iconst (v := 2) C0.1 C0.2.1 dX3_greaterByNumbers_189 (by decide) ?_
                      exact hv_iret C0 w hr hlk (⟨rfl, by rw [hres, sp_gr2, if_neg (fun h9 => c_45 (e1.mpr h9.1)), if_pos ⟨q1, q2⟩]; simp [decide_eq_true c_63, decide_eq_false c_70, decide_eq_false c_89, decide_eq_false c_97, decide_eq_true c_105, decide_eq_false (Int32.not_lt.mpr c_132)]⟩) dX3_greaterByNumbers_190
                    · skip
                      refine lv_iconst (v := 1) C0.1 C0.2.1 dX3_greaterByNumbers_135 (by decide) ?_
                      refine lv_goto (tgt := 140) C0.1 C0.2.1 dX3_greaterByNumbers_136 (by decide) ?_
                      refine lv_iload C0.1 C0.2.1 dX3_greaterByNumbers_140 (lv_at hl 0 rfl) ?_
                      refine lv_icmp_ne (tgt := 149) C0.1 C0.2.1 dX3_greaterByNumbers_142 (by decide) (fun h9 => absurd h9 (by decide)) (fun _ => ?_)
                      refine lv_iconst (v := 1) C0.1 C0.2.1 dX3_greaterByNumbers_145 (by decide) ?_
                      refine lv_goto (tgt := 150) C0.1 C0.2.1 dX3_greaterByNumbers_146 (by decide) ?_
                      refine lv_istore (lv' := [(5, .int 1), (6, .int 1), (4, .int 0), (0, .ref r), (1, .ref r2), (2, .int (nI (sp_mm n n2))), (3, .int (nI i))]) C0.1 C0.2.1 dX3_greaterByNumbers_150 hl (by decide) rfl (fun ls hl => ?_)
                      refine lv_goto (tgt := 180) C0.1 C0.2.1 dX3_greaterByNumbers_152 (by decide) ?_
                      refine lv_iload C0.1 C0.2.1 dX3_greaterByNumbers_180 (lv_at hl 0 rfl) ?_
                      refine lv_if_eq (tgt := 189) C0.1 C0.2.1 dX3_greaterByNumbers_182 (by decide) (fun h9 => absurd h9 (by decide)) (fun _ => ?_)
                      refine lv_iconst (v := 1) C0.1 C0.2.1 dX3_greaterByNumbers_185 (by decide) ?_
                      refine lv_goto (tgt := 190) C0.1 C0.2.1 dX3_greaterByNumbers_186 (by decide) ?_
                      exact hv_iret C0 w hr hlk (⟨rfl, by rw [hres, sp_gr2, if_neg (fun h9 => c_45 (e1.mpr h9.1)), if_pos ⟨q1, q2⟩]; simp [decide_eq_true c_63, decide_eq_false c_70, decide_eq_false c_89, decide_eq_false c_97, decide_eq_true c_105, decide_eq_true (Int32.not_le.mp c_132)]⟩) dX3_greaterByNumbers_190
            · skip
              refine lv_iconst (v := 1) C0.1 C0.2.1 dX3_greaterByNumbers_73 (by decide) ?_
              refine lv_goto (tgt := 78) C0.1 C0.2.1 dX3_greaterByNumbers_74 (by decide) ?_
              refine lv_istore (lv' := [(4, .int 1), (0, .ref r), (1, .ref r2), (2, .int (nI (sp_mm n n2))), (3, .int (nI i))]) C0.1 C0.2.1 dX3_greaterByNumbers_78 hl (by decide) rfl (fun ls hl => ?_)
              refine lv_iload_n C0.1 C0.2.1 dX3_greaterByNumbers_80 rfl (lv_at hl 4 rfl) ?_
              refine lv_iload_n C0.1 C0.2.1 dX3_greaterByNumbers_81 rfl (lv_at hl 3 rfl) ?_
              refine lv_icmp_ge (tgt := 155) C0.1 C0.2.1 dX3_greaterByNumbers_82 (by decide) (fun c_82 => absurd c_82 (nI_ge (by omega) (by omega))) (fun c_82 => ?_)
              have q1 : i < n := by omega
              have q2 : i < n2 := by omega
              refine lv_aload_n C0.1 C0.2.1 dX3_greaterByNumbers_85 rfl (lv_at hl 1 rfl) ?_
              refine gf_X3_15 C0 w hR rfl dX3_greaterByNumbers_86 ?_
              refine lv_if_eq (tgt := 113) C0.1 C0.2.1 dX3_greaterByNumbers_89 (by decide) (fun c_89 => ?_) (fun c_89 => ?_)
              · skip
                refine lv_iconst (v := 1) C0.1 C0.2.1 dX3_greaterByNumbers_113 (by decide) ?_
                refine lv_goto (tgt := 118) C0.1 C0.2.1 dX3_greaterByNumbers_114 (by decide) ?_
                refine lv_istore (lv' := [(6, .int 1), (4, .int 1), (0, .ref r), (1, .ref r2), (2, .int (nI (sp_mm n n2))), (3, .int (nI i))]) C0.1 C0.2.1 dX3_greaterByNumbers_118 hl (by decide) rfl (fun ls hl => ?_)
                refine lv_aload_n C0.1 C0.2.1 dX3_greaterByNumbers_120 rfl (lv_at hl 2 rfl) ?_
                refine gf_X3_9 C0 w hR rfl dX3_greaterByNumbers_121 ?_
                refine lv_iload_n C0.1 C0.2.1 dX3_greaterByNumbers_124 rfl (lv_at hl 5 rfl) ?_
                refine hv_iald C0 w hB (hn_in (by omega) (by decide)) dX3_greaterByNumbers_125 ?_
                have hc19 : (nI i).toNatClampNeg = i := nI_clamp (by omega)
                rw [hc19]
                refine lv_aload_n C0.1 C0.2.1 dX3_greaterByNumbers_126 rfl (lv_at hl 3 rfl) ?_
                refine gf_X3_9 C0 w hR2 rfl dX3_greaterByNumbers_127 ?_
                refine lv_iload_n C0.1 C0.2.1 dX3_greaterByNumbers_130 rfl (lv_at hl 5 rfl) ?_
                refine hv_iald C0 w hB2 (hn_in (by omega) (by decide)) dX3_greaterByNumbers_131 ?_
                have hc20 : (nI i).toNatClampNeg = i := nI_clamp (by omega)
                rw [hc20]
                refine lv_icmp_ge (tgt := 139) C0.1 C0.2.1 dX3_greaterByNumbers_132 (by decide) (fun c_132 => ?_) (fun c_132 => ?_)
                · skip
                  refine lv_iconst (v := 0) C0.1 C0.2.1 dX3_greaterByNumbers_139 (by decide) ?_
                  refine lv_iload C0.1 C0.2.1 dX3_greaterByNumbers_140 (lv_at hl 0 rfl) ?_
                  refine lv_icmp_ne (tgt := 149) C0.1 C0.2.1 dX3_greaterByNumbers_142 (by decide) (fun _ => ?_) (fun h9 => absurd h9 (by decide))
                  refine lv_iconst (v := 0) C0.1 C0.2.1 dX3_greaterByNumbers_149 (by decide) ?_
                  refine lv_istore (lv' := [(5, .int 0), (6, .int 1), (4, .int 1), (0, .ref r), (1, .ref r2), (2, .int (nI (sp_mm n n2))), (3, .int (nI i))]) C0.1 C0.2.1 dX3_greaterByNumbers_150 hl (by decide) rfl (fun ls hl => ?_)
                  refine lv_goto (tgt := 180) C0.1 C0.2.1 dX3_greaterByNumbers_152 (by decide) ?_
                  refine lv_iload C0.1 C0.2.1 dX3_greaterByNumbers_180 (lv_at hl 0 rfl) ?_
                  refine lv_if_eq (tgt := 189) C0.1 C0.2.1 dX3_greaterByNumbers_182 (by decide) (fun _ => ?_) (fun h9 => absurd h9 (by decide))
                  refine lv_iconst (v := 2) C0.1 C0.2.1 dX3_greaterByNumbers_189 (by decide) ?_
                  exact hv_iret C0 w hr hlk (⟨rfl, by rw [hres, sp_gr2, if_neg (fun h9 => c_45 (e1.mpr h9.1)), if_pos ⟨q1, q2⟩]; simp [decide_eq_true c_63, decide_eq_true c_70, decide_eq_true c_89, decide_eq_false (Int32.not_lt.mpr c_132)]⟩) dX3_greaterByNumbers_190
                · skip
                  refine lv_iconst (v := 1) C0.1 C0.2.1 dX3_greaterByNumbers_135 (by decide) ?_
                  refine lv_goto (tgt := 140) C0.1 C0.2.1 dX3_greaterByNumbers_136 (by decide) ?_
                  refine lv_iload C0.1 C0.2.1 dX3_greaterByNumbers_140 (lv_at hl 0 rfl) ?_
                  refine lv_icmp_ne (tgt := 149) C0.1 C0.2.1 dX3_greaterByNumbers_142 (by decide) (fun h9 => absurd h9 (by decide)) (fun _ => ?_)
                  refine lv_iconst (v := 1) C0.1 C0.2.1 dX3_greaterByNumbers_145 (by decide) ?_
                  refine lv_goto (tgt := 150) C0.1 C0.2.1 dX3_greaterByNumbers_146 (by decide) ?_
                  refine lv_istore (lv' := [(5, .int 1), (6, .int 1), (4, .int 1), (0, .ref r), (1, .ref r2), (2, .int (nI (sp_mm n n2))), (3, .int (nI i))]) C0.1 C0.2.1 dX3_greaterByNumbers_150 hl (by decide) rfl (fun ls hl => ?_)
                  refine lv_goto (tgt := 180) C0.1 C0.2.1 dX3_greaterByNumbers_152 (by decide) ?_
                  refine lv_iload C0.1 C0.2.1 dX3_greaterByNumbers_180 (lv_at hl 0 rfl) ?_
                  refine lv_if_eq (tgt := 189) C0.1 C0.2.1 dX3_greaterByNumbers_182 (by decide) (fun h9 => absurd h9 (by decide)) (fun _ => ?_)
                  refine lv_iconst (v := 1) C0.1 C0.2.1 dX3_greaterByNumbers_185 (by decide) ?_
                  refine lv_goto (tgt := 190) C0.1 C0.2.1 dX3_greaterByNumbers_186 (by decide) ?_
                  exact hv_iret C0 w hr hlk (⟨rfl, by rw [hres, sp_gr2, if_neg (fun h9 => c_45 (e1.mpr h9.1)), if_pos ⟨q1, q2⟩]; simp [decide_eq_true c_63, decide_eq_true c_70, decide_eq_true c_89, decide_eq_true (Int32.not_le.mp c_132)]⟩) dX3_greaterByNumbers_190
              · skip
                refine lv_aload_n C0.1 C0.2.1 dX3_greaterByNumbers_92 rfl (lv_at hl 1 rfl) ?_
                refine gf_X3_15 C0 w hR rfl dX3_greaterByNumbers_93 ?_
                refine lv_iconst (v := 1) C0.1 C0.2.1 dX3_greaterByNumbers_96 (by decide) ?_
                refine lv_icmp_eq (tgt := 113) C0.1 C0.2.1 dX3_greaterByNumbers_97 (by decide) (fun c_97 => ?_) (fun c_97 => ?_)
                · skip
                  refine lv_iconst (v := 1) C0.1 C0.2.1 dX3_greaterByNumbers_113 (by decide) ?_
                  refine lv_goto (tgt := 118) C0.1 C0.2.1 dX3_greaterByNumbers_114 (by decide) ?_
                  refine lv_istore (lv' := [(6, .int 1), (4, .int 1), (0, .ref r), (1, .ref r2), (2, .int (nI (sp_mm n n2))), (3, .int (nI i))]) C0.1 C0.2.1 dX3_greaterByNumbers_118 hl (by decide) rfl (fun ls hl => ?_)
                  refine lv_aload_n C0.1 C0.2.1 dX3_greaterByNumbers_120 rfl (lv_at hl 2 rfl) ?_
                  refine gf_X3_9 C0 w hR rfl dX3_greaterByNumbers_121 ?_
                  refine lv_iload_n C0.1 C0.2.1 dX3_greaterByNumbers_124 rfl (lv_at hl 5 rfl) ?_
                  refine hv_iald C0 w hB (hn_in (by omega) (by decide)) dX3_greaterByNumbers_125 ?_
                  have hc21 : (nI i).toNatClampNeg = i := nI_clamp (by omega)
                  rw [hc21]
                  refine lv_aload_n C0.1 C0.2.1 dX3_greaterByNumbers_126 rfl (lv_at hl 3 rfl) ?_
                  refine gf_X3_9 C0 w hR2 rfl dX3_greaterByNumbers_127 ?_
                  refine lv_iload_n C0.1 C0.2.1 dX3_greaterByNumbers_130 rfl (lv_at hl 5 rfl) ?_
                  refine hv_iald C0 w hB2 (hn_in (by omega) (by decide)) dX3_greaterByNumbers_131 ?_
                  have hc22 : (nI i).toNatClampNeg = i := nI_clamp (by omega)
                  rw [hc22]
                  refine lv_icmp_ge (tgt := 139) C0.1 C0.2.1 dX3_greaterByNumbers_132 (by decide) (fun c_132 => ?_) (fun c_132 => ?_)
                  · skip
                    refine lv_iconst (v := 0) C0.1 C0.2.1 dX3_greaterByNumbers_139 (by decide) ?_
                    refine lv_iload C0.1 C0.2.1 dX3_greaterByNumbers_140 (lv_at hl 0 rfl) ?_
                    refine lv_icmp_ne (tgt := 149) C0.1 C0.2.1 dX3_greaterByNumbers_142 (by decide) (fun _ => ?_) (fun h9 => absurd h9 (by decide))
                    refine lv_iconst (v := 0) C0.1 C0.2.1 dX3_greaterByNumbers_149 (by decide) ?_
                    refine lv_istore (lv' := [(5, .int 0), (6, .int 1), (4, .int 1), (0, .ref r), (1, .ref r2), (2, .int (nI (sp_mm n n2))), (3, .int (nI i))]) C0.1 C0.2.1 dX3_greaterByNumbers_150 hl (by decide) rfl (fun ls hl => ?_)
                    refine lv_goto (tgt := 180) C0.1 C0.2.1 dX3_greaterByNumbers_152 (by decide) ?_
                    refine lv_iload C0.1 C0.2.1 dX3_greaterByNumbers_180 (lv_at hl 0 rfl) ?_
                    refine lv_if_eq (tgt := 189) C0.1 C0.2.1 dX3_greaterByNumbers_182 (by decide) (fun _ => ?_) (fun h9 => absurd h9 (by decide))
                    refine lv_iconst (v := 2) C0.1 C0.2.1 dX3_greaterByNumbers_189 (by decide) ?_
                    exact hv_iret C0 w hr hlk (⟨rfl, by rw [hres, sp_gr2, if_neg (fun h9 => c_45 (e1.mpr h9.1)), if_pos ⟨q1, q2⟩]; simp [decide_eq_true c_63, decide_eq_true c_70, decide_eq_false c_89, decide_eq_true c_97, decide_eq_false (Int32.not_lt.mpr c_132)]⟩) dX3_greaterByNumbers_190
                  · skip
                    refine lv_iconst (v := 1) C0.1 C0.2.1 dX3_greaterByNumbers_135 (by decide) ?_
                    refine lv_goto (tgt := 140) C0.1 C0.2.1 dX3_greaterByNumbers_136 (by decide) ?_
                    refine lv_iload C0.1 C0.2.1 dX3_greaterByNumbers_140 (lv_at hl 0 rfl) ?_
                    refine lv_icmp_ne (tgt := 149) C0.1 C0.2.1 dX3_greaterByNumbers_142 (by decide) (fun h9 => absurd h9 (by decide)) (fun _ => ?_)
                    refine lv_iconst (v := 1) C0.1 C0.2.1 dX3_greaterByNumbers_145 (by decide) ?_
                    refine lv_goto (tgt := 150) C0.1 C0.2.1 dX3_greaterByNumbers_146 (by decide) ?_
                    refine lv_istore (lv' := [(5, .int 1), (6, .int 1), (4, .int 1), (0, .ref r), (1, .ref r2), (2, .int (nI (sp_mm n n2))), (3, .int (nI i))]) C0.1 C0.2.1 dX3_greaterByNumbers_150 hl (by decide) rfl (fun ls hl => ?_)
                    refine lv_goto (tgt := 180) C0.1 C0.2.1 dX3_greaterByNumbers_152 (by decide) ?_
                    refine lv_iload C0.1 C0.2.1 dX3_greaterByNumbers_180 (lv_at hl 0 rfl) ?_
                    refine lv_if_eq (tgt := 189) C0.1 C0.2.1 dX3_greaterByNumbers_182 (by decide) (fun h9 => absurd h9 (by decide)) (fun _ => ?_)
                    refine lv_iconst (v := 1) C0.1 C0.2.1 dX3_greaterByNumbers_185 (by decide) ?_
                    refine lv_goto (tgt := 190) C0.1 C0.2.1 dX3_greaterByNumbers_186 (by decide) ?_
                    exact hv_iret C0 w hr hlk (⟨rfl, by rw [hres, sp_gr2, if_neg (fun h9 => c_45 (e1.mpr h9.1)), if_pos ⟨q1, q2⟩]; simp [decide_eq_true c_63, decide_eq_true c_70, decide_eq_false c_89, decide_eq_true c_97, decide_eq_true (Int32.not_le.mp c_132)]⟩) dX3_greaterByNumbers_190
                · skip
                  refine lv_aload_n C0.1 C0.2.1 dX3_greaterByNumbers_100 rfl (lv_at hl 1 rfl) ?_
                  refine gf_X3_15 C0 w hR rfl dX3_greaterByNumbers_101 ?_
                  refine lv_iconst (v := 2) C0.1 C0.2.1 dX3_greaterByNumbers_104 (by decide) ?_
                  refine lv_icmp_ne (tgt := 117) C0.1 C0.2.1 dX3_greaterByNumbers_105 (by decide) (fun c_105 => ?_) (fun c_105 => ?_)
                  · skip
                    refine lv_iconst (v := 0) C0.1 C0.2.1 dX3_greaterByNumbers_117 (by decide) ?_
                    refine lv_istore (lv' := [(6, .int 0), (4, .int 1), (0, .ref r), (1, .ref r2), (2, .int (nI (sp_mm n n2))), (3, .int (nI i))]) C0.1 C0.2.1 dX3_greaterByNumbers_118 hl (by decide) rfl (fun ls hl => ?_)
                    refine lv_aload_n C0.1 C0.2.1 dX3_greaterByNumbers_120 rfl (lv_at hl 2 rfl) ?_
                    refine gf_X3_9 C0 w hR rfl dX3_greaterByNumbers_121 ?_
                    refine lv_iload_n C0.1 C0.2.1 dX3_greaterByNumbers_124 rfl (lv_at hl 5 rfl) ?_
                    refine hv_iald C0 w hB (hn_in (by omega) (by decide)) dX3_greaterByNumbers_125 ?_
                    have hc23 : (nI i).toNatClampNeg = i := nI_clamp (by omega)
                    rw [hc23]
                    refine lv_aload_n C0.1 C0.2.1 dX3_greaterByNumbers_126 rfl (lv_at hl 3 rfl) ?_
                    refine gf_X3_9 C0 w hR2 rfl dX3_greaterByNumbers_127 ?_
                    refine lv_iload_n C0.1 C0.2.1 dX3_greaterByNumbers_130 rfl (lv_at hl 5 rfl) ?_
                    refine hv_iald C0 w hB2 (hn_in (by omega) (by decide)) dX3_greaterByNumbers_131 ?_
                    have hc24 : (nI i).toNatClampNeg = i := nI_clamp (by omega)
                    rw [hc24]
                    refine lv_icmp_ge (tgt := 139) C0.1 C0.2.1 dX3_greaterByNumbers_132 (by decide) (fun c_132 => ?_) (fun c_132 => ?_)
                    · skip
                      refine lv_iconst (v := 0) C0.1 C0.2.1 dX3_greaterByNumbers_139 (by decide) ?_
                      refine lv_iload C0.1 C0.2.1 dX3_greaterByNumbers_140 (lv_at hl 0 rfl) ?_
                      refine lv_icmp_ne (tgt := 149) C0.1 C0.2.1 dX3_greaterByNumbers_142 (by decide) (fun h9 => absurd h9 (by decide)) (fun _ => ?_)
                      refine lv_iconst (v := 1) C0.1 C0.2.1 dX3_greaterByNumbers_145 (by decide) ?_
                      refine lv_goto (tgt := 150) C0.1 C0.2.1 dX3_greaterByNumbers_146 (by decide) ?_
                      refine lv_istore (lv' := [(5, .int 1), (6, .int 0), (4, .int 1), (0, .ref r), (1, .ref r2), (2, .int (nI (sp_mm n n2))), (3, .int (nI i))]) C0.1 C0.2.1 dX3_greaterByNumbers_150 hl (by decide) rfl (fun ls hl => ?_)
                      refine lv_goto (tgt := 180) C0.1 C0.2.1 dX3_greaterByNumbers_152 (by decide) ?_
                      refine lv_iload C0.1 C0.2.1 dX3_greaterByNumbers_180 (lv_at hl 0 rfl) ?_
                      refine lv_if_eq (tgt := 189) C0.1 C0.2.1 dX3_greaterByNumbers_182 (by decide) (fun h9 => absurd h9 (by decide)) (fun _ => ?_)
                      refine lv_iconst (v := 1) C0.1 C0.2.1 dX3_greaterByNumbers_185 (by decide) ?_
                      refine lv_goto (tgt := 190) C0.1 C0.2.1 dX3_greaterByNumbers_186 (by decide) ?_
                      exact hv_iret C0 w hr hlk (⟨rfl, by first | exact absurd c_105 c_63 | exact absurd c_63 c_105⟩) dX3_greaterByNumbers_190
                    · skip
                      refine lv_iconst (v := 1) C0.1 C0.2.1 dX3_greaterByNumbers_135 (by decide) ?_
                      refine lv_goto (tgt := 140) C0.1 C0.2.1 dX3_greaterByNumbers_136 (by decide) ?_
                      refine lv_iload C0.1 C0.2.1 dX3_greaterByNumbers_140 (lv_at hl 0 rfl) ?_
                      refine lv_icmp_ne (tgt := 149) C0.1 C0.2.1 dX3_greaterByNumbers_142 (by decide) (fun _ => ?_) (fun h9 => absurd h9 (by decide))
                      refine lv_iconst (v := 0) C0.1 C0.2.1 dX3_greaterByNumbers_149 (by decide) ?_
                      refine lv_istore (lv' := [(5, .int 0), (6, .int 0), (4, .int 1), (0, .ref r), (1, .ref r2), (2, .int (nI (sp_mm n n2))), (3, .int (nI i))]) C0.1 C0.2.1 dX3_greaterByNumbers_150 hl (by decide) rfl (fun ls hl => ?_)
                      refine lv_goto (tgt := 180) C0.1 C0.2.1 dX3_greaterByNumbers_152 (by decide) ?_
                      refine lv_iload C0.1 C0.2.1 dX3_greaterByNumbers_180 (lv_at hl 0 rfl) ?_
                      refine lv_if_eq (tgt := 189) C0.1 C0.2.1 dX3_greaterByNumbers_182 (by decide) (fun _ => ?_) (fun h9 => absurd h9 (by decide))
                      refine lv_iconst (v := 2) C0.1 C0.2.1 dX3_greaterByNumbers_189 (by decide) ?_
                      exact hv_iret C0 w hr hlk (⟨rfl, by first | exact absurd c_105 c_63 | exact absurd c_63 c_105⟩) dX3_greaterByNumbers_190
                  · skip
                    refine lv_iload C0.1 C0.2.1 dX3_greaterByNumbers_108 (lv_at hl 0 rfl) ?_
                    refine lv_if_ne (tgt := 117) C0.1 C0.2.1 dX3_greaterByNumbers_110 (by decide) (fun _ => ?_) (fun h9 => absurd h9 (by decide))
                    refine lv_iconst (v := 0) C0.1 C0.2.1 dX3_greaterByNumbers_117 (by decide) ?_
                    refine lv_istore (lv' := [(6, .int 0), (4, .int 1), (0, .ref r), (1, .ref r2), (2, .int (nI (sp_mm n n2))), (3, .int (nI i))]) C0.1 C0.2.1 dX3_greaterByNumbers_118 hl (by decide) rfl (fun ls hl => ?_)
                    refine lv_aload_n C0.1 C0.2.1 dX3_greaterByNumbers_120 rfl (lv_at hl 2 rfl) ?_
                    refine gf_X3_9 C0 w hR rfl dX3_greaterByNumbers_121 ?_
                    refine lv_iload_n C0.1 C0.2.1 dX3_greaterByNumbers_124 rfl (lv_at hl 5 rfl) ?_
                    refine hv_iald C0 w hB (hn_in (by omega) (by decide)) dX3_greaterByNumbers_125 ?_
                    have hc25 : (nI i).toNatClampNeg = i := nI_clamp (by omega)
                    rw [hc25]
                    refine lv_aload_n C0.1 C0.2.1 dX3_greaterByNumbers_126 rfl (lv_at hl 3 rfl) ?_
                    refine gf_X3_9 C0 w hR2 rfl dX3_greaterByNumbers_127 ?_
                    refine lv_iload_n C0.1 C0.2.1 dX3_greaterByNumbers_130 rfl (lv_at hl 5 rfl) ?_
                    refine hv_iald C0 w hB2 (hn_in (by omega) (by decide)) dX3_greaterByNumbers_131 ?_
                    have hc26 : (nI i).toNatClampNeg = i := nI_clamp (by omega)
                    rw [hc26]
                    refine lv_icmp_ge (tgt := 139) C0.1 C0.2.1 dX3_greaterByNumbers_132 (by decide) (fun c_132 => ?_) (fun c_132 => ?_)
                    · skip
                      refine lv_iconst (v := 0) C0.1 C0.2.1 dX3_greaterByNumbers_139 (by decide) ?_
                      refine lv_iload C0.1 C0.2.1 dX3_greaterByNumbers_140 (lv_at hl 0 rfl) ?_
                      refine lv_icmp_ne (tgt := 149) C0.1 C0.2.1 dX3_greaterByNumbers_142 (by decide) (fun h9 => absurd h9 (by decide)) (fun _ => ?_)
                      refine lv_iconst (v := 1) C0.1 C0.2.1 dX3_greaterByNumbers_145 (by decide) ?_
                      refine lv_goto (tgt := 150) C0.1 C0.2.1 dX3_greaterByNumbers_146 (by decide) ?_
                      refine lv_istore (lv' := [(5, .int 1), (6, .int 0), (4, .int 1), (0, .ref r), (1, .ref r2), (2, .int (nI (sp_mm n n2))), (3, .int (nI i))]) C0.1 C0.2.1 dX3_greaterByNumbers_150 hl (by decide) rfl (fun ls hl => ?_)
                      refine lv_goto (tgt := 180) C0.1 C0.2.1 dX3_greaterByNumbers_152 (by decide) ?_
                      refine lv_iload C0.1 C0.2.1 dX3_greaterByNumbers_180 (lv_at hl 0 rfl) ?_
                      refine lv_if_eq (tgt := 189) C0.1 C0.2.1 dX3_greaterByNumbers_182 (by decide) (fun h9 => absurd h9 (by decide)) (fun _ => ?_)
                      refine lv_iconst (v := 1) C0.1 C0.2.1 dX3_greaterByNumbers_185 (by decide) ?_
                      refine lv_goto (tgt := 190) C0.1 C0.2.1 dX3_greaterByNumbers_186 (by decide) ?_
                      exact hv_iret C0 w hr hlk (⟨rfl, by rw [hres, sp_gr2, if_neg (fun h9 => c_45 (e1.mpr h9.1)), if_pos ⟨q1, q2⟩]; simp [decide_eq_true c_63, decide_eq_true c_70, decide_eq_false c_89, decide_eq_false c_97, decide_eq_true c_105, decide_eq_false (Int32.not_lt.mpr c_132)]⟩) dX3_greaterByNumbers_190
                    · skip
                      refine lv_iconst (v := 1) C0.1 C0.2.1 dX3_greaterByNumbers_135 (by decide) ?_
                      refine lv_goto (tgt := 140) C0.1 C0.2.1 dX3_greaterByNumbers_136 (by decide) ?_
                      refine lv_iload C0.1 C0.2.1 dX3_greaterByNumbers_140 (lv_at hl 0 rfl) ?_
                      refine lv_icmp_ne (tgt := 149) C0.1 C0.2.1 dX3_greaterByNumbers_142 (by decide) (fun _ => ?_) (fun h9 => absurd h9 (by decide))
                      refine lv_iconst (v := 0) C0.1 C0.2.1 dX3_greaterByNumbers_149 (by decide) ?_
                      refine lv_istore (lv' := [(5, .int 0), (6, .int 0), (4, .int 1), (0, .ref r), (1, .ref r2), (2, .int (nI (sp_mm n n2))), (3, .int (nI i))]) C0.1 C0.2.1 dX3_greaterByNumbers_150 hl (by decide) rfl (fun ls hl => ?_)
                      refine lv_goto (tgt := 180) C0.1 C0.2.1 dX3_greaterByNumbers_152 (by decide) ?_
                      refine lv_iload C0.1 C0.2.1 dX3_greaterByNumbers_180 (lv_at hl 0 rfl) ?_
                      refine lv_if_eq (tgt := 189) C0.1 C0.2.1 dX3_greaterByNumbers_182 (by decide) (fun _ => ?_) (fun h9 => absurd h9 (by decide))
                      refine lv_iconst (v := 2) C0.1 C0.2.1 dX3_greaterByNumbers_189 (by decide) ?_
                      exact hv_iret C0 w hr hlk (⟨rfl, by rw [hres, sp_gr2, if_neg (fun h9 => c_45 (e1.mpr h9.1)), if_pos ⟨q1, q2⟩]; simp [decide_eq_true c_63, decide_eq_true c_70, decide_eq_false c_89, decide_eq_false c_97, decide_eq_true c_105, decide_eq_true (Int32.not_le.mp c_132)]⟩) dX3_greaterByNumbers_190
        · skip
          refine lv_iload_n C0.1 C0.2.1 dX3_greaterByNumbers_48 rfl (lv_at hl 3 rfl) ?_
          refine lv_aload_n C0.1 C0.2.1 dX3_greaterByNumbers_49 rfl (lv_at hl 1 rfl) ?_
          refine gf_X3_19 C0 w hR2 rfl dX3_greaterByNumbers_50 ?_
          refine lv_icmp_ne (tgt := 58) C0.1 C0.2.1 dX3_greaterByNumbers_53 (by decide) (fun c_53 => ?_) (fun c_53 => ?_)
          · skip
            refine lv_aload_n C0.1 C0.2.1 dX3_greaterByNumbers_58 rfl (lv_at hl 0 rfl) ?_
            refine gf_X3_15 C0 w hR rfl dX3_greaterByNumbers_59 ?_
            refine lv_iconst (v := 2) C0.1 C0.2.1 dX3_greaterByNumbers_62 (by decide) ?_
            refine lv_icmp_ne (tgt := 77) C0.1 C0.2.1 dX3_greaterByNumbers_63 (by decide) (fun c_63 => ?_) (fun c_63 => ?_)
            · skip
              refine lv_iconst (v := 0) C0.1 C0.2.1 dX3_greaterByNumbers_77 (by decide) ?_
              refine lv_istore (lv' := [(4, .int 0), (0, .ref r), (1, .ref r2), (2, .int (nI (sp_mm n n2))), (3, .int (nI i))]) C0.1 C0.2.1 dX3_greaterByNumbers_78 hl (by decide) rfl (fun ls hl => ?_)
              refine lv_iload_n C0.1 C0.2.1 dX3_greaterByNumbers_80 rfl (lv_at hl 4 rfl) ?_
              refine lv_iload_n C0.1 C0.2.1 dX3_greaterByNumbers_81 rfl (lv_at hl 3 rfl) ?_
              refine lv_icmp_ge (tgt := 155) C0.1 C0.2.1 dX3_greaterByNumbers_82 (by decide) (fun c_82 => absurd c_82 (nI_ge (by omega) (by omega))) (fun c_82 => ?_)
              have q1 : i < n := by omega
              have q2 : i < n2 := by omega
              refine lv_aload_n C0.1 C0.2.1 dX3_greaterByNumbers_85 rfl (lv_at hl 1 rfl) ?_
              refine gf_X3_15 C0 w hR rfl dX3_greaterByNumbers_86 ?_
              refine lv_if_eq (tgt := 113) C0.1 C0.2.1 dX3_greaterByNumbers_89 (by decide) (fun c_89 => ?_) (fun c_89 => ?_)
              · skip
                refine lv_iconst (v := 1) C0.1 C0.2.1 dX3_greaterByNumbers_113 (by decide) ?_
                refine lv_goto (tgt := 118) C0.1 C0.2.1 dX3_greaterByNumbers_114 (by decide) ?_
                refine lv_istore (lv' := [(6, .int 1), (4, .int 0), (0, .ref r), (1, .ref r2), (2, .int (nI (sp_mm n n2))), (3, .int (nI i))]) C0.1 C0.2.1 dX3_greaterByNumbers_118 hl (by decide) rfl (fun ls hl => ?_)
                refine lv_aload_n C0.1 C0.2.1 dX3_greaterByNumbers_120 rfl (lv_at hl 2 rfl) ?_
                refine gf_X3_9 C0 w hR rfl dX3_greaterByNumbers_121 ?_
                refine lv_iload_n C0.1 C0.2.1 dX3_greaterByNumbers_124 rfl (lv_at hl 5 rfl) ?_
                refine hv_iald C0 w hB (hn_in (by omega) (by decide)) dX3_greaterByNumbers_125 ?_
                have hc27 : (nI i).toNatClampNeg = i := nI_clamp (by omega)
                rw [hc27]
                refine lv_aload_n C0.1 C0.2.1 dX3_greaterByNumbers_126 rfl (lv_at hl 3 rfl) ?_
                refine gf_X3_9 C0 w hR2 rfl dX3_greaterByNumbers_127 ?_
                refine lv_iload_n C0.1 C0.2.1 dX3_greaterByNumbers_130 rfl (lv_at hl 5 rfl) ?_
                refine hv_iald C0 w hB2 (hn_in (by omega) (by decide)) dX3_greaterByNumbers_131 ?_
                have hc28 : (nI i).toNatClampNeg = i := nI_clamp (by omega)
                rw [hc28]
                refine lv_icmp_ge (tgt := 139) C0.1 C0.2.1 dX3_greaterByNumbers_132 (by decide) (fun c_132 => ?_) (fun c_132 => ?_)
                · skip
                  refine lv_iconst (v := 0) C0.1 C0.2.1 dX3_greaterByNumbers_139 (by decide) ?_
                  refine lv_iload C0.1 C0.2.1 dX3_greaterByNumbers_140 (lv_at hl 0 rfl) ?_
                  refine lv_icmp_ne (tgt := 149) C0.1 C0.2.1 dX3_greaterByNumbers_142 (by decide) (fun _ => ?_) (fun h9 => absurd h9 (by decide))
                  refine lv_iconst (v := 0) C0.1 C0.2.1 dX3_greaterByNumbers_149 (by decide) ?_
                  refine lv_istore (lv' := [(5, .int 0), (6, .int 1), (4, .int 0), (0, .ref r), (1, .ref r2), (2, .int (nI (sp_mm n n2))), (3, .int (nI i))]) C0.1 C0.2.1 dX3_greaterByNumbers_150 hl (by decide) rfl (fun ls hl => ?_)
                  refine lv_goto (tgt := 180) C0.1 C0.2.1 dX3_greaterByNumbers_152 (by decide) ?_
                  refine lv_iload C0.1 C0.2.1 dX3_greaterByNumbers_180 (lv_at hl 0 rfl) ?_
                  refine lv_if_eq (tgt := 189) C0.1 C0.2.1 dX3_greaterByNumbers_182 (by decide) (fun _ => ?_) (fun h9 => absurd h9 (by decide))
                  refine lv_iconst (v := 2) C0.1 C0.2.1 dX3_greaterByNumbers_189 (by decide) ?_
                  exact hv_iret C0 w hr hlk (⟨rfl, by rw [hres, sp_gr2, if_neg (fun h9 => c_53 (e2.mpr h9.2)), if_pos ⟨q1, q2⟩]; simp [decide_eq_false c_63, decide_eq_true c_89, decide_eq_false (Int32.not_lt.mpr c_132)]⟩) dX3_greaterByNumbers_190
                · skip
                  refine lv_iconst (v := 1) C0.1 C0.2.1 dX3_greaterByNumbers_135 (by decide) ?_
                  refine lv_goto (tgt := 140) C0.1 C0.2.1 dX3_greaterByNumbers_136 (by decide) ?_
                  refine lv_iload C0.1 C0.2.1 dX3_greaterByNumbers_140 (lv_at hl 0 rfl) ?_
                  refine lv_icmp_ne (tgt := 149) C0.1 C0.2.1 dX3_greaterByNumbers_142 (by decide) (fun h9 => absurd h9 (by decide)) (fun _ => ?_)
                  refine lv_iconst (v := 1) C0.1 C0.2.1 dX3_greaterByNumbers_145 (by decide) ?_
                  refine lv_goto (tgt := 150) C0.1 C0.2.1 dX3_greaterByNumbers_146 (by decide) ?_
                  refine lv_istore (lv' := [(5, .int 1), (6, .int 1), (4, .int 0), (0, .ref r), (1, .ref r2), (2, .int (nI (sp_mm n n2))), (3, .int (nI i))]) C0.1 C0.2.1 dX3_greaterByNumbers_150 hl (by decide) rfl (fun ls hl => ?_)
                  refine lv_goto (tgt := 180) C0.1 C0.2.1 dX3_greaterByNumbers_152 (by decide) ?_
                  refine lv_iload C0.1 C0.2.1 dX3_greaterByNumbers_180 (lv_at hl 0 rfl) ?_
                  refine lv_if_eq (tgt := 189) C0.1 C0.2.1 dX3_greaterByNumbers_182 (by decide) (fun h9 => absurd h9 (by decide)) (fun _ => ?_)
                  refine lv_iconst (v := 1) C0.1 C0.2.1 dX3_greaterByNumbers_185 (by decide) ?_
                  refine lv_goto (tgt := 190) C0.1 C0.2.1 dX3_greaterByNumbers_186 (by decide) ?_
                  exact hv_iret C0 w hr hlk (⟨rfl, by rw [hres, sp_gr2, if_neg (fun h9 => c_53 (e2.mpr h9.2)), if_pos ⟨q1, q2⟩]; simp [decide_eq_false c_63, decide_eq_true c_89, decide_eq_true (Int32.not_le.mp c_132)]⟩) dX3_greaterByNumbers_190
              · skip
                refine lv_aload_n C0.1 C0.2.1 dX3_greaterByNumbers_92 rfl (lv_at hl 1 rfl) ?_
                refine gf_X3_15 C0 w hR rfl dX3_greaterByNumbers_93 ?_
                refine lv_iconst (v := 1) C0.1 C0.2.1 dX3_greaterByNumbers_96 (by decide) ?_
                refine lv_icmp_eq (tgt := 113) C0.1 C0.2.1 dX3_greaterByNumbers_97 (by decide) (fun c_97 => ?_) (fun c_97 => ?_)
                · skip
                  refine lv_iconst (v := 1) C0.1 C0.2.1 dX3_greaterByNumbers_113 (by decide) ?_
                  refine lv_goto (tgt := 118) C0.1 C0.2.1 dX3_greaterByNumbers_114 (by decide) ?_
                  refine lv_istore (lv' := [(6, .int 1), (4, .int 0), (0, .ref r), (1, .ref r2), (2, .int (nI (sp_mm n n2))), (3, .int (nI i))]) C0.1 C0.2.1 dX3_greaterByNumbers_118 hl (by decide) rfl (fun ls hl => ?_)
                  refine lv_aload_n C0.1 C0.2.1 dX3_greaterByNumbers_120 rfl (lv_at hl 2 rfl) ?_
                  refine gf_X3_9 C0 w hR rfl dX3_greaterByNumbers_121 ?_
                  refine lv_iload_n C0.1 C0.2.1 dX3_greaterByNumbers_124 rfl (lv_at hl 5 rfl) ?_
                  refine hv_iald C0 w hB (hn_in (by omega) (by decide)) dX3_greaterByNumbers_125 ?_
                  have hc29 : (nI i).toNatClampNeg = i := nI_clamp (by omega)
                  rw [hc29]
                  refine lv_aload_n C0.1 C0.2.1 dX3_greaterByNumbers_126 rfl (lv_at hl 3 rfl) ?_
                  refine gf_X3_9 C0 w hR2 rfl dX3_greaterByNumbers_127 ?_
                  refine lv_iload_n C0.1 C0.2.1 dX3_greaterByNumbers_130 rfl (lv_at hl 5 rfl) ?_
                  refine hv_iald C0 w hB2 (hn_in (by omega) (by decide)) dX3_greaterByNumbers_131 ?_
                  have hc30 : (nI i).toNatClampNeg = i := nI_clamp (by omega)
                  rw [hc30]
                  refine lv_icmp_ge (tgt := 139) C0.1 C0.2.1 dX3_greaterByNumbers_132 (by decide) (fun c_132 => ?_) (fun c_132 => ?_)
                  · skip
                    refine lv_iconst (v := 0) C0.1 C0.2.1 dX3_greaterByNumbers_139 (by decide) ?_
                    refine lv_iload C0.1 C0.2.1 dX3_greaterByNumbers_140 (lv_at hl 0 rfl) ?_
                    refine lv_icmp_ne (tgt := 149) C0.1 C0.2.1 dX3_greaterByNumbers_142 (by decide) (fun _ => ?_) (fun h9 => absurd h9 (by decide))
                    refine lv_iconst (v := 0) C0.1 C0.2.1 dX3_greaterByNumbers_149 (by decide) ?_
                    refine lv_istore (lv' := [(5, .int 0), (6, .int 1), (4, .int 0), (0, .ref r), (1, .ref r2), (2, .int (nI (sp_mm n n2))), (3, .int (nI i))]) C0.1 C0.2.1 dX3_greaterByNumbers_150 hl (by decide) rfl (fun ls hl => ?_)
                    refine lv_goto (tgt := 180) C0.1 C0.2.1 dX3_greaterByNumbers_152 (by decide) ?_
                    refine lv_iload C0.1 C0.2.1 dX3_greaterByNumbers_180 (lv_at hl 0 rfl) ?_
                    refine lv_if_eq (tgt := 189) C0.1 C0.2.1 dX3_greaterByNumbers_182 (by decide) (fun _ => ?_) (fun h9 => absurd h9 (by decide))
                    refine lv_iconst (v := 2) C0.1 C0.2.1 dX3_greaterByNumbers_189 (by decide) ?_
                    exact hv_iret C0 w hr hlk (⟨rfl, by rw [hres, sp_gr2, if_neg (fun h9 => c_53 (e2.mpr h9.2)), if_pos ⟨q1, q2⟩]; simp [decide_eq_false c_63, decide_eq_false c_89, decide_eq_true c_97, decide_eq_false (Int32.not_lt.mpr c_132)]⟩) dX3_greaterByNumbers_190
                  · skip
                    refine lv_iconst (v := 1) C0.1 C0.2.1 dX3_greaterByNumbers_135 (by decide) ?_
                    refine lv_goto (tgt := 140) C0.1 C0.2.1 dX3_greaterByNumbers_136 (by decide) ?_
                    refine lv_iload C0.1 C0.2.1 dX3_greaterByNumbers_140 (lv_at hl 0 rfl) ?_
                    refine lv_icmp_ne (tgt := 149) C0.1 C0.2.1 dX3_greaterByNumbers_142 (by decide) (fun h9 => absurd h9 (by decide)) (fun _ => ?_)
                    refine lv_iconst (v := 1) C0.1 C0.2.1 dX3_greaterByNumbers_145 (by decide) ?_
                    refine lv_goto (tgt := 150) C0.1 C0.2.1 dX3_greaterByNumbers_146 (by decide) ?_
                    refine lv_istore (lv' := [(5, .int 1), (6, .int 1), (4, .int 0), (0, .ref r), (1, .ref r2), (2, .int (nI (sp_mm n n2))), (3, .int (nI i))]) C0.1 C0.2.1 dX3_greaterByNumbers_150 hl (by decide) rfl (fun ls hl => ?_)
                    refine lv_goto (tgt := 180) C0.1 C0.2.1 dX3_greaterByNumbers_152 (by decide) ?_
                    refine lv_iload C0.1 C0.2.1 dX3_greaterByNumbers_180 (lv_at hl 0 rfl) ?_
                    refine lv_if_eq (tgt := 189) C0.1 C0.2.1 dX3_greaterByNumbers_182 (by decide) (fun h9 => absurd h9 (by decide)) (fun _ => ?_)
                    refine lv_iconst (v := 1) C0.1 C0.2.1 dX3_greaterByNumbers_185 (by decide) ?_
                    refine lv_goto (tgt := 190) C0.1 C0.2.1 dX3_greaterByNumbers_186 (by decide) ?_
                    exact hv_iret C0 w hr hlk (⟨rfl, by rw [hres, sp_gr2, if_neg (fun h9 => c_53 (e2.mpr h9.2)), if_pos ⟨q1, q2⟩]; simp [decide_eq_false c_63, decide_eq_false c_89, decide_eq_true c_97, decide_eq_true (Int32.not_le.mp c_132)]⟩) dX3_greaterByNumbers_190
                · skip
                  refine lv_aload_n C0.1 C0.2.1 dX3_greaterByNumbers_100 rfl (lv_at hl 1 rfl) ?_
                  refine gf_X3_15 C0 w hR rfl dX3_greaterByNumbers_101 ?_
                  refine lv_iconst (v := 2) C0.1 C0.2.1 dX3_greaterByNumbers_104 (by decide) ?_
                  refine lv_icmp_ne (tgt := 117) C0.1 C0.2.1 dX3_greaterByNumbers_105 (by decide) (fun c_105 => ?_) (fun c_105 => ?_)
                  · skip
                    refine lv_iconst (v := 0) C0.1 C0.2.1 dX3_greaterByNumbers_117 (by decide) ?_
                    refine lv_istore (lv' := [(6, .int 0), (4, .int 0), (0, .ref r), (1, .ref r2), (2, .int (nI (sp_mm n n2))), (3, .int (nI i))]) C0.1 C0.2.1 dX3_greaterByNumbers_118 hl (by decide) rfl (fun ls hl => ?_)
                    refine lv_aload_n C0.1 C0.2.1 dX3_greaterByNumbers_120 rfl (lv_at hl 2 rfl) ?_
                    refine gf_X3_9 C0 w hR rfl dX3_greaterByNumbers_121 ?_
                    refine lv_iload_n C0.1 C0.2.1 dX3_greaterByNumbers_124 rfl (lv_at hl 5 rfl) ?_
                    refine hv_iald C0 w hB (hn_in (by omega) (by decide)) dX3_greaterByNumbers_125 ?_
                    have hc31 : (nI i).toNatClampNeg = i := nI_clamp (by omega)
                    rw [hc31]
                    refine lv_aload_n C0.1 C0.2.1 dX3_greaterByNumbers_126 rfl (lv_at hl 3 rfl) ?_
                    refine gf_X3_9 C0 w hR2 rfl dX3_greaterByNumbers_127 ?_
                    refine lv_iload_n C0.1 C0.2.1 dX3_greaterByNumbers_130 rfl (lv_at hl 5 rfl) ?_
                    refine hv_iald C0 w hB2 (hn_in (by omega) (by decide)) dX3_greaterByNumbers_131 ?_
                    have hc32 : (nI i).toNatClampNeg = i := nI_clamp (by omega)
                    rw [hc32]
                    refine lv_icmp_ge (tgt := 139) C0.1 C0.2.1 dX3_greaterByNumbers_132 (by decide) (fun c_132 => ?_) (fun c_132 => ?_)
                    · skip
                      refine lv_iconst (v := 0) C0.1 C0.2.1 dX3_greaterByNumbers_139 (by decide) ?_
                      refine lv_iload C0.1 C0.2.1 dX3_greaterByNumbers_140 (lv_at hl 0 rfl) ?_
                      refine lv_icmp_ne (tgt := 149) C0.1 C0.2.1 dX3_greaterByNumbers_142 (by decide) (fun h9 => absurd h9 (by decide)) (fun _ => ?_)
                      refine lv_iconst (v := 1) C0.1 C0.2.1 dX3_greaterByNumbers_145 (by decide) ?_
                      refine lv_goto (tgt := 150) C0.1 C0.2.1 dX3_greaterByNumbers_146 (by decide) ?_
                      refine lv_istore (lv' := [(5, .int 1), (6, .int 0), (4, .int 0), (0, .ref r), (1, .ref r2), (2, .int (nI (sp_mm n n2))), (3, .int (nI i))]) C0.1 C0.2.1 dX3_greaterByNumbers_150 hl (by decide) rfl (fun ls hl => ?_)
                      refine lv_goto (tgt := 180) C0.1 C0.2.1 dX3_greaterByNumbers_152 (by decide) ?_
                      refine lv_iload C0.1 C0.2.1 dX3_greaterByNumbers_180 (lv_at hl 0 rfl) ?_
                      refine lv_if_eq (tgt := 189) C0.1 C0.2.1 dX3_greaterByNumbers_182 (by decide) (fun h9 => absurd h9 (by decide)) (fun _ => ?_)
                      refine lv_iconst (v := 1) C0.1 C0.2.1 dX3_greaterByNumbers_185 (by decide) ?_
                      refine lv_goto (tgt := 190) C0.1 C0.2.1 dX3_greaterByNumbers_186 (by decide) ?_
                      exact hv_iret C0 w hr hlk (⟨rfl, by rw [hres, sp_gr2, if_neg (fun h9 => c_53 (e2.mpr h9.2)), if_pos ⟨q1, q2⟩]; simp [decide_eq_false c_63, decide_eq_false c_89, decide_eq_false c_97, decide_eq_false c_105, decide_eq_false (Int32.not_lt.mpr c_132)]⟩) dX3_greaterByNumbers_190
                    · skip
                      refine lv_iconst (v := 1) C0.1 C0.2.1 dX3_greaterByNumbers_135 (by decide) ?_
                      refine lv_goto (tgt := 140) C0.1 C0.2.1 dX3_greaterByNumbers_136 (by decide) ?_
                      refine lv_iload C0.1 C0.2.1 dX3_greaterByNumbers_140 (lv_at hl 0 rfl) ?_
                      refine lv_icmp_ne (tgt := 149) C0.1 C0.2.1 dX3_greaterByNumbers_142 (by decide) (fun _ => ?_) (fun h9 => absurd h9 (by decide))
                      refine lv_iconst (v := 0) C0.1 C0.2.1 dX3_greaterByNumbers_149 (by decide) ?_
                      refine lv_istore (lv' := [(5, .int 0), (6, .int 0), (4, .int 0), (0, .ref r), (1, .ref r2), (2, .int (nI (sp_mm n n2))), (3, .int (nI i))]) C0.1 C0.2.1 dX3_greaterByNumbers_150 hl (by decide) rfl (fun ls hl => ?_)
                      refine lv_goto (tgt := 180) C0.1 C0.2.1 dX3_greaterByNumbers_152 (by decide) ?_
                      refine lv_iload C0.1 C0.2.1 dX3_greaterByNumbers_180 (lv_at hl 0 rfl) ?_
                      refine lv_if_eq (tgt := 189) C0.1 C0.2.1 dX3_greaterByNumbers_182 (by decide) (fun _ => ?_) (fun h9 => absurd h9 (by decide))
                      refine lv_iconst (v := 2) C0.1 C0.2.1 dX3_greaterByNumbers_189 (by decide) ?_
                      exact hv_iret C0 w hr hlk (⟨rfl, by rw [hres, sp_gr2, if_neg (fun h9 => c_53 (e2.mpr h9.2)), if_pos ⟨q1, q2⟩]; simp [decide_eq_false c_63, decide_eq_false c_89, decide_eq_false c_97, decide_eq_false c_105, decide_eq_true (Int32.not_le.mp c_132)]⟩) dX3_greaterByNumbers_190
                  · skip
                    refine lv_iload C0.1 C0.2.1 dX3_greaterByNumbers_108 (lv_at hl 0 rfl) ?_
                    refine lv_if_ne (tgt := 117) C0.1 C0.2.1 dX3_greaterByNumbers_110 (by decide) (fun h9 => absurd h9 (by decide)) (fun _ => ?_)
                    refine lv_iconst (v := 1) C0.1 C0.2.1 dX3_greaterByNumbers_113 (by decide) ?_
                    refine lv_goto (tgt := 118) C0.1 C0.2.1 dX3_greaterByNumbers_114 (by decide) ?_
                    refine lv_istore (lv' := [(6, .int 1), (4, .int 0), (0, .ref r), (1, .ref r2), (2, .int (nI (sp_mm n n2))), (3, .int (nI i))]) C0.1 C0.2.1 dX3_greaterByNumbers_118 hl (by decide) rfl (fun ls hl => ?_)
                    refine lv_aload_n C0.1 C0.2.1 dX3_greaterByNumbers_120 rfl (lv_at hl 2 rfl) ?_
                    refine gf_X3_9 C0 w hR rfl dX3_greaterByNumbers_121 ?_
                    refine lv_iload_n C0.1 C0.2.1 dX3_greaterByNumbers_124 rfl (lv_at hl 5 rfl) ?_
                    refine hv_iald C0 w hB (hn_in (by omega) (by decide)) dX3_greaterByNumbers_125 ?_
                    have hc33 : (nI i).toNatClampNeg = i := nI_clamp (by omega)
                    rw [hc33]
                    refine lv_aload_n C0.1 C0.2.1 dX3_greaterByNumbers_126 rfl (lv_at hl 3 rfl) ?_
                    refine gf_X3_9 C0 w hR2 rfl dX3_greaterByNumbers_127 ?_
                    refine lv_iload_n C0.1 C0.2.1 dX3_greaterByNumbers_130 rfl (lv_at hl 5 rfl) ?_
                    refine hv_iald C0 w hB2 (hn_in (by omega) (by decide)) dX3_greaterByNumbers_131 ?_
                    have hc34 : (nI i).toNatClampNeg = i := nI_clamp (by omega)
                    rw [hc34]
                    refine lv_icmp_ge (tgt := 139) C0.1 C0.2.1 dX3_greaterByNumbers_132 (by decide) (fun c_132 => ?_) (fun c_132 => ?_)
                    · skip
                      refine lv_iconst (v := 0) C0.1 C0.2.1 dX3_greaterByNumbers_139 (by decide) ?_
                      refine lv_iload C0.1 C0.2.1 dX3_greaterByNumbers_140 (lv_at hl 0 rfl) ?_
                      refine lv_icmp_ne (tgt := 149) C0.1 C0.2.1 dX3_greaterByNumbers_142 (by decide) (fun _ => ?_) (fun h9 => absurd h9 (by decide))
                      refine lv_iconst (v := 0) C0.1 C0.2.1 dX3_greaterByNumbers_149 (by decide) ?_
                      refine lv_istore (lv' := [(5, .int 0), (6, .int 1), (4, .int 0), (0, .ref r), (1, .ref r2), (2, .int (nI (sp_mm n n2))), (3, .int (nI i))]) C0.1 C0.2.1 dX3_greaterByNumbers_150 hl (by decide) rfl (fun ls hl => ?_)
                      refine lv_goto (tgt := 180) C0.1 C0.2.1 dX3_greaterByNumbers_152 (by decide) ?_
                      refine lv_iload C0.1 C0.2.1 dX3_greaterByNumbers_180 (lv_at hl 0 rfl) ?_
                      refine lv_if_eq (tgt := 189) C0.1 C0.2.1 dX3_greaterByNumbers_182 (by decide) (fun _ => ?_) (fun h9 => absurd h9 (by decide))
                      refine lv_iconst (v := 2) C0.1 C0.2.1 dX3_greaterByNumbers_189 (by decide) ?_
                      exact hv_iret C0 w hr hlk (⟨rfl, by first | exact absurd c_105 c_63 | exact absurd c_63 c_105⟩) dX3_greaterByNumbers_190
                    · skip
                      refine lv_iconst (v := 1) C0.1 C0.2.1 dX3_greaterByNumbers_135 (by decide) ?_
                      refine lv_goto (tgt := 140) C0.1 C0.2.1 dX3_greaterByNumbers_136 (by decide) ?_
                      refine lv_iload C0.1 C0.2.1 dX3_greaterByNumbers_140 (lv_at hl 0 rfl) ?_
                      refine lv_icmp_ne (tgt := 149) C0.1 C0.2.1 dX3_greaterByNumbers_142 (by decide) (fun h9 => absurd h9 (by decide)) (fun _ => ?_)
                      refine lv_iconst (v := 1) C0.1 C0.2.1 dX3_greaterByNumbers_145 (by decide) ?_
                      refine lv_goto (tgt := 150) C0.1 C0.2.1 dX3_greaterByNumbers_146 (by decide) ?_
                      refine lv_istore (lv' := [(5, .int 1), (6, .int 1), (4, .int 0), (0, .ref r), (1, .ref r2), (2, .int (nI (sp_mm n n2))), (3, .int (nI i))]) C0.1 C0.2.1 dX3_greaterByNumbers_150 hl (by decide) rfl (fun ls hl => ?_)
                      refine lv_goto (tgt := 180) C0.1 C0.2.1 dX3_greaterByNumbers_152 (by decide) ?_
                      refine lv_iload C0.1 C0.2.1 dX3_greaterByNumbers_180 (lv_at hl 0 rfl) ?_
                      refine lv_if_eq (tgt := 189) C0.1 C0.2.1 dX3_greaterByNumbers_182 (by decide) (fun h9 => absurd h9 (by decide)) (fun _ => ?_)
                      refine lv_iconst (v := 1) C0.1 C0.2.1 dX3_greaterByNumbers_185 (by decide) ?_
                      refine lv_goto (tgt := 190) C0.1 C0.2.1 dX3_greaterByNumbers_186 (by decide) ?_
                      exact hv_iret C0 w hr hlk (⟨rfl, by first | exact absurd c_105 c_63 | exact absurd c_63 c_105⟩) dX3_greaterByNumbers_190
            · skip
              refine lv_iload_n C0.1 C0.2.1 dX3_greaterByNumbers_66 rfl (lv_at hl 3 rfl) ?_
              refine lv_iconst (v := 2) C0.1 C0.2.1 dX3_greaterByNumbers_67 (by decide) ?_
              refine lv_irem C0.1 C0.2.1 dX3_greaterByNumbers_68 (by decide) ?_
              refine lv_iconst (v := 1) C0.1 C0.2.1 dX3_greaterByNumbers_69 (by decide) ?_
              refine lv_icmp_ne (tgt := 77) C0.1 C0.2.1 dX3_greaterByNumbers_70 (by decide) (fun c_70 => ?_) (fun c_70 => ?_)
              · skip
                refine lv_iconst (v := 0) C0.1 C0.2.1 dX3_greaterByNumbers_77 (by decide) ?_
                refine lv_istore (lv' := [(4, .int 0), (0, .ref r), (1, .ref r2), (2, .int (nI (sp_mm n n2))), (3, .int (nI i))]) C0.1 C0.2.1 dX3_greaterByNumbers_78 hl (by decide) rfl (fun ls hl => ?_)
                refine lv_iload_n C0.1 C0.2.1 dX3_greaterByNumbers_80 rfl (lv_at hl 4 rfl) ?_
                refine lv_iload_n C0.1 C0.2.1 dX3_greaterByNumbers_81 rfl (lv_at hl 3 rfl) ?_
                refine lv_icmp_ge (tgt := 155) C0.1 C0.2.1 dX3_greaterByNumbers_82 (by decide) (fun c_82 => absurd c_82 (nI_ge (by omega) (by omega))) (fun c_82 => ?_)
                have q1 : i < n := by omega
                have q2 : i < n2 := by omega
                refine lv_aload_n C0.1 C0.2.1 dX3_greaterByNumbers_85 rfl (lv_at hl 1 rfl) ?_
                refine gf_X3_15 C0 w hR rfl dX3_greaterByNumbers_86 ?_
                refine lv_if_eq (tgt := 113) C0.1 C0.2.1 dX3_greaterByNumbers_89 (by decide) (fun c_89 => ?_) (fun c_89 => ?_)
                · skip
                  refine lv_iconst (v := 1) C0.1 C0.2.1 dX3_greaterByNumbers_113 (by decide) ?_
                  refine lv_goto (tgt := 118) C0.1 C0.2.1 dX3_greaterByNumbers_114 (by decide) ?_
                  refine lv_istore (lv' := [(6, .int 1), (4, .int 0), (0, .ref r), (1, .ref r2), (2, .int (nI (sp_mm n n2))), (3, .int (nI i))]) C0.1 C0.2.1 dX3_greaterByNumbers_118 hl (by decide) rfl (fun ls hl => ?_)
                  refine lv_aload_n C0.1 C0.2.1 dX3_greaterByNumbers_120 rfl (lv_at hl 2 rfl) ?_
                  refine gf_X3_9 C0 w hR rfl dX3_greaterByNumbers_121 ?_
                  refine lv_iload_n C0.1 C0.2.1 dX3_greaterByNumbers_124 rfl (lv_at hl 5 rfl) ?_
                  refine hv_iald C0 w hB (hn_in (by omega) (by decide)) dX3_greaterByNumbers_125 ?_
                  have hc35 : (nI i).toNatClampNeg = i := nI_clamp (by omega)
                  rw [hc35]
                  refine lv_aload_n C0.1 C0.2.1 dX3_greaterByNumbers_126 rfl (lv_at hl 3 rfl) ?_
                  refine gf_X3_9 C0 w hR2 rfl dX3_greaterByNumbers_127 ?_
                  refine lv_iload_n C0.1 C0.2.1 dX3_greaterByNumbers_130 rfl (lv_at hl 5 rfl) ?_
                  refine hv_iald C0 w hB2 (hn_in (by omega) (by decide)) dX3_greaterByNumbers_131 ?_
                  have hc36 : (nI i).toNatClampNeg = i := nI_clamp (by omega)
                  rw [hc36]
                  refine lv_icmp_ge (tgt := 139) C0.1 C0.2.1 dX3_greaterByNumbers_132 (by decide) (fun c_132 => ?_) (fun c_132 => ?_)
                  · skip
                    refine lv_iconst (v := 0) C0.1 C0.2.1 dX3_greaterByNumbers_139 (by decide) ?_
                    refine lv_iload C0.1 C0.2.1 dX3_greaterByNumbers_140 (lv_at hl 0 rfl) ?_
                    refine lv_icmp_ne (tgt := 149) C0.1 C0.2.1 dX3_greaterByNumbers_142 (by decide) (fun _ => ?_) (fun h9 => absurd h9 (by decide))
                    refine lv_iconst (v := 0) C0.1 C0.2.1 dX3_greaterByNumbers_149 (by decide) ?_
                    refine lv_istore (lv' := [(5, .int 0), (6, .int 1), (4, .int 0), (0, .ref r), (1, .ref r2), (2, .int (nI (sp_mm n n2))), (3, .int (nI i))]) C0.1 C0.2.1 dX3_greaterByNumbers_150 hl (by decide) rfl (fun ls hl => ?_)
                    refine lv_goto (tgt := 180) C0.1 C0.2.1 dX3_greaterByNumbers_152 (by decide) ?_
                    refine lv_iload C0.1 C0.2.1 dX3_greaterByNumbers_180 (lv_at hl 0 rfl) ?_
                    refine lv_if_eq (tgt := 189) C0.1 C0.2.1 dX3_greaterByNumbers_182 (by decide) (fun _ => ?_) (fun h9 => absurd h9 (by decide))
                    refine lv_iconst (v := 2) C0.1 C0.2.1 dX3_greaterByNumbers_189 (by decide) ?_
                    exact hv_iret C0 w hr hlk (⟨rfl, by rw [hres, sp_gr2, if_neg (fun h9 => c_53 (e2.mpr h9.2)), if_pos ⟨q1, q2⟩]; simp [decide_eq_true c_63, decide_eq_false c_70, decide_eq_true c_89, decide_eq_false (Int32.not_lt.mpr c_132)]⟩) dX3_greaterByNumbers_190
                  · skip
                    refine lv_iconst (v := 1) C0.1 C0.2.1 dX3_greaterByNumbers_135 (by decide) ?_
                    refine lv_goto (tgt := 140) C0.1 C0.2.1 dX3_greaterByNumbers_136 (by decide) ?_
                    refine lv_iload C0.1 C0.2.1 dX3_greaterByNumbers_140 (lv_at hl 0 rfl) ?_
                    refine lv_icmp_ne (tgt := 149) C0.1 C0.2.1 dX3_greaterByNumbers_142 (by decide) (fun h9 => absurd h9 (by decide)) (fun _ => ?_)
                    refine lv_iconst (v := 1) C0.1 C0.2.1 dX3_greaterByNumbers_145 (by decide) ?_
                    refine lv_goto (tgt := 150) C0.1 C0.2.1 dX3_greaterByNumbers_146 (by decide) ?_
                    refine lv_istore (lv' := [(5, .int 1), (6, .int 1), (4, .int 0), (0, .ref r), (1, .ref r2), (2, .int (nI (sp_mm n n2))), (3, .int (nI i))]) C0.1 C0.2.1 dX3_greaterByNumbers_150 hl (by decide) rfl (fun ls hl => ?_)
                    refine lv_goto (tgt := 180) C0.1 C0.2.1 dX3_greaterByNumbers_152 (by decide) ?_
                    refine lv_iload C0.1 C0.2.1 dX3_greaterByNumbers_180 (lv_at hl 0 rfl) ?_
                    refine lv_if_eq (tgt := 189) C0.1 C0.2.1 dX3_greaterByNumbers_182 (by decide) (fun h9 => absurd h9 (by decide)) (fun _ => ?_)
                    refine lv_iconst (v := 1) C0.1 C0.2.1 dX3_greaterByNumbers_185 (by decide) ?_
                    refine lv_goto (tgt := 190) C0.1 C0.2.1 dX3_greaterByNumbers_186 (by decide) ?_
                    exact hv_iret C0 w hr hlk (⟨rfl, by rw [hres, sp_gr2, if_neg (fun h9 => c_53 (e2.mpr h9.2)), if_pos ⟨q1, q2⟩]; simp [decide_eq_true c_63, decide_eq_false c_70, decide_eq_true c_89, decide_eq_true (Int32.not_le.mp c_132)]⟩) dX3_greaterByNumbers_190
                · skip
                  refine lv_aload_n C0.1 C0.2.1 dX3_greaterByNumbers_92 rfl (lv_at hl 1 rfl) ?_
                  refine gf_X3_15 C0 w hR rfl dX3_greaterByNumbers_93 ?_
                  refine lv_iconst (v := 1) C0.1 C0.2.1 dX3_greaterByNumbers_96 (by decide) ?_
                  refine lv_icmp_eq (tgt := 113) C0.1 C0.2.1 dX3_greaterByNumbers_97 (by decide) (fun c_97 => ?_) (fun c_97 => ?_)
                  · skip
                    refine lv_iconst (v := 1) C0.1 C0.2.1 dX3_greaterByNumbers_113 (by decide) ?_
                    refine lv_goto (tgt := 118) C0.1 C0.2.1 dX3_greaterByNumbers_114 (by decide) ?_
                    refine lv_istore (lv' := [(6, .int 1), (4, .int 0), (0, .ref r), (1, .ref r2), (2, .int (nI (sp_mm n n2))), (3, .int (nI i))]) C0.1 C0.2.1 dX3_greaterByNumbers_118 hl (by decide) rfl (fun ls hl => ?_)
                    refine lv_aload_n C0.1 C0.2.1 dX3_greaterByNumbers_120 rfl (lv_at hl 2 rfl) ?_
                    refine gf_X3_9 C0 w hR rfl dX3_greaterByNumbers_121 ?_
                    refine lv_iload_n C0.1 C0.2.1 dX3_greaterByNumbers_124 rfl (lv_at hl 5 rfl) ?_
                    refine hv_iald C0 w hB (hn_in (by omega) (by decide)) dX3_greaterByNumbers_125 ?_
                    have hc37 : (nI i).toNatClampNeg = i := nI_clamp (by omega)
                    rw [hc37]
                    refine lv_aload_n C0.1 C0.2.1 dX3_greaterByNumbers_126 rfl (lv_at hl 3 rfl) ?_
                    refine gf_X3_9 C0 w hR2 rfl dX3_greaterByNumbers_127 ?_
                    refine lv_iload_n C0.1 C0.2.1 dX3_greaterByNumbers_130 rfl (lv_at hl 5 rfl) ?_
                    refine hv_iald C0 w hB2 (hn_in (by omega) (by decide)) dX3_greaterByNumbers_131 ?_
                    have hc38 : (nI i).toNatClampNeg = i := nI_clamp (by omega)
                    rw [hc38]
                    refine lv_icmp_ge (tgt := 139) C0.1 C0.2.1 dX3_greaterByNumbers_132 (by decide) (fun c_132 => ?_) (fun c_132 => ?_)
                    · skip
                      refine lv_iconst (v := 0) C0.1 C0.2.1 dX3_greaterByNumbers_139 (by decide) ?_
                      refine lv_iload C0.1 C0.2.1 dX3_greaterByNumbers_140 (lv_at hl 0 rfl) ?_
                      refine lv_icmp_ne (tgt := 149) C0.1 C0.2.1 dX3_greaterByNumbers_142 (by decide) (fun _ => ?_) (fun h9 => absurd h9 (by decide))
                      refine lv_iconst (v := 0) C0.1 C0.2.1 dX3_greaterByNumbers_149 (by decide) ?_
                      refine lv_istore (lv' := [(5, .int 0), (6, .int 1), (4, .int 0), (0, .ref r), (1, .ref r2), (2, .int (nI (sp_mm n n2))), (3, .int (nI i))]) C0.1 C0.2.1 dX3_greaterByNumbers_150 hl (by decide) rfl (fun ls hl => ?_)
                      refine lv_goto (tgt := 180) C0.1 C0.2.1 dX3_greaterByNumbers_152 (by decide) ?_
                      refine lv_iload C0.1 C0.2.1 dX3_greaterByNumbers_180 (lv_at hl 0 rfl) ?_
                      refine lv_if_eq (tgt := 189) C0.1 C0.2.1 dX3_greaterByNumbers_182 (by decide) (fun _ => ?_) (fun h9 => absurd h9 (by decide))
                      refine lv_iconst (v := 2) C0.1 C0.2.1 dX3_greaterByNumbers_189 (by decide) ?_
                      exact hv_iret C0 w hr hlk (⟨rfl, by rw [hres, sp_gr2, if_neg (fun h9 => c_53 (e2.mpr h9.2)), if_pos ⟨q1, q2⟩]; simp [decide_eq_true c_63, decide_eq_false c_70, decide_eq_false c_89, decide_eq_true c_97, decide_eq_false (Int32.not_lt.mpr c_132)]⟩) dX3_greaterByNumbers_190
                    · skip
                      refine lv_iconst (v := 1) C0.1 C0.2.1 dX3_greaterByNumbers_135 (by decide) ?_
                      refine lv_goto (tgt := 140) C0.1 C0.2.1 dX3_greaterByNumbers_136 (by decide) ?_
                      refine lv_iload C0.1 C0.2.1 dX3_greaterByNumbers_140 (lv_at hl 0 rfl) ?_
                      refine lv_icmp_ne (tgt := 149) C0.1 C0.2.1 dX3_greaterByNumbers_142 (by decide) (fun h9 => absurd h9 (by decide)) (fun _ => ?_)
                      refine lv_iconst (v := 1) C0.1 C0.2.1 dX3_greaterByNumbers_145 (by decide) ?_
                      refine lv_goto (tgt := 150) C0.1 C0.2.1 dX3_greaterByNumbers_146 (by decide) ?_
                      refine lv_istore (lv' := [(5, .int 1), (6, .int 1), (4, .int 0), (0, .ref r), (1, .ref r2), (2, .int (nI (sp_mm n n2))), (3, .int (nI i))]) C0.1 C0.2.1 dX3_greaterByNumbers_150 hl (by decide) rfl (fun ls hl => ?_)
                      refine lv_goto (tgt := 180) C0.1 C0.2.1 dX3_greaterByNumbers_152 (by decide) ?_
                      refine lv_iload C0.1 C0.2.1 dX3_greaterByNumbers_180 (lv_at hl 0 rfl) ?_
                      refine lv_if_eq (tgt := 189) C0.1 C0.2.1 dX3_greaterByNumbers_182 (by decide) (fun h9 => absurd h9 (by decide)) (fun _ => ?_)
                      refine lv_iconst (v := 1) C0.1 C0.2.1 dX3_greaterByNumbers_185 (by decide) ?_
                      refine lv_goto (tgt := 190) C0.1 C0.2.1 dX3_greaterByNumbers_186 (by decide) ?_
                      exact hv_iret C0 w hr hlk (⟨rfl, by rw [hres, sp_gr2, if_neg (fun h9 => c_53 (e2.mpr h9.2)), if_pos ⟨q1, q2⟩]; simp [decide_eq_true c_63, decide_eq_false c_70, decide_eq_false c_89, decide_eq_true c_97, decide_eq_true (Int32.not_le.mp c_132)]⟩) dX3_greaterByNumbers_190
                  · skip
                    refine lv_aload_n C0.1 C0.2.1 dX3_greaterByNumbers_100 rfl (lv_at hl 1 rfl) ?_
                    refine gf_X3_15 C0 w hR rfl dX3_greaterByNumbers_101 ?_
                    refine lv_iconst (v := 2) C0.1 C0.2.1 dX3_greaterByNumbers_104 (by decide) ?_
                    refine lv_icmp_ne (tgt := 117) C0.1 C0.2.1 dX3_greaterByNumbers_105 (by decide) (fun c_105 => ?_) (fun c_105 => ?_)
                    · skip
                      refine lv_iconst (v := 0) C0.1 C0.2.1 dX3_greaterByNumbers_117 (by decide) ?_
                      refine lv_istore (lv' := [(6, .int 0), (4, .int 0), (0, .ref r), (1, .ref r2), (2, .int (nI (sp_mm n n2))), (3, .int (nI i))]) C0.1 C0.2.1 dX3_greaterByNumbers_118 hl (by decide) rfl (fun ls hl => ?_)
                      refine lv_aload_n C0.1 C0.2.1 dX3_greaterByNumbers_120 rfl (lv_at hl 2 rfl) ?_
                      refine gf_X3_9 C0 w hR rfl dX3_greaterByNumbers_121 ?_
                      refine lv_iload_n C0.1 C0.2.1 dX3_greaterByNumbers_124 rfl (lv_at hl 5 rfl) ?_
                      refine hv_iald C0 w hB (hn_in (by omega) (by decide)) dX3_greaterByNumbers_125 ?_
                      have hc39 : (nI i).toNatClampNeg = i := nI_clamp (by omega)
                      rw [hc39]
                      refine lv_aload_n C0.1 C0.2.1 dX3_greaterByNumbers_126 rfl (lv_at hl 3 rfl) ?_
                      refine gf_X3_9 C0 w hR2 rfl dX3_greaterByNumbers_127 ?_
                      refine lv_iload_n C0.1 C0.2.1 dX3_greaterByNumbers_130 rfl (lv_at hl 5 rfl) ?_
                      refine hv_iald C0 w hB2 (hn_in (by omega) (by decide)) dX3_greaterByNumbers_131 ?_
                      have hc40 : (nI i).toNatClampNeg = i := nI_clamp (by omega)
                      rw [hc40]
                      refine lv_icmp_ge (tgt := 139) C0.1 C0.2.1 dX3_greaterByNumbers_132 (by decide) (fun c_132 => ?_) (fun c_132 => ?_)
                      · skip
                        refine lv_iconst (v := 0) C0.1 C0.2.1 dX3_greaterByNumbers_139 (by decide) ?_
                        refine lv_iload C0.1 C0.2.1 dX3_greaterByNumbers_140 (lv_at hl 0 rfl) ?_
                        refine lv_icmp_ne (tgt := 149) C0.1 C0.2.1 dX3_greaterByNumbers_142 (by decide) (fun h9 => absurd h9 (by decide)) (fun _ => ?_)
                        refine lv_iconst (v := 1) C0.1 C0.2.1 dX3_greaterByNumbers_145 (by decide) ?_
                        refine lv_goto (tgt := 150) C0.1 C0.2.1 dX3_greaterByNumbers_146 (by decide) ?_
                        refine lv_istore (lv' := [(5, .int 1), (6, .int 0), (4, .int 0), (0, .ref r), (1, .ref r2), (2, .int (nI (sp_mm n n2))), (3, .int (nI i))]) C0.1 C0.2.1 dX3_greaterByNumbers_150 hl (by decide) rfl (fun ls hl => ?_)
                        refine lv_goto (tgt := 180) C0.1 C0.2.1 dX3_greaterByNumbers_152 (by decide) ?_
                        refine lv_iload C0.1 C0.2.1 dX3_greaterByNumbers_180 (lv_at hl 0 rfl) ?_
                        refine lv_if_eq (tgt := 189) C0.1 C0.2.1 dX3_greaterByNumbers_182 (by decide) (fun h9 => absurd h9 (by decide)) (fun _ => ?_)
                        refine lv_iconst (v := 1) C0.1 C0.2.1 dX3_greaterByNumbers_185 (by decide) ?_
                        refine lv_goto (tgt := 190) C0.1 C0.2.1 dX3_greaterByNumbers_186 (by decide) ?_
                        exact hv_iret C0 w hr hlk (⟨rfl, by first | exact absurd c_105 c_63 | exact absurd c_63 c_105⟩) dX3_greaterByNumbers_190
                      · skip
                        refine lv_iconst (v := 1) C0.1 C0.2.1 dX3_greaterByNumbers_135 (by decide) ?_
                        refine lv_goto (tgt := 140) C0.1 C0.2.1 dX3_greaterByNumbers_136 (by decide) ?_
                        refine lv_iload C0.1 C0.2.1 dX3_greaterByNumbers_140 (lv_at hl 0 rfl) ?_
                        refine lv_icmp_ne (tgt := 149) C0.1 C0.2.1 dX3_greaterByNumbers_142 (by decide) (fun _ => ?_) (fun h9 => absurd h9 (by decide))
                        refine lv_iconst (v := 0) C0.1 C0.2.1 dX3_greaterByNumbers_149 (by decide) ?_
                        refine lv_istore (lv' := [(5, .int 0), (6, .int 0), (4, .int 0), (0, .ref r), (1, .ref r2), (2, .int (nI (sp_mm n n2))), (3, .int (nI i))]) C0.1 C0.2.1 dX3_greaterByNumbers_150 hl (by decide) rfl (fun ls hl => ?_)
                        refine lv_goto (tgt := 180) C0.1 C0.2.1 dX3_greaterByNumbers_152 (by decide) ?_
                        refine lv_iload C0.1 C0.2.1 dX3_greaterByNumbers_180 (lv_at hl 0 rfl) ?_
                        refine lv_if_eq (tgt := 189) C0.1 C0.2.1 dX3_greaterByNumbers_182 (by decide) (fun _ => ?_) (fun h9 => absurd h9 (by decide))
                        refine lv_iconst (v := 2) C0.1 C0.2.1 dX3_greaterByNumbers_189 (by decide) ?_
                        exact hv_iret C0 w hr hlk (⟨rfl, by first | exact absurd c_105 c_63 | exact absurd c_63 c_105⟩) dX3_greaterByNumbers_190
                    · skip
                      refine lv_iload C0.1 C0.2.1 dX3_greaterByNumbers_108 (lv_at hl 0 rfl) ?_
                      refine lv_if_ne (tgt := 117) C0.1 C0.2.1 dX3_greaterByNumbers_110 (by decide) (fun h9 => absurd h9 (by decide)) (fun _ => ?_)
                      refine lv_iconst (v := 1) C0.1 C0.2.1 dX3_greaterByNumbers_113 (by decide) ?_
                      refine lv_goto (tgt := 118) C0.1 C0.2.1 dX3_greaterByNumbers_114 (by decide) ?_
                      refine lv_istore (lv' := [(6, .int 1), (4, .int 0), (0, .ref r), (1, .ref r2), (2, .int (nI (sp_mm n n2))), (3, .int (nI i))]) C0.1 C0.2.1 dX3_greaterByNumbers_118 hl (by decide) rfl (fun ls hl => ?_)
                      refine lv_aload_n C0.1 C0.2.1 dX3_greaterByNumbers_120 rfl (lv_at hl 2 rfl) ?_
                      refine gf_X3_9 C0 w hR rfl dX3_greaterByNumbers_121 ?_
                      refine lv_iload_n C0.1 C0.2.1 dX3_greaterByNumbers_124 rfl (lv_at hl 5 rfl) ?_
                      refine hv_iald C0 w hB (hn_in (by omega) (by decide)) dX3_greaterByNumbers_125 ?_
                      have hc41 : (nI i).toNatClampNeg = i := nI_clamp (by omega)
                      rw [hc41]
                      refine lv_aload_n C0.1 C0.2.1 dX3_greaterByNumbers_126 rfl (lv_at hl 3 rfl) ?_
                      refine gf_X3_9 C0 w hR2 rfl dX3_greaterByNumbers_127 ?_
                      refine lv_iload_n C0.1 C0.2.1 dX3_greaterByNumbers_130 rfl (lv_at hl 5 rfl) ?_
                      refine hv_iald C0 w hB2 (hn_in (by omega) (by decide)) dX3_greaterByNumbers_131 ?_
                      have hc42 : (nI i).toNatClampNeg = i := nI_clamp (by omega)
                      rw [hc42]
                      refine lv_icmp_ge (tgt := 139) C0.1 C0.2.1 dX3_greaterByNumbers_132 (by decide) (fun c_132 => ?_) (fun c_132 => ?_)
                      · skip
                        refine lv_iconst (v := 0) C0.1 C0.2.1 dX3_greaterByNumbers_139 (by decide) ?_
                        refine lv_iload C0.1 C0.2.1 dX3_greaterByNumbers_140 (lv_at hl 0 rfl) ?_
                        refine lv_icmp_ne (tgt := 149) C0.1 C0.2.1 dX3_greaterByNumbers_142 (by decide) (fun _ => ?_) (fun h9 => absurd h9 (by decide))
                        refine lv_iconst (v := 0) C0.1 C0.2.1 dX3_greaterByNumbers_149 (by decide) ?_
                        refine lv_istore (lv' := [(5, .int 0), (6, .int 1), (4, .int 0), (0, .ref r), (1, .ref r2), (2, .int (nI (sp_mm n n2))), (3, .int (nI i))]) C0.1 C0.2.1 dX3_greaterByNumbers_150 hl (by decide) rfl (fun ls hl => ?_)
                        refine lv_goto (tgt := 180) C0.1 C0.2.1 dX3_greaterByNumbers_152 (by decide) ?_
                        refine lv_iload C0.1 C0.2.1 dX3_greaterByNumbers_180 (lv_at hl 0 rfl) ?_
                        refine lv_if_eq (tgt := 189) C0.1 C0.2.1 dX3_greaterByNumbers_182 (by decide) (fun _ => ?_) (fun h9 => absurd h9 (by decide))
                        refine lv_iconst (v := 2) C0.1 C0.2.1 dX3_greaterByNumbers_189 (by decide) ?_
                        exact hv_iret C0 w hr hlk (⟨rfl, by rw [hres, sp_gr2, if_neg (fun h9 => c_53 (e2.mpr h9.2)), if_pos ⟨q1, q2⟩]; simp [decide_eq_true c_63, decide_eq_false c_70, decide_eq_false c_89, decide_eq_false c_97, decide_eq_true c_105, decide_eq_false (Int32.not_lt.mpr c_132)]⟩) dX3_greaterByNumbers_190
                      · skip
                        refine lv_iconst (v := 1) C0.1 C0.2.1 dX3_greaterByNumbers_135 (by decide) ?_
                        refine lv_goto (tgt := 140) C0.1 C0.2.1 dX3_greaterByNumbers_136 (by decide) ?_
                        refine lv_iload C0.1 C0.2.1 dX3_greaterByNumbers_140 (lv_at hl 0 rfl) ?_
                        refine lv_icmp_ne (tgt := 149) C0.1 C0.2.1 dX3_greaterByNumbers_142 (by decide) (fun h9 => absurd h9 (by decide)) (fun _ => ?_)
                        refine lv_iconst (v := 1) C0.1 C0.2.1 dX3_greaterByNumbers_145 (by decide) ?_
                        refine lv_goto (tgt := 150) C0.1 C0.2.1 dX3_greaterByNumbers_146 (by decide) ?_
                        refine lv_istore (lv' := [(5, .int 1), (6, .int 1), (4, .int 0), (0, .ref r), (1, .ref r2), (2, .int (nI (sp_mm n n2))), (3, .int (nI i))]) C0.1 C0.2.1 dX3_greaterByNumbers_150 hl (by decide) rfl (fun ls hl => ?_)
                        refine lv_goto (tgt := 180) C0.1 C0.2.1 dX3_greaterByNumbers_152 (by decide) ?_
                        refine lv_iload C0.1 C0.2.1 dX3_greaterByNumbers_180 (lv_at hl 0 rfl) ?_
                        refine lv_if_eq (tgt := 189) C0.1 C0.2.1 dX3_greaterByNumbers_182 (by decide) (fun h9 => absurd h9 (by decide)) (fun _ => ?_)
                        refine lv_iconst (v := 1) C0.1 C0.2.1 dX3_greaterByNumbers_185 (by decide) ?_
                        refine lv_goto (tgt := 190) C0.1 C0.2.1 dX3_greaterByNumbers_186 (by decide) ?_
                        exact hv_iret C0 w hr hlk (⟨rfl, by rw [hres, sp_gr2, if_neg (fun h9 => c_53 (e2.mpr h9.2)), if_pos ⟨q1, q2⟩]; simp [decide_eq_true c_63, decide_eq_false c_70, decide_eq_false c_89, decide_eq_false c_97, decide_eq_true c_105, decide_eq_true (Int32.not_le.mp c_132)]⟩) dX3_greaterByNumbers_190
              · skip
                refine lv_iconst (v := 1) C0.1 C0.2.1 dX3_greaterByNumbers_73 (by decide) ?_
                refine lv_goto (tgt := 78) C0.1 C0.2.1 dX3_greaterByNumbers_74 (by decide) ?_
                refine lv_istore (lv' := [(4, .int 1), (0, .ref r), (1, .ref r2), (2, .int (nI (sp_mm n n2))), (3, .int (nI i))]) C0.1 C0.2.1 dX3_greaterByNumbers_78 hl (by decide) rfl (fun ls hl => ?_)
                refine lv_iload_n C0.1 C0.2.1 dX3_greaterByNumbers_80 rfl (lv_at hl 4 rfl) ?_
                refine lv_iload_n C0.1 C0.2.1 dX3_greaterByNumbers_81 rfl (lv_at hl 3 rfl) ?_
                refine lv_icmp_ge (tgt := 155) C0.1 C0.2.1 dX3_greaterByNumbers_82 (by decide) (fun c_82 => absurd c_82 (nI_ge (by omega) (by omega))) (fun c_82 => ?_)
                have q1 : i < n := by omega
                have q2 : i < n2 := by omega
                refine lv_aload_n C0.1 C0.2.1 dX3_greaterByNumbers_85 rfl (lv_at hl 1 rfl) ?_
                refine gf_X3_15 C0 w hR rfl dX3_greaterByNumbers_86 ?_
                refine lv_if_eq (tgt := 113) C0.1 C0.2.1 dX3_greaterByNumbers_89 (by decide) (fun c_89 => ?_) (fun c_89 => ?_)
                · skip
                  refine lv_iconst (v := 1) C0.1 C0.2.1 dX3_greaterByNumbers_113 (by decide) ?_
                  refine lv_goto (tgt := 118) C0.1 C0.2.1 dX3_greaterByNumbers_114 (by decide) ?_
                  refine lv_istore (lv' := [(6, .int 1), (4, .int 1), (0, .ref r), (1, .ref r2), (2, .int (nI (sp_mm n n2))), (3, .int (nI i))]) C0.1 C0.2.1 dX3_greaterByNumbers_118 hl (by decide) rfl (fun ls hl => ?_)
                  refine lv_aload_n C0.1 C0.2.1 dX3_greaterByNumbers_120 rfl (lv_at hl 2 rfl) ?_
                  refine gf_X3_9 C0 w hR rfl dX3_greaterByNumbers_121 ?_
                  refine lv_iload_n C0.1 C0.2.1 dX3_greaterByNumbers_124 rfl (lv_at hl 5 rfl) ?_
                  refine hv_iald C0 w hB (hn_in (by omega) (by decide)) dX3_greaterByNumbers_125 ?_
                  have hc43 : (nI i).toNatClampNeg = i := nI_clamp (by omega)
                  rw [hc43]
                  refine lv_aload_n C0.1 C0.2.1 dX3_greaterByNumbers_126 rfl (lv_at hl 3 rfl) ?_
                  refine gf_X3_9 C0 w hR2 rfl dX3_greaterByNumbers_127 ?_
                  refine lv_iload_n C0.1 C0.2.1 dX3_greaterByNumbers_130 rfl (lv_at hl 5 rfl) ?_
                  refine hv_iald C0 w hB2 (hn_in (by omega) (by decide)) dX3_greaterByNumbers_131 ?_
                  have hc44 : (nI i).toNatClampNeg = i := nI_clamp (by omega)
                  rw [hc44]
                  refine lv_icmp_ge (tgt := 139) C0.1 C0.2.1 dX3_greaterByNumbers_132 (by decide) (fun c_132 => ?_) (fun c_132 => ?_)
                  · skip
                    refine lv_iconst (v := 0) C0.1 C0.2.1 dX3_greaterByNumbers_139 (by decide) ?_
                    refine lv_iload C0.1 C0.2.1 dX3_greaterByNumbers_140 (lv_at hl 0 rfl) ?_
                    refine lv_icmp_ne (tgt := 149) C0.1 C0.2.1 dX3_greaterByNumbers_142 (by decide) (fun _ => ?_) (fun h9 => absurd h9 (by decide))
                    refine lv_iconst (v := 0) C0.1 C0.2.1 dX3_greaterByNumbers_149 (by decide) ?_
                    refine lv_istore (lv' := [(5, .int 0), (6, .int 1), (4, .int 1), (0, .ref r), (1, .ref r2), (2, .int (nI (sp_mm n n2))), (3, .int (nI i))]) C0.1 C0.2.1 dX3_greaterByNumbers_150 hl (by decide) rfl (fun ls hl => ?_)
                    refine lv_goto (tgt := 180) C0.1 C0.2.1 dX3_greaterByNumbers_152 (by decide) ?_
                    refine lv_iload C0.1 C0.2.1 dX3_greaterByNumbers_180 (lv_at hl 0 rfl) ?_
                    refine lv_if_eq (tgt := 189) C0.1 C0.2.1 dX3_greaterByNumbers_182 (by decide) (fun _ => ?_) (fun h9 => absurd h9 (by decide))
                    refine lv_iconst (v := 2) C0.1 C0.2.1 dX3_greaterByNumbers_189 (by decide) ?_
                    exact hv_iret C0 w hr hlk (⟨rfl, by rw [hres, sp_gr2, if_neg (fun h9 => c_53 (e2.mpr h9.2)), if_pos ⟨q1, q2⟩]; simp [decide_eq_true c_63, decide_eq_true c_70, decide_eq_true c_89, decide_eq_false (Int32.not_lt.mpr c_132)]⟩) dX3_greaterByNumbers_190
                  · skip
                    refine lv_iconst (v := 1) C0.1 C0.2.1 dX3_greaterByNumbers_135 (by decide) ?_
                    refine lv_goto (tgt := 140) C0.1 C0.2.1 dX3_greaterByNumbers_136 (by decide) ?_
                    refine lv_iload C0.1 C0.2.1 dX3_greaterByNumbers_140 (lv_at hl 0 rfl) ?_
                    refine lv_icmp_ne (tgt := 149) C0.1 C0.2.1 dX3_greaterByNumbers_142 (by decide) (fun h9 => absurd h9 (by decide)) (fun _ => ?_)
                    refine lv_iconst (v := 1) C0.1 C0.2.1 dX3_greaterByNumbers_145 (by decide) ?_
                    refine lv_goto (tgt := 150) C0.1 C0.2.1 dX3_greaterByNumbers_146 (by decide) ?_
                    refine lv_istore (lv' := [(5, .int 1), (6, .int 1), (4, .int 1), (0, .ref r), (1, .ref r2), (2, .int (nI (sp_mm n n2))), (3, .int (nI i))]) C0.1 C0.2.1 dX3_greaterByNumbers_150 hl (by decide) rfl (fun ls hl => ?_)
                    refine lv_goto (tgt := 180) C0.1 C0.2.1 dX3_greaterByNumbers_152 (by decide) ?_
                    refine lv_iload C0.1 C0.2.1 dX3_greaterByNumbers_180 (lv_at hl 0 rfl) ?_
                    refine lv_if_eq (tgt := 189) C0.1 C0.2.1 dX3_greaterByNumbers_182 (by decide) (fun h9 => absurd h9 (by decide)) (fun _ => ?_)
                    refine lv_iconst (v := 1) C0.1 C0.2.1 dX3_greaterByNumbers_185 (by decide) ?_
                    refine lv_goto (tgt := 190) C0.1 C0.2.1 dX3_greaterByNumbers_186 (by decide) ?_
                    exact hv_iret C0 w hr hlk (⟨rfl, by rw [hres, sp_gr2, if_neg (fun h9 => c_53 (e2.mpr h9.2)), if_pos ⟨q1, q2⟩]; simp [decide_eq_true c_63, decide_eq_true c_70, decide_eq_true c_89, decide_eq_true (Int32.not_le.mp c_132)]⟩) dX3_greaterByNumbers_190
                · skip
                  refine lv_aload_n C0.1 C0.2.1 dX3_greaterByNumbers_92 rfl (lv_at hl 1 rfl) ?_
                  refine gf_X3_15 C0 w hR rfl dX3_greaterByNumbers_93 ?_
                  refine lv_iconst (v := 1) C0.1 C0.2.1 dX3_greaterByNumbers_96 (by decide) ?_
                  refine lv_icmp_eq (tgt := 113) C0.1 C0.2.1 dX3_greaterByNumbers_97 (by decide) (fun c_97 => ?_) (fun c_97 => ?_)
                  · skip
                    refine lv_iconst (v := 1) C0.1 C0.2.1 dX3_greaterByNumbers_113 (by decide) ?_
                    refine lv_goto (tgt := 118) C0.1 C0.2.1 dX3_greaterByNumbers_114 (by decide) ?_
                    refine lv_istore (lv' := [(6, .int 1), (4, .int 1), (0, .ref r), (1, .ref r2), (2, .int (nI (sp_mm n n2))), (3, .int (nI i))]) C0.1 C0.2.1 dX3_greaterByNumbers_118 hl (by decide) rfl (fun ls hl => ?_)
                    refine lv_aload_n C0.1 C0.2.1 dX3_greaterByNumbers_120 rfl (lv_at hl 2 rfl) ?_
                    refine gf_X3_9 C0 w hR rfl dX3_greaterByNumbers_121 ?_
                    refine lv_iload_n C0.1 C0.2.1 dX3_greaterByNumbers_124 rfl (lv_at hl 5 rfl) ?_
                    refine hv_iald C0 w hB (hn_in (by omega) (by decide)) dX3_greaterByNumbers_125 ?_
                    have hc45 : (nI i).toNatClampNeg = i := nI_clamp (by omega)
                    rw [hc45]
                    refine lv_aload_n C0.1 C0.2.1 dX3_greaterByNumbers_126 rfl (lv_at hl 3 rfl) ?_
                    refine gf_X3_9 C0 w hR2 rfl dX3_greaterByNumbers_127 ?_
                    refine lv_iload_n C0.1 C0.2.1 dX3_greaterByNumbers_130 rfl (lv_at hl 5 rfl) ?_
                    refine hv_iald C0 w hB2 (hn_in (by omega) (by decide)) dX3_greaterByNumbers_131 ?_
                    have hc46 : (nI i).toNatClampNeg = i := nI_clamp (by omega)
                    rw [hc46]
                    refine lv_icmp_ge (tgt := 139) C0.1 C0.2.1 dX3_greaterByNumbers_132 (by decide) (fun c_132 => ?_) (fun c_132 => ?_)
                    · skip
                      refine lv_iconst (v := 0) C0.1 C0.2.1 dX3_greaterByNumbers_139 (by decide) ?_
                      refine lv_iload C0.1 C0.2.1 dX3_greaterByNumbers_140 (lv_at hl 0 rfl) ?_
                      refine lv_icmp_ne (tgt := 149) C0.1 C0.2.1 dX3_greaterByNumbers_142 (by decide) (fun _ => ?_) (fun h9 => absurd h9 (by decide))
                      refine lv_iconst (v := 0) C0.1 C0.2.1 dX3_greaterByNumbers_149 (by decide) ?_
                      refine lv_istore (lv' := [(5, .int 0), (6, .int 1), (4, .int 1), (0, .ref r), (1, .ref r2), (2, .int (nI (sp_mm n n2))), (3, .int (nI i))]) C0.1 C0.2.1 dX3_greaterByNumbers_150 hl (by decide) rfl (fun ls hl => ?_)
                      refine lv_goto (tgt := 180) C0.1 C0.2.1 dX3_greaterByNumbers_152 (by decide) ?_
                      refine lv_iload C0.1 C0.2.1 dX3_greaterByNumbers_180 (lv_at hl 0 rfl) ?_
                      refine lv_if_eq (tgt := 189) C0.1 C0.2.1 dX3_greaterByNumbers_182 (by decide) (fun _ => ?_) (fun h9 => absurd h9 (by decide))
                      refine lv_iconst (v := 2) C0.1 C0.2.1 dX3_greaterByNumbers_189 (by decide) ?_
                      exact hv_iret C0 w hr hlk (⟨rfl, by rw [hres, sp_gr2, if_neg (fun h9 => c_53 (e2.mpr h9.2)), if_pos ⟨q1, q2⟩]; simp [decide_eq_true c_63, decide_eq_true c_70, decide_eq_false c_89, decide_eq_true c_97, decide_eq_false (Int32.not_lt.mpr c_132)]⟩) dX3_greaterByNumbers_190
                    · skip
                      refine lv_iconst (v := 1) C0.1 C0.2.1 dX3_greaterByNumbers_135 (by decide) ?_
                      refine lv_goto (tgt := 140) C0.1 C0.2.1 dX3_greaterByNumbers_136 (by decide) ?_
                      refine lv_iload C0.1 C0.2.1 dX3_greaterByNumbers_140 (lv_at hl 0 rfl) ?_
                      refine lv_icmp_ne (tgt := 149) C0.1 C0.2.1 dX3_greaterByNumbers_142 (by decide) (fun h9 => absurd h9 (by decide)) (fun _ => ?_)
                      refine lv_iconst (v := 1) C0.1 C0.2.1 dX3_greaterByNumbers_145 (by decide) ?_
                      refine lv_goto (tgt := 150) C0.1 C0.2.1 dX3_greaterByNumbers_146 (by decide) ?_
                      refine lv_istore (lv' := [(5, .int 1), (6, .int 1), (4, .int 1), (0, .ref r), (1, .ref r2), (2, .int (nI (sp_mm n n2))), (3, .int (nI i))]) C0.1 C0.2.1 dX3_greaterByNumbers_150 hl (by decide) rfl (fun ls hl => ?_)
                      refine lv_goto (tgt := 180) C0.1 C0.2.1 dX3_greaterByNumbers_152 (by decide) ?_
                      refine lv_iload C0.1 C0.2.1 dX3_greaterByNumbers_180 (lv_at hl 0 rfl) ?_
                      refine lv_if_eq (tgt := 189) C0.1 C0.2.1 dX3_greaterByNumbers_182 (by decide) (fun h9 => absurd h9 (by decide)) (fun _ => ?_)
                      refine lv_iconst (v := 1) C0.1 C0.2.1 dX3_greaterByNumbers_185 (by decide) ?_
                      refine lv_goto (tgt := 190) C0.1 C0.2.1 dX3_greaterByNumbers_186 (by decide) ?_
                      exact hv_iret C0 w hr hlk (⟨rfl, by rw [hres, sp_gr2, if_neg (fun h9 => c_53 (e2.mpr h9.2)), if_pos ⟨q1, q2⟩]; simp [decide_eq_true c_63, decide_eq_true c_70, decide_eq_false c_89, decide_eq_true c_97, decide_eq_true (Int32.not_le.mp c_132)]⟩) dX3_greaterByNumbers_190
                  · skip
                    refine lv_aload_n C0.1 C0.2.1 dX3_greaterByNumbers_100 rfl (lv_at hl 1 rfl) ?_
                    refine gf_X3_15 C0 w hR rfl dX3_greaterByNumbers_101 ?_
                    refine lv_iconst (v := 2) C0.1 C0.2.1 dX3_greaterByNumbers_104 (by decide) ?_
                    refine lv_icmp_ne (tgt := 117) C0.1 C0.2.1 dX3_greaterByNumbers_105 (by decide) (fun c_105 => ?_) (fun c_105 => ?_)
                    · skip
                      refine lv_iconst (v := 0) C0.1 C0.2.1 dX3_greaterByNumbers_117 (by decide) ?_
                      refine lv_istore (lv' := [(6, .int 0), (4, .int 1), (0, .ref r), (1, .ref r2), (2, .int (nI (sp_mm n n2))), (3, .int (nI i))]) C0.1 C0.2.1 dX3_greaterByNumbers_118 hl (by decide) rfl (fun ls hl => ?_)
                      refine lv_aload_n C0.1 C0.2.1 dX3_greaterByNumbers_120 rfl (lv_at hl 2 rfl) ?_
                      refine gf_X3_9 C0 w hR rfl dX3_greaterByNumbers_121 ?_
                      refine lv_iload_n C0.1 C0.2.1 dX3_greaterByNumbers_124 rfl (lv_at hl 5 rfl) ?_
                      refine hv_iald C0 w hB (hn_in (by omega) (by decide)) dX3_greaterByNumbers_125 ?_
                      have hc47 : (nI i).toNatClampNeg = i := nI_clamp (by omega)
                      rw [hc47]
                      refine lv_aload_n C0.1 C0.2.1 dX3_greaterByNumbers_126 rfl (lv_at hl 3 rfl) ?_
                      refine gf_X3_9 C0 w hR2 rfl dX3_greaterByNumbers_127 ?_
                      refine lv_iload_n C0.1 C0.2.1 dX3_greaterByNumbers_130 rfl (lv_at hl 5 rfl) ?_
                      refine hv_iald C0 w hB2 (hn_in (by omega) (by decide)) dX3_greaterByNumbers_131 ?_
                      have hc48 : (nI i).toNatClampNeg = i := nI_clamp (by omega)
                      rw [hc48]
                      refine lv_icmp_ge (tgt := 139) C0.1 C0.2.1 dX3_greaterByNumbers_132 (by decide) (fun c_132 => ?_) (fun c_132 => ?_)
                      · skip
                        refine lv_iconst (v := 0) C0.1 C0.2.1 dX3_greaterByNumbers_139 (by decide) ?_
                        refine lv_iload C0.1 C0.2.1 dX3_greaterByNumbers_140 (lv_at hl 0 rfl) ?_
                        refine lv_icmp_ne (tgt := 149) C0.1 C0.2.1 dX3_greaterByNumbers_142 (by decide) (fun h9 => absurd h9 (by decide)) (fun _ => ?_)
                        refine lv_iconst (v := 1) C0.1 C0.2.1 dX3_greaterByNumbers_145 (by decide) ?_
                        refine lv_goto (tgt := 150) C0.1 C0.2.1 dX3_greaterByNumbers_146 (by decide) ?_
                        refine lv_istore (lv' := [(5, .int 1), (6, .int 0), (4, .int 1), (0, .ref r), (1, .ref r2), (2, .int (nI (sp_mm n n2))), (3, .int (nI i))]) C0.1 C0.2.1 dX3_greaterByNumbers_150 hl (by decide) rfl (fun ls hl => ?_)
                        refine lv_goto (tgt := 180) C0.1 C0.2.1 dX3_greaterByNumbers_152 (by decide) ?_
                        refine lv_iload C0.1 C0.2.1 dX3_greaterByNumbers_180 (lv_at hl 0 rfl) ?_
                        refine lv_if_eq (tgt := 189) C0.1 C0.2.1 dX3_greaterByNumbers_182 (by decide) (fun h9 => absurd h9 (by decide)) (fun _ => ?_)
                        refine lv_iconst (v := 1) C0.1 C0.2.1 dX3_greaterByNumbers_185 (by decide) ?_
                        refine lv_goto (tgt := 190) C0.1 C0.2.1 dX3_greaterByNumbers_186 (by decide) ?_
                        exact hv_iret C0 w hr hlk (⟨rfl, by first | exact absurd c_105 c_63 | exact absurd c_63 c_105⟩) dX3_greaterByNumbers_190
                      · skip
                        refine lv_iconst (v := 1) C0.1 C0.2.1 dX3_greaterByNumbers_135 (by decide) ?_
                        refine lv_goto (tgt := 140) C0.1 C0.2.1 dX3_greaterByNumbers_136 (by decide) ?_
                        refine lv_iload C0.1 C0.2.1 dX3_greaterByNumbers_140 (lv_at hl 0 rfl) ?_
                        refine lv_icmp_ne (tgt := 149) C0.1 C0.2.1 dX3_greaterByNumbers_142 (by decide) (fun _ => ?_) (fun h9 => absurd h9 (by decide))
                        refine lv_iconst (v := 0) C0.1 C0.2.1 dX3_greaterByNumbers_149 (by decide) ?_
                        refine lv_istore (lv' := [(5, .int 0), (6, .int 0), (4, .int 1), (0, .ref r), (1, .ref r2), (2, .int (nI (sp_mm n n2))), (3, .int (nI i))]) C0.1 C0.2.1 dX3_greaterByNumbers_150 hl (by decide) rfl (fun ls hl => ?_)
                        refine lv_goto (tgt := 180) C0.1 C0.2.1 dX3_greaterByNumbers_152 (by decide) ?_
                        refine lv_iload C0.1 C0.2.1 dX3_greaterByNumbers_180 (lv_at hl 0 rfl) ?_
                        refine lv_if_eq (tgt := 189) C0.1 C0.2.1 dX3_greaterByNumbers_182 (by decide) (fun _ => ?_) (fun h9 => absurd h9 (by decide))
                        refine lv_iconst (v := 2) C0.1 C0.2.1 dX3_greaterByNumbers_189 (by decide) ?_
                        exact hv_iret C0 w hr hlk (⟨rfl, by first | exact absurd c_105 c_63 | exact absurd c_63 c_105⟩) dX3_greaterByNumbers_190
                    · skip
                      refine lv_iload C0.1 C0.2.1 dX3_greaterByNumbers_108 (lv_at hl 0 rfl) ?_
                      refine lv_if_ne (tgt := 117) C0.1 C0.2.1 dX3_greaterByNumbers_110 (by decide) (fun _ => ?_) (fun h9 => absurd h9 (by decide))
                      refine lv_iconst (v := 0) C0.1 C0.2.1 dX3_greaterByNumbers_117 (by decide) ?_
                      refine lv_istore (lv' := [(6, .int 0), (4, .int 1), (0, .ref r), (1, .ref r2), (2, .int (nI (sp_mm n n2))), (3, .int (nI i))]) C0.1 C0.2.1 dX3_greaterByNumbers_118 hl (by decide) rfl (fun ls hl => ?_)
                      refine lv_aload_n C0.1 C0.2.1 dX3_greaterByNumbers_120 rfl (lv_at hl 2 rfl) ?_
                      refine gf_X3_9 C0 w hR rfl dX3_greaterByNumbers_121 ?_
                      refine lv_iload_n C0.1 C0.2.1 dX3_greaterByNumbers_124 rfl (lv_at hl 5 rfl) ?_
                      refine hv_iald C0 w hB (hn_in (by omega) (by decide)) dX3_greaterByNumbers_125 ?_
                      have hc49 : (nI i).toNatClampNeg = i := nI_clamp (by omega)
                      rw [hc49]
                      refine lv_aload_n C0.1 C0.2.1 dX3_greaterByNumbers_126 rfl (lv_at hl 3 rfl) ?_
                      refine gf_X3_9 C0 w hR2 rfl dX3_greaterByNumbers_127 ?_
                      refine lv_iload_n C0.1 C0.2.1 dX3_greaterByNumbers_130 rfl (lv_at hl 5 rfl) ?_
                      refine hv_iald C0 w hB2 (hn_in (by omega) (by decide)) dX3_greaterByNumbers_131 ?_
                      have hc50 : (nI i).toNatClampNeg = i := nI_clamp (by omega)
                      rw [hc50]
                      refine lv_icmp_ge (tgt := 139) C0.1 C0.2.1 dX3_greaterByNumbers_132 (by decide) (fun c_132 => ?_) (fun c_132 => ?_)
                      · skip
                        refine lv_iconst (v := 0) C0.1 C0.2.1 dX3_greaterByNumbers_139 (by decide) ?_
                        refine lv_iload C0.1 C0.2.1 dX3_greaterByNumbers_140 (lv_at hl 0 rfl) ?_
                        refine lv_icmp_ne (tgt := 149) C0.1 C0.2.1 dX3_greaterByNumbers_142 (by decide) (fun h9 => absurd h9 (by decide)) (fun _ => ?_)
                        refine lv_iconst (v := 1) C0.1 C0.2.1 dX3_greaterByNumbers_145 (by decide) ?_
                        refine lv_goto (tgt := 150) C0.1 C0.2.1 dX3_greaterByNumbers_146 (by decide) ?_
                        refine lv_istore (lv' := [(5, .int 1), (6, .int 0), (4, .int 1), (0, .ref r), (1, .ref r2), (2, .int (nI (sp_mm n n2))), (3, .int (nI i))]) C0.1 C0.2.1 dX3_greaterByNumbers_150 hl (by decide) rfl (fun ls hl => ?_)
                        refine lv_goto (tgt := 180) C0.1 C0.2.1 dX3_greaterByNumbers_152 (by decide) ?_
                        refine lv_iload C0.1 C0.2.1 dX3_greaterByNumbers_180 (lv_at hl 0 rfl) ?_
                        refine lv_if_eq (tgt := 189) C0.1 C0.2.1 dX3_greaterByNumbers_182 (by decide) (fun h9 => absurd h9 (by decide)) (fun _ => ?_)
                        refine lv_iconst (v := 1) C0.1 C0.2.1 dX3_greaterByNumbers_185 (by decide) ?_
                        refine lv_goto (tgt := 190) C0.1 C0.2.1 dX3_greaterByNumbers_186 (by decide) ?_
                        exact hv_iret C0 w hr hlk (⟨rfl, by rw [hres, sp_gr2, if_neg (fun h9 => c_53 (e2.mpr h9.2)), if_pos ⟨q1, q2⟩]; simp [decide_eq_true c_63, decide_eq_true c_70, decide_eq_false c_89, decide_eq_false c_97, decide_eq_true c_105, decide_eq_false (Int32.not_lt.mpr c_132)]⟩) dX3_greaterByNumbers_190
                      · skip
                        refine lv_iconst (v := 1) C0.1 C0.2.1 dX3_greaterByNumbers_135 (by decide) ?_
                        refine lv_goto (tgt := 140) C0.1 C0.2.1 dX3_greaterByNumbers_136 (by decide) ?_
                        refine lv_iload C0.1 C0.2.1 dX3_greaterByNumbers_140 (lv_at hl 0 rfl) ?_
                        refine lv_icmp_ne (tgt := 149) C0.1 C0.2.1 dX3_greaterByNumbers_142 (by decide) (fun _ => ?_) (fun h9 => absurd h9 (by decide))
                        refine lv_iconst (v := 0) C0.1 C0.2.1 dX3_greaterByNumbers_149 (by decide) ?_
                        refine lv_istore (lv' := [(5, .int 0), (6, .int 0), (4, .int 1), (0, .ref r), (1, .ref r2), (2, .int (nI (sp_mm n n2))), (3, .int (nI i))]) C0.1 C0.2.1 dX3_greaterByNumbers_150 hl (by decide) rfl (fun ls hl => ?_)
                        refine lv_goto (tgt := 180) C0.1 C0.2.1 dX3_greaterByNumbers_152 (by decide) ?_
                        refine lv_iload C0.1 C0.2.1 dX3_greaterByNumbers_180 (lv_at hl 0 rfl) ?_
                        refine lv_if_eq (tgt := 189) C0.1 C0.2.1 dX3_greaterByNumbers_182 (by decide) (fun _ => ?_) (fun h9 => absurd h9 (by decide))
                        refine lv_iconst (v := 2) C0.1 C0.2.1 dX3_greaterByNumbers_189 (by decide) ?_
                        exact hv_iret C0 w hr hlk (⟨rfl, by rw [hres, sp_gr2, if_neg (fun h9 => c_53 (e2.mpr h9.2)), if_pos ⟨q1, q2⟩]; simp [decide_eq_true c_63, decide_eq_true c_70, decide_eq_false c_89, decide_eq_false c_97, decide_eq_true c_105, decide_eq_true (Int32.not_le.mp c_132)]⟩) dX3_greaterByNumbers_190
          · skip
            refine lv_iconst (v := 0) C0.1 C0.2.1 dX3_greaterByNumbers_56 (by decide) ?_
            exact hv_iret C0 w hr hlk (⟨rfl, by rw [hres, sp_gr2, if_pos ⟨e1.mp c_45, e2.mp c_53⟩]⟩) dX3_greaterByNumbers_57
      · skip
        refine lv_iinc (v := (nI i) + 1) (lv' := [(3, .int ((nI i) + 1)), (0, .ref r), (1, .ref r2), (2, .int (nI (sp_mm n n2)))]) C0.1 C0.2.1 dX3_greaterByNumbers_34 hl (k := 3) rfl rfl (by decide) rfl (fun ls hl => ?_)
        refine lv_goto (tgt := 14) C0.1 C0.2.1 dX3_greaterByNumbers_37 (by decide) ?_
        exact ih (i + 1) _ _ ls (by omega) (by rw [← he, sp_dif, if_pos c_31]) w (by have h9 := (lv_sub (l' := [(0, .ref r), (1, .ref r2), (2, .int (nI (sp_mm n n2))), (3, .int (nI i + 1))]) hl [1, 2, 3, 0] rfl); rw [nI_1] at h9; exact h9)
  refine lv_aload_n C0.1 C0.2.1 dX3_greaterByNumbers_0 rfl (lv_at hl 0 rfl) ?_
  refine gf_X3_19 C0 w hR rfl dX3_greaterByNumbers_1 ?_
  refine lv_aload_n C0.1 C0.2.1 dX3_greaterByNumbers_4 rfl (lv_at hl 1 rfl) ?_
  refine gf_X3_19 C0 w hR2 rfl dX3_greaterByNumbers_5 ?_
  refine va_mmin C0.1 C0.2.1 (C0.2.2.1.trans hl.1.symm) C0.2.2.2.1 (C0.2.2.2.2.1 _ kj_X3_34) (C0.2.2.2.2.1 _ kj_min_s) (C0.2.2.2.2.1 _ kj_Math) (C0.2.2.2.2.1 _ kj_min_c) (by decide) (Nat.le_of_ble_eq_true rfl) (Nat.le_refl _) (Nat.le_refl _) dX3_greaterByNumbers_8 ?_
  rw [sp_mm_nI hn hn2]
  refine lv_istore_n (lv' := [(2, .int (nI (sp_mm n n2))), (0, .ref r), (1, .ref r2)]) C0.1 C0.2.1 dX3_greaterByNumbers_11 rfl hl (by decide) rfl (fun ls hl => ?_)
  refine lv_iconst (v := 0) C0.1 C0.2.1 dX3_greaterByNumbers_12 (by decide) ?_
  refine lv_istore_n (lv' := [(3, .int 0), (2, .int (nI (sp_mm n n2))), (0, .ref r), (1, .ref r2)]) C0.1 C0.2.1 dX3_greaterByNumbers_13 rfl hl (by decide) rfl (fun ls hl => ?_)
  exact loop (sp_mm n n2) 0 _ _ ls (by omega) rfl w (lv_sub hl [2, 3, 1, 0] rfl)

set_option maxHeartbeats 4000000 in
set_option maxRecDepth 100000 in
theorem c_X3_undergo {l : Launch} {X : hv_X} {V : hv_V} {r b n : Nat} {kd : Int32} {f : Nat → Int32} (hR : V r = some (rE kd n b)) (hB : V b = some (nE X f)) (hn : n ≤ 16) {k : Int32} : hv_Mv l X 1 yX3_undergo cX3_undergo 3 V [.ref r, .int k] (fun V1 => V1 = hv_up (hv_up V r (rE (sp_und k kd n f).1 (sp_und k kd n f).2.1 b)) b (nE X (sp_und k kd n f).2.2)) := by
  refine hv_enter (by decide) (Nat.le_of_ble_eq_true rfl) ?_
  intro p e s m below meth c ls C0 hr hlk hnm w hl
  have hl : lv_has ls 3 [(0, .ref r), (1, .int k)] := hl
  have hrb : r ≠ b := hv_ne hR hB (by intro h9; simp at h9)
  have loop : ∀ (hk0 : ¬ k = 0) (hk1 : k = 1) (m9 i : Nat) (Hq : Heap) (lq : List Loc) (ls : Array Slot), (i + m9 = n) → hv_w X s (hv_up V b (nE X (sp_inc f i))) Hq lq → lv_has ls 3 [(0, .ref r), (2, .int (nI i))] → W p l e (hv_rm 1 0 0) s m ([.ref r, .int k] : List Value).toArray below meth c Hq lq 0 0 (MQ below (hv_Qv X (fun V1 => V1 = hv_up (hv_up V r (rE (sp_und k kd n f).1 (sp_und k kd n f).2.1 b)) b (nE X (sp_und k kd n f).2.2))) ([.ref r, .int k] : List Value).toArray s 0 0 X.2.2.1) (F0 m 28 ls []) := by
    intro hk0 hk1 m9
    induction m9 with
    | zero =>
      intro i Hq lq ls hi w hl
      have hi : i = n := hi
      obtain ⟨V8, e8⟩ : ∃ V8, V8 = hv_up V b (nE X (sp_inc f i)) := ⟨_, rfl⟩
      rw [← e8] at w
      have hR8 : V8 r = some (rE kd n b) := by rw [e8, hv_un hrb]; exact hR
      have hB8 : V8 b = some (nE X (sp_inc f i)) := by rw [e8]; exact hv_us
      refine lv_iload_n C0.1 C0.2.1 dX3_undergo_28 rfl (lv_at hl 1 rfl) ?_
      refine lv_aload_n C0.1 C0.2.1 dX3_undergo_29 rfl (lv_at hl 0 rfl) ?_
      refine gf_X3_19 C0 w hR8 rfl dX3_undergo_30 ?_
      refine lv_icmp_ge (tgt := 61) C0.1 C0.2.1 dX3_undergo_33 (by decide) (fun c_33 => ?_) (fun c_33 => absurd (nI_le (by omega) (by omega)) c_33)
      refine lv_goto (tgt := 76) C0.1 C0.2.1 dX3_undergo_61 (by decide) ?_
      exact hv_vret C0 w hr hlk (by rw [e8, show sp_und k kd n f = (kd, n, sp_inc f n) from by rw [sp_und, if_neg hk0, if_pos hk1], hi, hv_id hR]) dX3_undergo_76
    | succ m9 ih =>
      intro i Hq lq ls hi w hl
      obtain ⟨V8, e8⟩ : ∃ V8, V8 = hv_up V b (nE X (sp_inc f i)) := ⟨_, rfl⟩
      rw [← e8] at w
      have hR8 : V8 r = some (rE kd n b) := by rw [e8, hv_un hrb]; exact hR
      have hB8 : V8 b = some (nE X (sp_inc f i)) := by rw [e8]; exact hv_us
      refine lv_iload_n C0.1 C0.2.1 dX3_undergo_28 rfl (lv_at hl 1 rfl) ?_
      refine lv_aload_n C0.1 C0.2.1 dX3_undergo_29 rfl (lv_at hl 0 rfl) ?_
      refine gf_X3_19 C0 w hR8 rfl dX3_undergo_30 ?_
      refine lv_icmp_ge (tgt := 61) C0.1 C0.2.1 dX3_undergo_33 (by decide) (fun c_33 => absurd c_33 (nI_ge (by omega) (by omega))) (fun c_33 => ?_)
      refine lv_aload_n C0.1 C0.2.1 dX3_undergo_36 rfl (lv_at hl 0 rfl) ?_
      refine gf_X3_9 C0 w hR8 rfl dX3_undergo_37 ?_
      refine lv_iload_n C0.1 C0.2.1 dX3_undergo_40 rfl (lv_at hl 1 rfl) ?_
      refine lv_aload_n C0.1 C0.2.1 dX3_undergo_41 rfl (lv_at hl 0 rfl) ?_
      refine gf_X3_9 C0 w hR8 rfl dX3_undergo_42 ?_
      refine lv_iload_n C0.1 C0.2.1 dX3_undergo_45 rfl (lv_at hl 1 rfl) ?_
      refine hv_iald C0 w hB8 (hn_in (by omega) (by decide)) dX3_undergo_46 ?_
      have hc1 : (nI i).toNatClampNeg = i := nI_clamp (by omega)
      rw [hc1]
      refine lv_iconst (v := 1) C0.1 C0.2.1 dX3_undergo_47 (by decide) ?_
      refine lv_iadd C0.1 C0.2.1 dX3_undergo_48 ?_
      refine lv_ldc C0.1 C0.2.1 C0.2.2.2.1 (C0.2.2.2.2.1 _ kk_X3_96) dX3_undergo_49 ?_
      refine va_mmin C0.1 C0.2.1 (C0.2.2.1.trans hl.1.symm) C0.2.2.2.1 (C0.2.2.2.2.1 _ kj_X3_34) (C0.2.2.2.2.1 _ kj_min_s) (C0.2.2.2.2.1 _ kj_Math) (C0.2.2.2.2.1 _ kj_min_c) (by decide) (Nat.le_of_ble_eq_true rfl) (Nat.le_refl _) (Nat.le_refl _) dX3_undergo_51 ?_
      refine hv_iast C0 w hB8 (hn_in (by omega) (by decide)) dX3_undergo_54 (fun Hq lq w => ?_)
      have hc2 : (nI i).toNatClampNeg = i := nI_clamp (by omega)
      rw [hc2] at w
      obtain ⟨V3, eV4⟩ : ∃ V9, V9 = hv_up V8 b (.inl (X.2.1 0, 16, .inl (upd (sp_inc f i) i (if 1000000000 < (((sp_inc f i) i) + 1) then 1000000000 else (((sp_inc f i) i) + 1))))) := ⟨_, rfl⟩
      have w : hv_w X s V3 Hq lq := by rw [eV4]; exact w
      have hV5 : V3 r = some (rE kd n b) := by rw [eV4, hv_un (hv_ne hR8 hB8 (by intro h9; simp at h9))]; exact hR8
      have hV7 : V3 b = some (.inl (X.2.1 0, 16, .inl (upd (sp_inc f i) i (if 1000000000 < (((sp_inc f i) i) + 1) then 1000000000 else (((sp_inc f i) i) + 1))))) := by rw [eV4]; exact hv_us
      refine lv_iinc (v := (nI i) + 1) (lv' := [(2, .int ((nI i) + 1)), (0, .ref r)]) C0.1 C0.2.1 dX3_undergo_55 hl (k := 1) rfl rfl (by decide) rfl (fun ls hl => ?_)
      refine lv_goto (tgt := 28) C0.1 C0.2.1 dX3_undergo_58 (by decide) ?_
      rw [sp_incn] at eV4
      exact ih (i + 1) _ _ ls (by omega) (by rw [eV4, e8, hv_uu] at w; rw [← sp_incs]; exact w) (by have h9 := (lv_sub (l' := [(0, .ref r), (2, .int (nI i + 1))]) hl [1, 0] rfl); rw [nI_1] at h9; exact h9)
  refine lv_iload_n C0.1 C0.2.1 dX3_undergo_0 rfl (lv_at hl 1 rfl) ?_
  refine lv_if_ne (tgt := 21) C0.1 C0.2.1 dX3_undergo_1 (by decide) (fun c_1 => ?_) (fun c_1 => ?_)
  · skip
    refine lv_iload_n C0.1 C0.2.1 dX3_undergo_21 rfl (lv_at hl 1 rfl) ?_
    refine lv_iconst (v := 1) C0.1 C0.2.1 dX3_undergo_22 (by decide) ?_
    refine lv_icmp_ne (tgt := 64) C0.1 C0.2.1 dX3_undergo_23 (by decide) (fun c_23 => ?_) (fun c_23 => ?_)
    · skip
      refine lv_aload_n C0.1 C0.2.1 dX3_undergo_64 rfl (lv_at hl 0 rfl) ?_
      refine lv_aload_n C0.1 C0.2.1 dX3_undergo_65 rfl (lv_at hl 0 rfl) ?_
      refine gf_X3_15 C0 w hR rfl dX3_undergo_66 ?_
      refine lv_iconst (v := 1) C0.1 C0.2.1 dX3_undergo_69 (by decide) ?_
      refine lv_iadd C0.1 C0.2.1 dX3_undergo_70 ?_
      refine lv_iconst (v := 4) C0.1 C0.2.1 dX3_undergo_71 (by decide) ?_
      refine lv_irem C0.1 C0.2.1 dX3_undergo_72 (by decide) ?_
      refine pf_X3_15 C0 w hR (by simp) dX3_undergo_73 (fun Hq lq w => ?_)
      obtain ⟨V1, eV2⟩ : ∃ V9, V9 = hv_up V r (.inr (3, [.int ((kd + 1) - (kd + 1) / 4 * 4), .int (nI n), .ref b])) := ⟨_, rfl⟩
      have w : hv_w X s V1 Hq lq := by rw [eV2]; exact w
      have hV4 : V1 b = some (.inl (X.2.1 0, 16, .inl f)) := by rw [eV2, hv_un (hv_ne hB hR (by intro h9; simp at h9))]; exact hB
      have hV5 : V1 r = some (.inr (3, [.int ((kd + 1) - (kd + 1) / 4 * 4), .int (nI n), .ref b])) := by rw [eV2]; exact hv_us
      exact hv_vret C0 w hr hlk (by rw [show sp_und k kd n f = (kd + 1 - (kd + 1) / 4 * 4, n, f) from by rw [sp_und, if_neg c_1, if_neg c_23], eV2]; exact (hv_id (by rw [hv_un (Ne.symm hrb)]; exact hB)).symm) dX3_undergo_76
    · skip
      refine lv_iconst (v := 0) C0.1 C0.2.1 dX3_undergo_26 (by decide) ?_
      refine lv_istore_n (lv' := [(2, .int 0), (0, .ref r), (1, .int k)]) C0.1 C0.2.1 dX3_undergo_27 rfl hl (by decide) rfl (fun ls hl => ?_)
      exact loop c_1 c_23 n 0 _ _ ls (by omega) (by rw [sp_inc0, hv_id hB]; exact w) (lv_sub hl [1, 0] rfl)
  · skip
    refine lv_aload_n C0.1 C0.2.1 dX3_undergo_4 rfl (lv_at hl 0 rfl) ?_
    refine lv_iconst (v := 0) C0.1 C0.2.1 dX3_undergo_5 (by decide) ?_
    refine lv_aload_n C0.1 C0.2.1 dX3_undergo_6 rfl (lv_at hl 0 rfl) ?_
    refine gf_X3_19 C0 w hR rfl dX3_undergo_7 ?_
    refine lv_iconst (v := 1) C0.1 C0.2.1 dX3_undergo_10 (by decide) ?_
    refine lv_isub C0.1 C0.2.1 dX3_undergo_11 ?_
    refine va_mmax C0.1 C0.2.1 (C0.2.2.1.trans hl.1.symm) C0.2.2.2.1 (C0.2.2.2.2.1 _ kj_X3_93) (C0.2.2.2.2.1 _ kj_max_s) (C0.2.2.2.2.1 _ kj_Math) (C0.2.2.2.2.1 _ kj_max_c) (by decide) (Nat.le_of_ble_eq_true rfl) (Nat.le_refl _) (Nat.le_refl _) dX3_undergo_12 ?_
    rw [hs_pred hn]
    refine pf_X3_19 C0 w hR (by simp) dX3_undergo_15 (fun Hq lq w => ?_)
    obtain ⟨V6, eV7⟩ : ∃ V9, V9 = hv_up V r (.inr (3, [.int kd, .int (nI (n - 1)), .ref b])) := ⟨_, rfl⟩
    have w : hv_w X s V6 Hq lq := by rw [eV7]; exact w
    have hV9 : V6 b = some (.inl (X.2.1 0, 16, .inl f)) := by rw [eV7, hv_un (hv_ne hB hR (by intro h9; simp at h9))]; exact hB
    have hV10 : V6 r = some (.inr (3, [.int kd, .int (nI (n - 1)), .ref b])) := by rw [eV7]; exact hv_us
    refine lv_goto (tgt := 76) C0.1 C0.2.1 dX3_undergo_18 (by decide) ?_
    exact hv_vret C0 w hr hlk (by rw [show sp_und k kd n f = (kd, n - 1, f) from by rw [sp_und, if_pos c_1], eV7]; exact (hv_id (by rw [hv_un (Ne.symm hrb)]; exact hB)).symm) dX3_undergo_76

