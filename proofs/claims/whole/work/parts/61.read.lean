/-! READ: the text taken apart -/
abbrev rd_T : Type := Nat × (Nat → Int32)
/-- signs of word i that stand from p on: m more may, k are found -/
def rd_al (T : rd_T) (i p : Nat) : Nat → Nat → Nat
  | 0, k => k
  | m + 1, k => if p + k < T.1 ∧ T.2 (p + k) = (hv_byt.getD i []).getD k 0 then rd_al T i p m (k + 1) else k
def rd_a (T : rd_T) (p i : Nat) : Nat := rd_al T i p (hv_len.getD i 0) 0
def rd_mx (a b : Nat) : Nat := if a < b then b else a
def rd_w (T : rd_T) (p : Nat) : Nat × Nat := if rd_a T p 0 = 6 then (0, 6) else if rd_a T p 1 = 3 then (1, 3) else if rd_a T p 2 = 3 then (2, 3) else if rd_a T p 3 = 3 then (3, 3) else if rd_a T p 4 = 4 then (4, 4) else (5, rd_mx (rd_mx (rd_mx (rd_mx (rd_a T p 0) (rd_a T p 1)) (rd_a T p 2)) (rd_a T p 3)) (rd_a T p 4))
/-- digits: m more may come, v is read -/
def rd_d (T : rd_T) : Nat → Nat → Nat → Nat × Nat
  | 0, p, v => (p, v)
  | m + 1, p, v => if p < T.1 ∧ 48 ≤ T.2 p ∧ T.2 p ≤ 57 then rd_d T m (p + 1) (v * 10 + ((T.2 p).toNatClampNeg - 48)) else (p, v)
abbrev rd_sp (T : rd_T) (p : Nat) : Prop := p < T.1 ∧ T.2 p = 32
def rd_e (T : rd_T) (p : Nat) : Nat := if rd_sp T p then (rd_d T 9 (p + 1) 0).1 else p
def rd_n (T : rd_T) (p : Nat) : Nat := (rd_d T 9 (p + 1) 0).2
abbrev rd_ok (T : rd_T) (p : Nat) : Prop := rd_sp T p ∧ p + 1 < (rd_d T 9 (p + 1) 0).1
/-- where value k of the clause at p begins -/
def rd_q (T : rd_T) (p : Nat) : Nat → Nat
  | 0 => p + (rd_w T p).2
  | k + 1 => rd_e T (rd_q T p k)
def rd_due (w : Nat) : Nat := if w = 0 then 4 else 2
/-- m values more, k are there -/
def rd_cl (T : rd_T) (p : Nat) : Nat → Nat → Bool × Nat
  | 0, k => (true, rd_q T p k)
  | m + 1, k => if rd_ok T (rd_q T p k) then rd_cl T p m (k + 1) else (false, rd_e T (rd_q T p k))
def rd_c (T : rd_T) (p : Nat) : Bool × Nat := if (rd_w T p).1 = 5 then (false, p + (rd_w T p).2) else rd_cl T p (rd_due (rd_w T p).1) 0
/-- where clause k begins -/
def rd_P (T : rd_T) : Nat → Nat
  | 0 => 0
  | k + 1 => (rd_c T (rd_P T k)).2 + 1
def rd_all (T : rd_T) : Nat → Nat → Bool × Nat × Nat
  | 0, k => (false, rd_P T k, k)
  | m + 1, k => if (rd_c T (rd_P T k)).1 = true then (if T.1 ≤ (rd_c T (rd_P T k)).2 then (true, (rd_c T (rd_P T k)).2, k + 1) else if m = 0 ∨ ¬ T.2 (rd_c T (rd_P T k)).2 = 59 then (false, (rd_c T (rd_P T k)).2, k + 1) else rd_all T m (k + 1)) else (false, (rd_c T (rd_P T k)).2, k)
theorem rd_mxe (a b : Nat) : (rd_mx a b = a ∧ b ≤ a) ∨ (rd_mx a b = b ∧ a < b) := by
  unfold rd_mx
  by_cases h : a < b
  · rw [if_pos h]; exact Or.inr ⟨rfl, h⟩
  · rw [if_neg h]; exact Or.inl ⟨rfl, Nat.not_lt.mp h⟩
theorem rd_alb (T : rd_T) (i p : Nat) : ∀ m k : Nat, k ≤ rd_al T i p m k ∧ rd_al T i p m k ≤ k + m ∧ (p + k ≤ T.1 → p + rd_al T i p m k ≤ T.1)
  | 0, k => ⟨Nat.le_refl _, Nat.le_refl _, fun h => h⟩
  | m + 1, k => by
    have ih := rd_alb T i p m (k + 1)
    rw [rd_al]
    by_cases h : p + k < T.1 ∧ T.2 (p + k) = (hv_byt.getD i []).getD k 0
    · rw [if_pos h]; exact ⟨by omega, by omega, fun _ => ih.2.2 (by omega)⟩
    · rw [if_neg h]; exact ⟨Nat.le_refl _, by omega, fun q => q⟩
theorem rd_ab {T : rd_T} {p i : Nat} : rd_a T p i ≤ hv_len.getD i 0 := by
  have := (rd_alb T i p (hv_len.getD i 0) 0).2.1
  unfold rd_a
  omega
theorem rd_an {T : rd_T} {p i : Nat} (h : p ≤ T.1) : p + rd_a T p i ≤ T.1 := (rd_alb T i p (hv_len.getD i 0) 0).2.2 h
/-- a sign that is found is the word's -/
theorem rd_alc (T : rd_T) (i p : Nat) : ∀ m k j : Nat, k ≤ j → j < rd_al T i p m k → T.2 (p + j) = (hv_byt.getD i []).getD j 0
  | 0, k, j, h1, h2 => absurd (show j < k from h2) (by omega)
  | m + 1, k, j, h1, h2 => by
    rw [rd_al] at h2
    by_cases h : p + k < T.1 ∧ T.2 (p + k) = (hv_byt.getD i []).getD k 0
    · rw [if_pos h] at h2
      by_cases q : j = k
      · rw [q]; exact h.2
      · exact rd_alc T i p m (k + 1) j (by omega) h2
    · rw [if_neg h] at h2; exact absurd h2 (by omega)
theorem rd_ac {T : rd_T} {p i j : Nat} (h : j < rd_a T p i) : T.2 (p + j) = (hv_byt.getD i []).getD j 0 := rd_alc T i p _ 0 j (Nat.zero_le _) h
theorem rd_x {T : rd_T} {p i j k : Nat} (hne : (hv_byt.getD i []).getD k 0 ≠ (hv_byt.getD j []).getD k 0) : rd_a T p i ≤ k ∨ rd_a T p j ≤ k := by
  rcases Nat.lt_or_ge k (rd_a T p i) with h1 | h1
  · rcases Nat.lt_or_ge k (rd_a T p j) with h2 | h2
    · exact absurd ((rd_ac h1).symm.trans (rd_ac h2)) hne
    · exact Or.inr h2
  · exact Or.inl h1
/-- what is known of the five words at once -/
theorem rd_five (T : rd_T) (p : Nat) : (rd_a T p 0 ≤ 6 ∧ rd_a T p 1 ≤ 3 ∧ rd_a T p 2 ≤ 3 ∧ rd_a T p 3 ≤ 3 ∧ rd_a T p 4 ≤ 4) ∧ (rd_a T p 0 ≤ 0 ∨ rd_a T p 1 ≤ 0) ∧ (rd_a T p 0 ≤ 0 ∨ rd_a T p 2 ≤ 0) ∧ (rd_a T p 0 ≤ 0 ∨ rd_a T p 3 ≤ 0) ∧ (rd_a T p 0 ≤ 0 ∨ rd_a T p 4 ≤ 0) ∧ (rd_a T p 1 ≤ 0 ∨ rd_a T p 2 ≤ 0) ∧ (rd_a T p 1 ≤ 0 ∨ rd_a T p 3 ≤ 0) ∧ (rd_a T p 1 ≤ 0 ∨ rd_a T p 4 ≤ 0) ∧ (rd_a T p 2 ≤ 0 ∨ rd_a T p 3 ≤ 0) ∧ (rd_a T p 2 ≤ 0 ∨ rd_a T p 4 ≤ 0) ∧ (rd_a T p 3 ≤ 1 ∨ rd_a T p 4 ≤ 1) :=
  ⟨⟨rd_ab (i := 0), rd_ab (i := 1), rd_ab (i := 2), rd_ab (i := 3), rd_ab (i := 4)⟩, rd_x (by decide), rd_x (by decide), rd_x (by decide), rd_x (by decide), rd_x (by decide), rd_x (by decide), rd_x (by decide), rd_x (by decide), rd_x (by decide), rd_x (by decide)⟩
def rd_best (T : rd_T) (p : Nat) : Nat → Nat → Nat → Nat
  | 0, _, b => b
  | m + 1, w, b => rd_best T p m (w + 1) (if rd_a T p b < rd_a T p w then w else b)
theorem rd_bp {T : rd_T} {p m w b : Nat} (h : rd_a T p b < rd_a T p w) : rd_best T p (m + 1) w b = rd_best T p m (w + 1) w := by rw [rd_best, if_pos h]
theorem rd_bn {T : rd_T} {p m w b : Nat} (h : ¬ rd_a T p b < rd_a T p w) : rd_best T p (m + 1) w b = rd_best T p m (w + 1) b := by rw [rd_best, if_neg h]
def rd_good (T : rd_T) (p b : Nat) : Prop := b < 5 ∧ (rd_a T p b = hv_len.getD b 0 → rd_w T p = (b, rd_a T p b)) ∧ (¬ rd_a T p b = hv_len.getD b 0 → rd_w T p = (5, rd_a T p b))
theorem rd_bw (T : rd_T) (p : Nat) : rd_good T p (rd_best T p 4 1 0) := by
  obtain ⟨⟨a0, a1, a2, a3, a4⟩, x1, x2, x3, x4, x5, x6, x7, x8, x9, x10⟩ := rd_five T p
  have hm1 := rd_mxe (rd_a T p 0) (rd_a T p 1)
  have hm2 := rd_mxe (rd_mx (rd_a T p 0) (rd_a T p 1)) (rd_a T p 2)
  have hm3 := rd_mxe (rd_mx (rd_mx (rd_a T p 0) (rd_a T p 1)) (rd_a T p 2)) (rd_a T p 3)
  have hm4 := rd_mxe (rd_mx (rd_mx (rd_mx (rd_a T p 0) (rd_a T p 1)) (rd_a T p 2)) (rd_a T p 3)) (rd_a T p 4)
  by_cases h1 : rd_a T p 0 < rd_a T p 1
  · rw [rd_bp h1]
    by_cases h2 : rd_a T p 1 < rd_a T p 2
    · rw [rd_bp h2]
      by_cases h3 : rd_a T p 2 < rd_a T p 3
      · rw [rd_bp h3]
        by_cases h4 : rd_a T p 3 < rd_a T p 4
        · rw [rd_bp h4]
          refine ⟨by show 4 < 5; decide, fun h9 => ?_, fun h9 => ?_⟩
          · have h9 : rd_a T p 4 = 4 := h9
            show rd_w T p = (4, rd_a T p 4)
            rw [h9]; unfold rd_w; rw [if_neg (by omega), if_neg (by omega), if_neg (by omega), if_neg (by omega), if_pos (by omega)]
          · have h9 : ¬ rd_a T p 4 = 4 := h9
            show rd_w T p = (5, rd_a T p 4)
            unfold rd_w; rw [if_neg (by omega), if_neg (by omega), if_neg (by omega), if_neg (by omega), if_neg (by omega)]; exact Prod.ext rfl (by show rd_mx _ _ = _; omega)
        · rw [rd_bn h4]
          refine ⟨by show 3 < 5; decide, fun h9 => ?_, fun h9 => ?_⟩
          · have h9 : rd_a T p 3 = 3 := h9
            show rd_w T p = (3, rd_a T p 3)
            rw [h9]; unfold rd_w; rw [if_neg (by omega), if_neg (by omega), if_neg (by omega), if_pos (by omega)]
          · have h9 : ¬ rd_a T p 3 = 3 := h9
            show rd_w T p = (5, rd_a T p 3)
            unfold rd_w; rw [if_neg (by omega), if_neg (by omega), if_neg (by omega), if_neg (by omega), if_neg (by omega)]; exact Prod.ext rfl (by show rd_mx _ _ = _; omega)
      · rw [rd_bn h3]
        by_cases h4 : rd_a T p 2 < rd_a T p 4
        · rw [rd_bp h4]
          refine ⟨by show 4 < 5; decide, fun h9 => ?_, fun h9 => ?_⟩
          · have h9 : rd_a T p 4 = 4 := h9
            show rd_w T p = (4, rd_a T p 4)
            rw [h9]; unfold rd_w; rw [if_neg (by omega), if_neg (by omega), if_neg (by omega), if_neg (by omega), if_pos (by omega)]
          · have h9 : ¬ rd_a T p 4 = 4 := h9
            show rd_w T p = (5, rd_a T p 4)
            unfold rd_w; rw [if_neg (by omega), if_neg (by omega), if_neg (by omega), if_neg (by omega), if_neg (by omega)]; exact Prod.ext rfl (by show rd_mx _ _ = _; omega)
        · rw [rd_bn h4]
          refine ⟨by show 2 < 5; decide, fun h9 => ?_, fun h9 => ?_⟩
          · have h9 : rd_a T p 2 = 3 := h9
            show rd_w T p = (2, rd_a T p 2)
            rw [h9]; unfold rd_w; rw [if_neg (by omega), if_neg (by omega), if_pos (by omega)]
          · have h9 : ¬ rd_a T p 2 = 3 := h9
            show rd_w T p = (5, rd_a T p 2)
            unfold rd_w; rw [if_neg (by omega), if_neg (by omega), if_neg (by omega), if_neg (by omega), if_neg (by omega)]; exact Prod.ext rfl (by show rd_mx _ _ = _; omega)
    · rw [rd_bn h2]
      by_cases h3 : rd_a T p 1 < rd_a T p 3
      · rw [rd_bp h3]
        by_cases h4 : rd_a T p 3 < rd_a T p 4
        · rw [rd_bp h4]
          refine ⟨by show 4 < 5; decide, fun h9 => ?_, fun h9 => ?_⟩
          · have h9 : rd_a T p 4 = 4 := h9
            show rd_w T p = (4, rd_a T p 4)
            rw [h9]; unfold rd_w; rw [if_neg (by omega), if_neg (by omega), if_neg (by omega), if_neg (by omega), if_pos (by omega)]
          · have h9 : ¬ rd_a T p 4 = 4 := h9
            show rd_w T p = (5, rd_a T p 4)
            unfold rd_w; rw [if_neg (by omega), if_neg (by omega), if_neg (by omega), if_neg (by omega), if_neg (by omega)]; exact Prod.ext rfl (by show rd_mx _ _ = _; omega)
        · rw [rd_bn h4]
          refine ⟨by show 3 < 5; decide, fun h9 => ?_, fun h9 => ?_⟩
          · have h9 : rd_a T p 3 = 3 := h9
            show rd_w T p = (3, rd_a T p 3)
            rw [h9]; unfold rd_w; rw [if_neg (by omega), if_neg (by omega), if_neg (by omega), if_pos (by omega)]
          · have h9 : ¬ rd_a T p 3 = 3 := h9
            show rd_w T p = (5, rd_a T p 3)
            unfold rd_w; rw [if_neg (by omega), if_neg (by omega), if_neg (by omega), if_neg (by omega), if_neg (by omega)]; exact Prod.ext rfl (by show rd_mx _ _ = _; omega)
      · rw [rd_bn h3]
        by_cases h4 : rd_a T p 1 < rd_a T p 4
        · rw [rd_bp h4]
          refine ⟨by show 4 < 5; decide, fun h9 => ?_, fun h9 => ?_⟩
          · have h9 : rd_a T p 4 = 4 := h9
            show rd_w T p = (4, rd_a T p 4)
            rw [h9]; unfold rd_w; rw [if_neg (by omega), if_neg (by omega), if_neg (by omega), if_neg (by omega), if_pos (by omega)]
          · have h9 : ¬ rd_a T p 4 = 4 := h9
            show rd_w T p = (5, rd_a T p 4)
            unfold rd_w; rw [if_neg (by omega), if_neg (by omega), if_neg (by omega), if_neg (by omega), if_neg (by omega)]; exact Prod.ext rfl (by show rd_mx _ _ = _; omega)
        · rw [rd_bn h4]
          refine ⟨by show 1 < 5; decide, fun h9 => ?_, fun h9 => ?_⟩
          · have h9 : rd_a T p 1 = 3 := h9
            show rd_w T p = (1, rd_a T p 1)
            rw [h9]; unfold rd_w; rw [if_neg (by omega), if_pos (by omega)]
          · have h9 : ¬ rd_a T p 1 = 3 := h9
            show rd_w T p = (5, rd_a T p 1)
            unfold rd_w; rw [if_neg (by omega), if_neg (by omega), if_neg (by omega), if_neg (by omega), if_neg (by omega)]; exact Prod.ext rfl (by show rd_mx _ _ = _; omega)
  · rw [rd_bn h1]
    by_cases h2 : rd_a T p 0 < rd_a T p 2
    · rw [rd_bp h2]
      by_cases h3 : rd_a T p 2 < rd_a T p 3
      · rw [rd_bp h3]
        by_cases h4 : rd_a T p 3 < rd_a T p 4
        · rw [rd_bp h4]
          refine ⟨by show 4 < 5; decide, fun h9 => ?_, fun h9 => ?_⟩
          · have h9 : rd_a T p 4 = 4 := h9
            show rd_w T p = (4, rd_a T p 4)
            rw [h9]; unfold rd_w; rw [if_neg (by omega), if_neg (by omega), if_neg (by omega), if_neg (by omega), if_pos (by omega)]
          · have h9 : ¬ rd_a T p 4 = 4 := h9
            show rd_w T p = (5, rd_a T p 4)
            unfold rd_w; rw [if_neg (by omega), if_neg (by omega), if_neg (by omega), if_neg (by omega), if_neg (by omega)]; exact Prod.ext rfl (by show rd_mx _ _ = _; omega)
        · rw [rd_bn h4]
          refine ⟨by show 3 < 5; decide, fun h9 => ?_, fun h9 => ?_⟩
          · have h9 : rd_a T p 3 = 3 := h9
            show rd_w T p = (3, rd_a T p 3)
            rw [h9]; unfold rd_w; rw [if_neg (by omega), if_neg (by omega), if_neg (by omega), if_pos (by omega)]
          · have h9 : ¬ rd_a T p 3 = 3 := h9
            show rd_w T p = (5, rd_a T p 3)
            unfold rd_w; rw [if_neg (by omega), if_neg (by omega), if_neg (by omega), if_neg (by omega), if_neg (by omega)]; exact Prod.ext rfl (by show rd_mx _ _ = _; omega)
      · rw [rd_bn h3]
        by_cases h4 : rd_a T p 2 < rd_a T p 4
        · rw [rd_bp h4]
          refine ⟨by show 4 < 5; decide, fun h9 => ?_, fun h9 => ?_⟩
          · have h9 : rd_a T p 4 = 4 := h9
            show rd_w T p = (4, rd_a T p 4)
            rw [h9]; unfold rd_w; rw [if_neg (by omega), if_neg (by omega), if_neg (by omega), if_neg (by omega), if_pos (by omega)]
          · have h9 : ¬ rd_a T p 4 = 4 := h9
            show rd_w T p = (5, rd_a T p 4)
            unfold rd_w; rw [if_neg (by omega), if_neg (by omega), if_neg (by omega), if_neg (by omega), if_neg (by omega)]; exact Prod.ext rfl (by show rd_mx _ _ = _; omega)
        · rw [rd_bn h4]
          refine ⟨by show 2 < 5; decide, fun h9 => ?_, fun h9 => ?_⟩
          · have h9 : rd_a T p 2 = 3 := h9
            show rd_w T p = (2, rd_a T p 2)
            rw [h9]; unfold rd_w; rw [if_neg (by omega), if_neg (by omega), if_pos (by omega)]
          · have h9 : ¬ rd_a T p 2 = 3 := h9
            show rd_w T p = (5, rd_a T p 2)
            unfold rd_w; rw [if_neg (by omega), if_neg (by omega), if_neg (by omega), if_neg (by omega), if_neg (by omega)]; exact Prod.ext rfl (by show rd_mx _ _ = _; omega)
    · rw [rd_bn h2]
      by_cases h3 : rd_a T p 0 < rd_a T p 3
      · rw [rd_bp h3]
        by_cases h4 : rd_a T p 3 < rd_a T p 4
        · rw [rd_bp h4]
          refine ⟨by show 4 < 5; decide, fun h9 => ?_, fun h9 => ?_⟩
          · have h9 : rd_a T p 4 = 4 := h9
            show rd_w T p = (4, rd_a T p 4)
            rw [h9]; unfold rd_w; rw [if_neg (by omega), if_neg (by omega), if_neg (by omega), if_neg (by omega), if_pos (by omega)]
          · have h9 : ¬ rd_a T p 4 = 4 := h9
            show rd_w T p = (5, rd_a T p 4)
            unfold rd_w; rw [if_neg (by omega), if_neg (by omega), if_neg (by omega), if_neg (by omega), if_neg (by omega)]; exact Prod.ext rfl (by show rd_mx _ _ = _; omega)
        · rw [rd_bn h4]
          refine ⟨by show 3 < 5; decide, fun h9 => ?_, fun h9 => ?_⟩
          · have h9 : rd_a T p 3 = 3 := h9
            show rd_w T p = (3, rd_a T p 3)
            rw [h9]; unfold rd_w; rw [if_neg (by omega), if_neg (by omega), if_neg (by omega), if_pos (by omega)]
          · have h9 : ¬ rd_a T p 3 = 3 := h9
            show rd_w T p = (5, rd_a T p 3)
            unfold rd_w; rw [if_neg (by omega), if_neg (by omega), if_neg (by omega), if_neg (by omega), if_neg (by omega)]; exact Prod.ext rfl (by show rd_mx _ _ = _; omega)
      · rw [rd_bn h3]
        by_cases h4 : rd_a T p 0 < rd_a T p 4
        · rw [rd_bp h4]
          refine ⟨by show 4 < 5; decide, fun h9 => ?_, fun h9 => ?_⟩
          · have h9 : rd_a T p 4 = 4 := h9
            show rd_w T p = (4, rd_a T p 4)
            rw [h9]; unfold rd_w; rw [if_neg (by omega), if_neg (by omega), if_neg (by omega), if_neg (by omega), if_pos (by omega)]
          · have h9 : ¬ rd_a T p 4 = 4 := h9
            show rd_w T p = (5, rd_a T p 4)
            unfold rd_w; rw [if_neg (by omega), if_neg (by omega), if_neg (by omega), if_neg (by omega), if_neg (by omega)]; exact Prod.ext rfl (by show rd_mx _ _ = _; omega)
        · rw [rd_bn h4]
          refine ⟨by show 0 < 5; decide, fun h9 => ?_, fun h9 => ?_⟩
          · have h9 : rd_a T p 0 = 6 := h9
            show rd_w T p = (0, rd_a T p 0)
            rw [h9]; unfold rd_w; rw [if_pos (by omega)]
          · have h9 : ¬ rd_a T p 0 = 6 := h9
            show rd_w T p = (5, rd_a T p 0)
            unfold rd_w; rw [if_neg (by omega), if_neg (by omega), if_neg (by omega), if_neg (by omega), if_neg (by omega)]; exact Prod.ext rfl (by show rd_mx _ _ = _; omega)
theorem rd_wl {T : rd_T} {p : Nat} (h : p ≤ T.1) : p + (rd_w T p).2 ≤ T.1 ∧ (rd_w T p).1 ≤ 5 ∧ (rd_w T p).2 ≤ 6 := by
  obtain ⟨h1, h2, h3⟩ := rd_bw T p
  have h4 : p + rd_a T p (rd_best T p 4 1 0) ≤ T.1 := rd_an h
  have h5 : rd_a T p (rd_best T p 4 1 0) ≤ 6 := Nat.le_trans rd_ab (hv_lens _ (by omega))
  by_cases q : rd_a T p (rd_best T p 4 1 0) = hv_len.getD (rd_best T p 4 1 0) 0
  · rw [h2 q]; exact ⟨h4, by show rd_best T p 4 1 0 ≤ 5; omega, h5⟩
  · rw [h3 q]; exact ⟨h4, Nat.le_refl 5, h5⟩
theorem rd_dig {x : Int32} (h : 48 ≤ x ∧ x ≤ 57) : ∃ d : Nat, 48 ≤ d ∧ d ≤ 57 ∧ x = nI d ∧ x.toNatClampNeg = d := by
  obtain ⟨d, hd, rfl, e⟩ := nI_bk (x := x) (Int32.le_trans (by decide) h.1)
  exact ⟨d, (nI_leI (a := 48) (by omega) hd).mp h.1, (nI_leI (b := 57) hd (by omega)).mp h.2, rfl, e⟩
theorem rd_db (T : rd_T) : ∀ m p v j : Nat, v < 10 ^ j → (rd_d T m p v).2 < 10 ^ (j + m) ∧ p ≤ (rd_d T m p v).1 ∧ (p ≤ T.1 → (rd_d T m p v).1 ≤ T.1)
  | 0, p, v, j, h => ⟨h, Nat.le_refl _, fun q => q⟩
  | m + 1, p, v, j, h => by
    rw [rd_d]
    by_cases q : p < T.1 ∧ 48 ≤ T.2 p ∧ T.2 p ≤ 57
    · rw [if_pos q]
      obtain ⟨d, h1, h2, h3, h4⟩ := rd_dig q.2
      have ih := rd_db T m (p + 1) (v * 10 + ((T.2 p).toNatClampNeg - 48)) (j + 1) (by rw [h4, Nat.pow_succ]; omega)
      rw [show j + (m + 1) = j + 1 + m by omega]
      exact ⟨ih.1, by omega, fun _ => ih.2.2 (by omega)⟩
    · rw [if_neg q]
      exact ⟨Nat.lt_of_lt_of_le h (Nat.pow_le_pow_right (by omega) (by omega)), Nat.le_refl _, fun z => z⟩
theorem rd_nb (T : rd_T) (p : Nat) : rd_n T p < 1000000000 := by
  have h := (rd_db T 9 (p + 1) 0 0 (by decide)).1
  exact h
theorem rd_eb {T : rd_T} {p : Nat} (h : p ≤ T.1) : rd_e T p ≤ T.1 := by
  unfold rd_e
  by_cases q : rd_sp T p
  · rw [if_pos q]; exact (rd_db T 9 (p + 1) 0 0 (by decide)).2.2 (by omega)
  · rw [if_neg q]; exact h
theorem rd_qb {T : rd_T} {p : Nat} (h : p ≤ T.1) : ∀ k, rd_q T p k ≤ T.1
  | 0 => (rd_wl h).1
  | k + 1 => rd_eb (rd_qb h k)
theorem rd_clb {T : rd_T} {p : Nat} (h : p ≤ T.1) : ∀ m k, (rd_cl T p m k).2 ≤ T.1
  | 0, k => rd_qb h k
  | m + 1, k => by
    rw [rd_cl]
    by_cases q : rd_ok T (rd_q T p k)
    · rw [if_pos q]; exact rd_clb h m (k + 1)
    · rw [if_neg q]; exact rd_eb (rd_qb h k)
theorem rd_cb {T : rd_T} {p : Nat} (h : p ≤ T.1) : (rd_c T p).2 ≤ T.1 := by
  unfold rd_c
  by_cases q : (rd_w T p).1 = 5
  · rw [if_pos q]; exact (rd_wl h).1
  · rw [if_neg q]; exact rd_clb h _ _
theorem rd_allb {T : rd_T} : ∀ m k, rd_P T k ≤ T.1 → (rd_all T m k).2.1 ≤ T.1 ∧ (rd_all T m k).2.2 ≤ k + m
  | 0, k, h => ⟨h, Nat.le_refl _⟩
  | m + 1, k, h => by
    have hc := rd_cb h
    rw [rd_all]
    by_cases q1 : (rd_c T (rd_P T k)).1 = true
    · rw [if_pos q1]
      by_cases q2 : T.1 ≤ (rd_c T (rd_P T k)).2
      · rw [if_pos q2]; exact ⟨hc, by show k + 1 ≤ _; omega⟩
      · rw [if_neg q2]
        by_cases q3 : m = 0 ∨ ¬ T.2 (rd_c T (rd_P T k)).2 = 59
        · rw [if_pos q3]; exact ⟨hc, by show k + 1 ≤ _; omega⟩
        · rw [if_neg q3]
          have ih := rd_allb (T := T) m (k + 1) (by show (rd_c T (rd_P T k)).2 + 1 ≤ T.1; omega)
          exact ⟨ih.1, by omega⟩
    · rw [if_neg q1]; exact ⟨hc, by show k ≤ _; omega⟩
/-- value k of clause i -/
def rd_v (T : rd_T) (i k : Nat) : Int32 := nI (rd_n T (rd_q T (rd_P T i) k))
/-- the arrays hold the first n clauses -/
def rd_h (T : rd_T) (n : Nat) (wd vl : Nat → Int32) : Prop := ∀ i, i < n → (rd_w T (rd_P T i)).1 < 5 ∧ wd i = nI (rd_w T (rd_P T i)).1 ∧ ∀ k, k < rd_due (rd_w T (rd_P T i)).1 → vl (4 * i + k) = rd_v T i k
def sp_do (T : rd_T) (i : Nat) (σ : hs_S) : Int32 × hs_S := if (rd_w T (rd_P T i)).1 = 0 then sp_spread σ (rd_v T i 0) (rd_v T i 1) (rd_v T i 2) (rd_v T i 3) else if (rd_w T (rd_P T i)).1 = 1 then sp_begin σ (rd_v T i 0) (rd_v T i 1) else if (rd_w T (rd_P T i)).1 = 2 then sp_add σ (rd_v T i 0) (rd_v T i 1) else if (rd_w T (rd_P T i)).1 = 3 then sp_cut σ (rd_v T i 0) (rd_v T i 1) else sp_copies σ (rd_v T i 0) (rd_v T i 1)
def sp_run (T : rd_T) : Nat → Nat → Nat → hs_S → Nat × hs_S
  | 0, _, d, σ => (d, σ)
  | m + 1, i, d, σ => sp_run T m (i + 1) (if 0 ≤ (sp_do T i σ).1 then d + 1 else d) (sp_do T i σ).2
/-- the text is gone -/
def hs_gone (σ : hs_S) : hs_S := (σ.1, σ.2.1, (0, σ.2.2.1.2), σ.2.2.2)
def sp_read (σ : hs_S) : Int32 × hs_S := if (rd_all σ.2.2.1 12 0).1 = true then (nI (sp_run σ.2.2.1 (rd_all σ.2.2.1 12 0).2.2 0 0 (hs_gone σ)).1, (sp_run σ.2.2.1 (rd_all σ.2.2.1 12 0).2.2 0 0 (hs_gone σ)).2) else (-10 - nI (rd_all σ.2.2.1 12 0).2.1, hs_gone σ)
