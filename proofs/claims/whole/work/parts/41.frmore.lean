/-! what is taken out of a fraction below one leaves one below one -/
theorem fx_become_lt {x y : Int64} (hx : 0 ≤ x.toInt) (hxy : x.toInt < y.toInt) (hn : ¬ (fx_become x y).2.2 = 0) : 0 ≤ (fx_become x y).1.toInt ∧ (fx_become x y).1.toInt < (fx_become x y).2.1.toInt := by
  have hb1 : 0 < y.toInt := by omega
  have hp : 0 < y := Int64.lt_iff_toInt_lt.mpr (by rw [i64_0]; omega)
  have ha : -9223372036854775808 < x.toInt := by omega
  have h1 := fx_abs_i ha
  have e0 : fx_div x y = fx_gd 126 (fx_abs x) y := by
    unfold fx_div
    rw [if_pos hp]
    exact fx_gd_add 74 126 _ _ (fx_en126 h1.1 (by omega))
  obtain ⟨d, hd⟩ : ∃ d, d = fx_gd 126 (fx_abs x) y := ⟨_, rfl⟩
  have hnd := fx_nd ha hb1
  rw [← hd] at hnd e0
  have dle : ¬ d ≤ 0 := fun e => by have := Int64.le_iff_toInt_le.mp e; rw [i64_0] at this; have := hnd.1; omega
  unfold fx_become at hn ⊢
  rw [e0, if_neg dle] at hn ⊢
  by_cases c : 1000000000 < fx_abs (x / d) ∨ 1000000000 < y / d
  · rw [if_pos c] at hn
    exact absurd rfl hn
  · rw [if_neg c] at hn ⊢
    show 0 ≤ (x / d).toInt ∧ (x / d).toInt < (y / d).toInt
    have d1 := i64_dvd hnd.1 hnd.2.1 ha
    have d2 := i64_dvd hnd.1 hnd.2.2 (by omega)
    have hd1 := hnd.1
    constructor
    · rcases Int.lt_or_le (x / d).toInt 0 with g | g
      · have : (x / d).toInt * d.toInt ≤ (x / d).toInt * 1 := Int.mul_le_mul_of_nonpos_left (by omega) (by omega)
        omega
      · exact g
    · rcases Int.lt_or_le (x / d).toInt (y / d).toInt with g | g
      · exact g
      · have : (y / d).toInt * d.toInt ≤ (x / d).toInt * d.toInt := Int.mul_le_mul_of_nonneg_right g (by omega)
        omega
/-- below one -/
abbrev fx_lt1 (F : fx_F) : Prop := F.2.2 = 1 ∧ fx_ok F ∧ 0 ≤ F.1.toInt ∧ F.1.toInt < F.2.1.toInt
theorem fx_lt1.fm {F : fx_F} (h : fx_lt1 F) : fm F F.1 F.2.1 := Or.inr ⟨h.1, rfl, rfl, h.2.1⟩
theorem fx_lt1.pr {F : fx_F} (h : fx_lt1 F) (hn : ¬ F.1 = 0) : fx_proper F := by
  have := i64_ne hn
  have := h.2.2.1
  refine ⟨by rw [h.1]; decide, Int64.lt_iff_toInt_lt.mpr (by rw [i64_0]; omega), Int64.lt_iff_toInt_lt.mpr h.2.2.2⟩
theorem fx_lt1.npr {F : fx_F} (hn : F.1 = 0) : ¬ fx_proper F := fun h => by
  have := h.2.1
  rw [hn] at this
  exact Int64.lt_irrefl this
theorem i64_Mle {a : Int64} (h : ¬ 1000000000 < a) : a.toInt ≤ 1000000000 := by
  have := Int64.le_iff_toInt_le.mp (Int64.not_lt.mp h)
  rw [i64_M] at this
  exact this
/-- how many times it goes into one, cut up -/
theorem fx_up_ok {F : fx_F} (h : fx_lt1 F) (hn : ¬ F.1 = 0) : 1 ≤ ((F.2.1 + F.1 - 1) / F.1).toInt ∧ F.2.1.toInt ≤ F.1.toInt * ((F.2.1 + F.1 - 1) / F.1).toInt ∧ F.1.toInt * ((F.2.1 + F.1 - 1) / F.1).toInt < F.2.1.toInt + F.1.toInt := by
  have h0 := i64_ne hn
  obtain ⟨h1, ⟨h2, h3, h4⟩, h5, h6⟩ := h
  have e1 : (F.2.1 + F.1).toInt = F.2.1.toInt + F.1.toInt := i64_add (by omega) (by omega)
  have e2 : (F.2.1 + F.1 - 1).toInt = F.2.1.toInt + F.1.toInt - 1 := by
    rw [i64_sub, e1, i64_1]
    · rw [e1, i64_1]; omega
    · rw [e1, i64_1]; omega
  have e3 := i64_div (a := F.2.1 + F.1 - 1) (b := F.1) (by omega) (by omega)
  rw [e2] at e3
  have m1 := Int.emod_add_mul_ediv (F.2.1.toInt + F.1.toInt - 1) F.1.toInt
  have m2 := Int.emod_nonneg (F.2.1.toInt + F.1.toInt - 1) (show F.1.toInt ≠ 0 by omega)
  have m3 := Int.emod_lt_of_pos (F.2.1.toInt + F.1.toInt - 1) (show 0 < F.1.toInt by omega)
  rw [e3]
  have m4 : 1 ≤ (F.2.1.toInt + F.1.toInt - 1) / F.1.toInt := (Int.le_ediv_iff_mul_le (by omega)).mpr (by omega)
  refine ⟨m4, by omega, by omega⟩
/-- lay's bounds and what comes out, for kinds 0 and 1 -/
theorem fx_o1 {F : fx_F} (h : fx_lt1 F) (hn : ¬ F.1 = 0) (ha : ¬ 1000000000 < (F.2.1 + F.1 - 1) / F.1) : 0 ≤ (F.1 * ((F.2.1 + F.1 - 1) / F.1) - F.2.1).toInt ∧ (F.1 * ((F.2.1 + F.1 - 1) / F.1) - F.2.1).toInt < F.2.1.toInt ∧ F.2.1.toInt ≤ (F.2.1 * ((F.2.1 + F.1 - 1) / F.1)).toInt := by
  have hu := fx_up_ok h hn
  have h0 := i64_ne hn
  obtain ⟨a, he⟩ : ∃ a, a = (F.2.1 + F.1 - 1) / F.1 := ⟨_, rfl⟩
  rw [← he] at hu ha ⊢
  have ha2 := i64_Mle ha
  obtain ⟨h1, ⟨h2, h3, h4⟩, h5, h6⟩ := h
  have p1 := i64_mpos (a := F.1) (b := a) ⟨h5, h2.2⟩ ⟨by omega, ha2⟩
  have p2 := i64_mpos (a := F.2.1) (b := a) ⟨by omega, h4⟩ ⟨by omega, ha2⟩
  have e := i64_sub (a := F.1 * a) (b := F.2.1) (by omega) (by omega)
  have m : F.2.1.toInt * 1 ≤ F.2.1.toInt * a.toInt := Int.mul_le_mul_of_nonneg_left hu.1 (by omega)
  omega
theorem fx_o2 {F : fx_F} (h : fx_lt1 F) (hn : ¬ F.1 = 0) : 0 ≤ (F.2.1 - F.1 * (F.2.1 / F.1)).toInt ∧ (F.2.1 - F.1 * (F.2.1 / F.1)).toInt < F.2.1.toInt := by
  have h0 := i64_ne hn
  obtain ⟨h1, ⟨h2, h3, h4⟩, h5, h6⟩ := h
  have e := i64_mod (a := F.2.1) (b := F.1) (by omega) (by omega)
  rw [Int64.mul_comm F.1, e]
  have m2 := Int.emod_nonneg F.2.1.toInt (show F.1.toInt ≠ 0 by omega)
  have m3 := Int.emod_lt_of_pos F.2.1.toInt (show 0 < F.1.toInt by omega)
  omega
theorem fx_o3 {F : fx_F} (h : fx_lt1 F) {n : Nat} (hn : n ≤ 100) : (0 ≤ (F.1 * (nI n + 2).toInt64 - F.1 * (nI n + 2).toInt64 / F.2.1 * F.2.1).toInt ∧ (F.1 * (nI n + 2).toInt64 - F.1 * (nI n + 2).toInt64 / F.2.1 * F.2.1).toInt < F.2.1.toInt) ∧ ¬ 1000000000 < F.1 * (nI n + 2).toInt64 / F.2.1 := by
  obtain ⟨h1, ⟨h2, h3, h4⟩, h5, h6⟩ := h
  have e0 : (nI n + 2).toInt64.toInt = (n : Int) + 2 := by
    rw [Int32.toInt_toInt64, show nI n + 2 = nI (n + 2) from nI_add n 2, nI_toInt (by omega)]; omega
  have p1 := i64_mpos (a := F.1) (b := (nI n + 2).toInt64) ⟨h5, h2.2⟩ (i64_n2 hn)
  obtain ⟨t, ht⟩ : ∃ t, t = F.1 * (nI n + 2).toInt64 := ⟨_, rfl⟩
  rw [← ht] at p1 ⊢
  have e := i64_mod (a := t) (b := F.2.1) (by omega) (by omega)
  rw [e]
  have m2 := Int.emod_nonneg t.toInt (show F.2.1.toInt ≠ 0 by omega)
  have m3 := Int.emod_lt_of_pos t.toInt (show 0 < F.2.1.toInt by omega)
  refine ⟨⟨m2, m3⟩, fun hc => ?_⟩
  have hc := Int64.lt_iff_toInt_lt.mp hc
  rw [i64_M, i64_div (by omega) (by omega)] at hc
  have q1 : t.toInt / F.2.1.toInt ≤ t.toInt / F.2.1.toInt := Int.le_refl _
  have q2 := (Int.le_ediv_iff_mul_le (show 0 < F.2.1.toInt by omega)).mp q1
  have q3 : F.1.toInt * ((n : Int) + 2) ≤ F.2.1.toInt * ((n : Int) + 2) := Int.mul_le_mul_of_nonneg_right (by omega) (by omega)
  have q4 : 1000000000 * F.2.1.toInt ≤ t.toInt / F.2.1.toInt * F.2.1.toInt := Int.mul_le_mul_of_nonneg_right (by omega) (by omega)
  have q5 : ((n : Int) + 2) * F.2.1.toInt ≤ 102 * F.2.1.toInt := Int.mul_le_mul_of_nonneg_right (by omega) (by omega)
  have q6 := Int.mul_comm F.2.1.toInt ((n : Int) + 2)
  rw [e0] at p1
  omega
theorem fx_lt1_of {x y : Int64} (hx : 0 ≤ x.toInt) (hxy : x.toInt < y.toInt) {ab be : Int64} (h : fm (fx_become x y) ab be) (hn : ¬ be = 0) : fx_lt1 (fx_become x y) ∧ ab = (fx_become x y).1 ∧ be = (fx_become x y).2.1 := by
  obtain ⟨h1, h2, h3, h4⟩ := h.yes hn
  exact ⟨⟨h1, h4, fx_become_lt hx hxy (by rw [h1]; decide)⟩, h2, h3⟩
theorem fx_sub1 (x y : Int64) : x + -1 * y = x - y := by rw [Int64.neg_mul, Int64.one_mul, ← Int64.sub_eq_add_neg]
theorem fx_unf_np {kd : Int32} {m n : Nat} {f : Nat → Int32} {F : fx_F} (h : ¬ fx_proper F) : fx_unf kd m n f F = (n, f, F) := by
  cases m with
  | zero => rfl
  | succ m => exact if_neg h
theorem fx_unf_w {kd : Int32} {m n : Nat} {f : Nat → Int32} {F : fx_F} (h : fx_proper F) (ha : 1000000000 < fx_next kd n F) : fx_unf kd (m + 1) n f F = (n, f, F) := by
  show (if fx_proper F then _ else _) = _
  rw [if_pos h, if_pos ha]
theorem fx_unf_n {kd : Int32} {m n : Nat} {f : Nat → Int32} {F : fx_F} (h : fx_proper F) (ha : ¬ 1000000000 < fx_next kd n F) (ho : (fx_out kd n (fx_next kd n F) F).2.2 = 0) : fx_unf kd (m + 1) n f F = (n, f, fx_out kd n (fx_next kd n F) F) := by
  show (if fx_proper F then _ else _) = _
  rw [if_pos h, if_neg ha, if_pos ho]
theorem fx_unf_s {kd : Int32} {m n : Nat} {f : Nat → Int32} {F : fx_F} (h : fx_proper F) (ha : ¬ 1000000000 < fx_next kd n F) (ho : ¬ (fx_out kd n (fx_next kd n F) F).2.2 = 0) : fx_unf kd (m + 1) n f F = fx_unf kd m (n + 1) (upd f n (fx_next kd n F).toInt32) (fx_out kd n (fx_next kd n F) F) := by
  show (if fx_proper F then _ else _) = _
  rw [if_pos h, if_neg ha, if_neg ho]
