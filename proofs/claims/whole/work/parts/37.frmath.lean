/-! FRACTIONS, the numbers: Euclid's way ends, what it answers divides both -/
def fx_en : Nat → Int64 → Int64 → Prop
  | 0, _, b => b = 0
  | n + 1, a, b => b = 0 ∨ fx_en n b (a - a / b * b)
theorem i64_0 : (0 : Int64).toInt = 0 := by decide
theorem i64_1 : (1 : Int64).toInt = 1 := by decide
theorem i64_M : (1000000000 : Int64).toInt = 1000000000 := by decide
theorem i64_ne {b : Int64} (h : b ≠ 0) : b.toInt ≠ 0 := fun e => h (Int64.toInt_inj.mp (e.trans i64_0.symm))
theorem i64_add {a b : Int64} (h1 : -9223372036854775808 ≤ a.toInt + b.toInt) (h2 : a.toInt + b.toInt < 9223372036854775808) : (a + b).toInt = a.toInt + b.toInt := by
  rw [Int64.toInt_add]; exact Int.bmod_eq_of_le (by omega) (by omega)
theorem i64_sub {a b : Int64} (h1 : -9223372036854775808 ≤ a.toInt - b.toInt) (h2 : a.toInt - b.toInt < 9223372036854775808) : (a - b).toInt = a.toInt - b.toInt := by
  rw [Int64.toInt_sub]; exact Int.bmod_eq_of_le (by omega) (by omega)
theorem i64_mul {a b : Int64} (h1 : -9223372036854775808 ≤ a.toInt * b.toInt) (h2 : a.toInt * b.toInt < 9223372036854775808) : (a * b).toInt = a.toInt * b.toInt := by
  rw [Int64.toInt_mul]; exact Int.bmod_eq_of_le (by omega) (by omega)
theorem i64_neg {a : Int64} (h : -9223372036854775808 < a.toInt) : (-a).toInt = -a.toInt := by
  have := Int64.toInt_lt a
  rw [Int64.toInt_neg]; exact Int.bmod_eq_of_le (by omega) (by omega)
theorem i64_div {a b : Int64} (h : 0 ≤ a.toInt) (h2 : 0 < b.toInt) : (a / b).toInt = a.toInt / b.toInt := by
  have l1 := Int64.toInt_lt a
  have h3 : a.toInt / b.toInt ≤ a.toInt := Int.ediv_le_self _ h
  have h4 : 0 ≤ a.toInt / b.toInt := Int.ediv_nonneg h (by omega)
  rw [Int64.toInt_div, Int.tdiv_eq_ediv_of_nonneg h]
  exact Int.bmod_eq_of_le (by omega) (by omega)
theorem i64_mod {a b : Int64} (h : 0 ≤ a.toInt) (h2 : 0 < b.toInt) : (a - a / b * b).toInt = a.toInt % b.toInt := by
  have l1 := Int64.toInt_lt a
  have e := Int.emod_add_mul_ediv a.toInt b.toInt
  have m1 := Int.emod_nonneg a.toInt (show b.toInt ≠ 0 by omega)
  have m2 := Int.emod_lt_of_pos a.toInt h2
  have h4 : 0 ≤ a.toInt / b.toInt := Int.ediv_nonneg h (by omega)
  have h5 : 0 ≤ b.toInt * (a.toInt / b.toInt) := Int.mul_nonneg (by omega) h4
  have hd := i64_div h h2
  have hm : (a / b * b).toInt = b.toInt * (a.toInt / b.toInt) := by
    rw [i64_mul, hd, Int.mul_comm]
    · rw [hd, Int.mul_comm]; omega
    · rw [hd, Int.mul_comm]; omega
  rw [i64_sub, hm]
  · omega
  · rw [hm]; omega
  · rw [hm]; omega
theorem fx_en_mono : ∀ (n : Nat) {a b : Int64}, fx_en n a b → fx_en (n + 1) a b
  | 0, _, _, h => Or.inl h
  | n + 1, _, _, h => h.elim Or.inl (fun q => Or.inr (fx_en_mono n q))
theorem fx_en_ok : ∀ (k : Nat) (a b : Int64), 0 ≤ a.toInt → 0 ≤ b.toInt → b.toInt < 2 ^ k → fx_en (2 * k) a b
  | 0, a, b, ha, hb, h => Int64.toInt_inj.mp (by rw [i64_0]; have : b.toInt < 1 := h; omega)
  | k + 1, a, b, ha, hb, h => by
    show b = 0 ∨ fx_en (2 * k + 1) b (a - a / b * b)
    by_cases q : b = 0
    · exact Or.inl q
    · right
      have qb := i64_ne q
      have e1 := i64_mod (a := a) (b := b) ha (by omega)
      have m1 := Int.emod_nonneg a.toInt qb
      have m2 := Int.emod_lt_of_pos a.toInt (show 0 < b.toInt by omega)
      obtain ⟨r, hr⟩ : ∃ r, r = a - a / b * b := ⟨_, rfl⟩
      rw [← hr] at e1 ⊢
      by_cases q2 : r = 0
      · exact Or.inl q2
      · right
        have qr := i64_ne q2
        have e2 := i64_mod (a := b) (b := r) hb (by omega)
        have m3 := Int.emod_nonneg b.toInt qr
        have m4 := Int.emod_lt_of_pos b.toInt (show 0 < r.toInt by omega)
        have m5 := Int.emod_add_mul_ediv b.toInt r.toInt
        have m6 : 1 ≤ b.toInt / r.toInt := (Int.le_ediv_iff_mul_le (by omega)).mpr (by omega)
        have m7 : r.toInt * 1 ≤ r.toInt * (b.toInt / r.toInt) := Int.mul_le_mul_of_nonneg_left m6 (by omega)
        have m8 : (2 : Int) ^ (k + 1) = 2 ^ k * 2 := Int.pow_succ 2 k
        exact fx_en_ok k r (b - b / r * r) (by omega) (by omega) (by omega)
theorem fx_en126 {a b : Int64} (ha : 0 ≤ a.toInt) (hb : 0 ≤ b.toInt) : fx_en 126 a b := fx_en_ok 63 a b ha hb (Int64.toInt_lt b)
theorem fx_gd_add : ∀ (m n : Nat) (a b : Int64), fx_en n a b → fx_gd (n + m) a b = fx_gd n a b
  | m, 0, a, b, h => by
    have h : b = 0 := h
    subst h
    cases m with
    | zero => rfl
    | succ m => rw [show 0 + (m + 1) = m + 1 by omega]; exact if_pos rfl
  | m, n + 1, a, b, h => by
    rw [show n + 1 + m = (n + m) + 1 by omega]
    show (if b = 0 then a else fx_gd (n + m) b (a - a / b * b)) = if b = 0 then a else fx_gd n b (a - a / b * b)
    by_cases q : b = 0
    · rw [if_pos q, if_pos q]
    · rw [if_neg q, if_neg q]
      exact fx_gd_add m n _ _ (h.resolve_left q)
theorem fx_gd_dvd : ∀ (n : Nat) (a b : Int64), fx_en n a b → 0 ≤ a.toInt → 0 ≤ b.toInt → 0 < a.toInt + b.toInt → 0 < (fx_gd n a b).toInt ∧ (fx_gd n a b).toInt ∣ a.toInt ∧ (fx_gd n a b).toInt ∣ b.toInt
  | 0, a, b, h, ha, hb, hs => by
    have h : b = 0 := h
    subst h
    rw [i64_0] at hs
    exact ⟨by show 0 < a.toInt; omega, Int.dvd_refl _, by rw [i64_0]; exact Int.dvd_zero _⟩
  | n + 1, a, b, h, ha, hb, hs => by
    by_cases q : b = 0
    · subst q
      rw [i64_0] at hs
      show 0 < (if (0 : Int64) = 0 then a else _ : Int64).toInt ∧ _
      rw [show fx_gd (n + 1) a 0 = a from if_pos rfl]
      exact ⟨by rw [if_pos rfl]; omega, Int.dvd_refl _, by rw [i64_0]; exact Int.dvd_zero _⟩
    · rw [show fx_gd (n + 1) a b = fx_gd n b (a - a / b * b) from if_neg q]
      have qb := i64_ne q
      have e1 := i64_mod (a := a) (b := b) ha (by omega)
      have m1 := Int.emod_nonneg a.toInt qb
      have ih := fx_gd_dvd n b (a - a / b * b) (h.resolve_left q) hb (by omega) (by omega)
      refine ⟨ih.1, ?_, ih.2.1⟩
      have h2 := ih.2.2
      rw [e1] at h2
      have e := Int.emod_add_mul_ediv a.toInt b.toInt
      rw [← e]
      exact Int.dvd_add h2 (Int.dvd_mul_of_dvd_left ih.2.1)
theorem fx_abs_i {a : Int64} (h : -9223372036854775808 < a.toInt) : 0 ≤ (fx_abs a).toInt ∧ ((fx_abs a).toInt = a.toInt ∨ (fx_abs a).toInt = -a.toInt) := by
  unfold fx_abs
  by_cases q : 0 < a
  · rw [if_pos q]
    have := Int64.lt_iff_toInt_lt.mp q
    rw [i64_0] at this
    exact ⟨by omega, Or.inl rfl⟩
  · rw [if_neg q]
    have := Int64.le_iff_toInt_le.mp (Int64.not_lt.mp q)
    rw [i64_0] at this
    rw [i64_neg h]
    exact ⟨by omega, Or.inr rfl⟩
/-- how the reference lays a fraction -/
def fl_d (a b : Int64) : Int64 := if b = 0 then 0 else fx_gd 126 (fx_abs a) b
def fl_a (a b : Int64) : Int64 := if fl_d a b = 0 then 0 else a / fl_d a b
def fl_c (a b : Int64) : Int64 := if fl_d a b = 0 then 0 else b / fl_d a b
def fl_b (a b : Int64) : Int64 := if 1000000000 < fx_abs (fl_a a b) ∨ 1000000000 < fl_c a b then 0 else fl_c a b
/-- a fraction that is there, with its bounds -/
abbrev fx_ok (F : fx_F) : Prop := (-1000000000 ≤ F.1.toInt ∧ F.1.toInt ≤ 1000000000) ∧ 1 ≤ F.2.1.toInt ∧ F.2.1.toInt ≤ 1000000000
/-- the class's fraction F and the reference's two numbers -/
def fm (F : fx_F) (ab be : Int64) : Prop := (F.2.2 = 0 ∧ be = 0) ∨ (F.2.2 = 1 ∧ ab = F.1 ∧ be = F.2.1 ∧ fx_ok F)
theorem fm.no {F : fx_F} {ab be : Int64} (h : fm F ab be) : be = 0 ↔ F.2.2 = 0 := by
  rcases h with ⟨h1, h2⟩ | ⟨h1, h2, h3, h4⟩
  · exact ⟨fun _ => h1, fun _ => h2⟩
  · constructor
    · intro q
      have h5 := h4.2.1
      rw [← h3, q, i64_0] at h5
      omega
    · intro q
      rw [h1] at q
      exact absurd q (by decide)
theorem fm.yes {F : fx_F} {ab be : Int64} (h : fm F ab be) (hn : ¬ be = 0) : F.2.2 = 1 ∧ ab = F.1 ∧ be = F.2.1 ∧ fx_ok F := h.elim (fun q => absurd q.2 hn) id
theorem fm_0 {F : fx_F} {ab : Int64} (h : F.2.2 = 0) : fm F ab 0 := Or.inl ⟨h, rfl⟩
theorem fm.as {F G : fx_F} {ab be : Int64} (h : fm F ab be) (e : F = G) : fm G ab be := e ▸ h
theorem fx_abs_lt {x : Int64} (h : -9223372036854775808 < x.toInt) : ¬ 1000000000 < fx_abs x ↔ -1000000000 ≤ x.toInt ∧ x.toInt ≤ 1000000000 := by
  rw [Int64.lt_iff_toInt_lt, i64_M]
  have h1 := fx_abs_i h
  omega
theorem fx_nd {a b : Int64} (ha : -9223372036854775808 < a.toInt) (hb : 0 < b.toInt) : 0 < (fx_gd 126 (fx_abs a) b).toInt ∧ (fx_gd 126 (fx_abs a) b).toInt ∣ a.toInt ∧ (fx_gd 126 (fx_abs a) b).toInt ∣ b.toInt := by
  have h1 := fx_abs_i ha
  have h2 := fx_gd_dvd 126 (fx_abs a) b (fx_en126 h1.1 (by omega)) h1.1 (by omega) (by omega)
  refine ⟨h2.1, ?_, h2.2.2⟩
  rcases h1.2 with e | e
  · rw [← e]; exact h2.2.1
  · have h3 := h2.2.1; rw [e] at h3; exact (Int.dvd_neg).mp h3
theorem i64_dvd {a d : Int64} (hd : 0 < d.toInt) (h : d.toInt ∣ a.toInt) (ha : -9223372036854775808 < a.toInt) : (a / d).toInt * d.toInt = a.toInt := by
  have l1 := Int64.toInt_lt a
  obtain ⟨q, hq⟩ := h
  have e : a.toInt.tdiv d.toInt = q := by rw [hq]; exact Int.mul_tdiv_cancel_left _ (by omega)
  have hq2 : -9223372036854775808 < q ∧ q < 9223372036854775808 := by
    by_cases c : 0 ≤ q
    · have : 1 * q ≤ d.toInt * q := Int.mul_le_mul_of_nonneg_right (by omega) c
      omega
    · have : 1 * (-q) ≤ d.toInt * (-q) := Int.mul_le_mul_of_nonneg_right (by omega) (by omega)
      have e9 := Int.mul_neg d.toInt q
      omega
  rw [Int64.toInt_div, e, Int.bmod_eq_of_le (by omega) (by omega), hq, Int.mul_comm]
theorem fx_become_ok {a b : Int64} (ha : -9223372036854775808 < a.toInt) (hb : 0 ≤ b.toInt) : fm (fx_become a b) (fl_a a b) (fl_b a b) := by
  by_cases q : b = 0
  · subst q
    have e1 : fl_d a 0 = 0 := if_pos rfl
    have e2 : fl_c a 0 = 0 := by unfold fl_c; rw [e1, if_pos rfl]
    have e3 : fl_b a 0 = 0 := by unfold fl_b; rw [e2]; split <;> rfl
    have e4 : fx_div a 0 = 0 := if_neg (by decide)
    left
    refine ⟨?_, e3⟩
    unfold fx_become
    rw [e4, if_pos (by decide)]
    rfl
  · have qb := i64_ne q
    have hp : 0 < b := Int64.lt_iff_toInt_lt.mpr (by rw [i64_0]; omega)
    have hb1 : 0 < b.toInt := by omega
    have h1 := fx_abs_i ha
    have e0 : fx_div a b = fx_gd 126 (fx_abs a) b := by
      unfold fx_div
      rw [if_pos hp]
      exact fx_gd_add 74 126 _ _ (fx_en126 h1.1 hb)
    have e1 : fl_d a b = fx_gd 126 (fx_abs a) b := if_neg q
    obtain ⟨d, hd⟩ : ∃ d, d = fx_gd 126 (fx_abs a) b := ⟨_, rfl⟩
    have hnd := fx_nd ha hb1
    rw [← hd] at hnd e0 e1
    have dne : ¬ d = 0 := fun e => by have := hnd.1; rw [e, i64_0] at this; omega
    have dle : ¬ d ≤ 0 := fun e => by have := Int64.le_iff_toInt_le.mp e; rw [i64_0] at this; have := hnd.1; omega
    have e2 : fl_a a b = a / d := by unfold fl_a; rw [e1, if_neg dne]
    have e3 : fl_c a b = b / d := by unfold fl_c; rw [e1, if_neg dne]
    unfold fx_become fl_b
    rw [e0, e2, e3, if_neg dle]
    by_cases c : 1000000000 < fx_abs (a / d) ∨ 1000000000 < b / d
    · rw [if_pos c, if_pos c]
      exact fm_0 rfl
    · rw [if_neg c, if_neg c]
      right
      have c1 := fun h => c (Or.inl h)
      have c2 := fun h => c (Or.inr h)
      have d1 := i64_dvd hnd.1 hnd.2.1 ha
      have d2 := i64_dvd hnd.1 hnd.2.2 (by omega)
      have l1 := Int64.toInt_lt a
      have hd1 := hnd.1
      have b1 : -9223372036854775808 < (a / d).toInt := by
        rcases Int.lt_or_le (a / d).toInt 0 with g | g
        · have : (a / d).toInt * d.toInt ≤ (a / d).toInt * 1 := Int.mul_le_mul_of_nonpos_left (by omega) (by omega)
          omega
        · omega
      have b2 : 0 < (b / d).toInt := by
        rcases Int.lt_or_le 0 (b / d).toInt with g | g
        · exact g
        · have : (b / d).toInt * d.toInt ≤ 0 := Int.mul_nonpos_of_nonpos_of_nonneg g (by omega)
          omega
      have b3 := Int64.not_lt.mp c2
      have b3 := Int64.le_iff_toInt_le.mp b3
      rw [i64_M] at b3
      exact ⟨rfl, rfl, rfl, (fx_abs_lt b1).mp c1, b2, b3⟩
