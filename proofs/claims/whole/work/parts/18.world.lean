/-! THE STATE, and the worlds that hold it -/
/-- rows: kinds, how many, numbers -/
abbrev hs_R : Type := (Nat → Int32) × (Nat → Nat) × (Nat → Nat → Int32)
/-- what is told by hand: how many, three rows -/
abbrev hs_L : Type := Nat × (Nat → Int32) × (Nat → Int32) × (Nat → Int32)
/-- rows, seen, events, the book -/
abbrev hs_P : Type := hs_R × hs_L × hs_L × hs_L
/-- tapes: sorts, sizes, items -/
abbrev hs_T : Type := (Nat → Int32) × (Nat → Nat) × (Nat → Nat → Int64)
/-- the page, the image, the text, the tapes -/
abbrev hs_S : Type := hs_P × Option hs_P × (Nat × (Nat → Int32)) × hs_T
abbrev pE (p : Nat) : va_E := .inr (2, [.ref (p + 1), .ref (p + 2), .ref (p + 6), .ref (p + 10)])
abbrev qE (X : hv_X) (t n : Nat) (rf : Nat → Option Nat) : va_E := .inl (X.2.1 t, n, .inr (.inr (.inr (.inr rf))))
abbrev sE (s len : Nat) (pl cl : Int32) : va_E := .inr (4, [.ref (s + 1), .int (nI len), .int pl, .int cl, .ref (s + 2), .ref (s + 3)])
abbrev bE (X : hv_X) (M : Nat) (f : Nat → Int32) : va_E := .inl (X.2.1 2, M, .inl f)
abbrev xE (x : Nat) (k : Int32) : va_E := .inr (6, [.ref (x + 1), .ref (x + 27), .int k, .ref (x + 53), .ref (x + 57), .ref (x + 58), .ref (x + 60), .ref (x + 61), .ref (x + 62), .ref (x + 63)])
def ok_row (X : hv_X) (V : hv_V) (r : Nat) (kd : Int32) (n : Nat) (f : Nat → Int32) : Prop := V r = some (rE kd n (r + 1)) ∧ V (r + 1) = some (nE X f)
def ok_list (X : hv_X) (V : hv_V) (l M : Nat) (L : hs_L) : Prop := ∃ f g h : Nat → Int32, V l = some (lE l L.1) ∧ V (l + 1) = some (iE X M f) ∧ V (l + 2) = some (iE X M g) ∧ V (l + 3) = some (iE X M h) ∧ ∀ j, j < L.1 → f j = L.2.1 j ∧ g j = L.2.2.1 j ∧ h j = L.2.2.2 j
def ok_page (X : hv_X) (V : hv_V) (p : Nat) (P : hs_P) : Prop := V p = some (pE p) ∧ (∃ rf : Nat → Option Nat, V (p + 1) = some (qE X 3 6 rf) ∧ ∀ j, j < 6 → rf j = some (p + 14 + 2 * j)) ∧ (∀ j, j < 6 → ok_row X V (p + 14 + 2 * j) (P.1.1 j) (P.1.2.1 j) (P.1.2.2 j)) ∧ ok_list X V (p + 2) 4 P.2.1 ∧ ok_list X V (p + 6) 8 P.2.2.1 ∧ ok_list X V (p + 10) 8 P.2.2.2
def ok_text (X : hv_X) (V : hv_V) (s : Nat) (T : Nat × (Nat → Int32)) : Prop := ∃ (pl cl : Int32) (wd vl : Nat → Int32), V s = some (sE s T.1 pl cl) ∧ V (s + 1) = some (bE X 100 T.2) ∧ V (s + 2) = some (iE X 12 wd) ∧ V (s + 3) = some (iE X 48 vl)
def ok_tapes (X : hv_X) (V : hv_V) (x : Nat) (T : hs_T) : Prop := (∃ tf : Nat → Option Nat, V (x + 57) = some (qE X 4 6 tf) ∧ ∀ j, j < 6 → tf j = some (x + 64 + 2 * j)) ∧ ∀ j, j < 6 → V (x + 64 + 2 * j) = some (tE (x + 64 + 2 * j) (T.1 j) (T.2.1 j)) ∧ V (x + 64 + 2 * j + 1) = some (jE X (T.2.2 j))
/-- what calls work with and leave behind -/
def ok_scr (X : hv_X) (V : hv_V) (x : Nat) : Prop := (∃ (kd : Int32) (n : Nat) (f : Nat → Int32), ok_row X V (x + 58) kd n f) ∧ (∃ F : fx_F, V (x + 60) = some (fE F)) ∧ (∃ F : fx_F, V (x + 61) = some (fE F)) ∧ (∃ bf : Nat → Option Nat, V (x + 62) = some (qE X 5 16 bf) ∧ ∀ j, j < 16 → bf j = some (x + 76 + j)) ∧ (∀ j, j < 16 → ∃ F : fx_F, V (x + 76 + j) = some (fE F)) ∧ ∃ u : Nat → Int32, V (x + 63) = some (iE X 3 u)
def ok_kept (X : hv_X) (V : hv_V) (x : Nat) (K : Option hs_P) (k : Int32) : Prop := match K with
  | none => k = 0 ∧ ∃ P : hs_P, ok_page X V (x + 27) P
  | some P => k = 1 ∧ ok_page X V (x + 27) P
def okX (X : hv_X) (V : hv_V) (x : Nat) (σ : hs_S) : Prop := ∃ k : Int32, V x = some (xE x k) ∧ ok_page X V (x + 1) σ.1 ∧ ok_kept X V x σ.2.1 k ∧ ok_text X V (x + 53) σ.2.2.1 ∧ ok_tapes X V x σ.2.2.2 ∧ ok_scr X V x
/-- V1 is V but at the addresses that q tells -/
def hv_but (V V1 : hv_V) (lo hi : Nat) : Prop := ∀ q : Nat, lo ≤ q → q < hi → V1 q = V q
theorem ok_row.fr {X : hv_X} {V V1 : hv_V} {r : Nat} {kd : Int32} {n : Nat} {f : Nat → Int32} (h : ok_row X V r kd n f) (hb : hv_but V V1 r (r + 2)) : ok_row X V1 r kd n f := ⟨(hb r (by omega) (by omega)).trans h.1, (hb (r + 1) (by omega) (by omega)).trans h.2⟩
theorem ok_list.fr {X : hv_X} {V V1 : hv_V} {l M : Nat} {L : hs_L} (h : ok_list X V l M L) (hb : hv_but V V1 l (l + 4)) : ok_list X V1 l M L := by
  obtain ⟨f, g, h, h0, h1, h2, h3, ha⟩ := h
  exact ⟨f, g, h, (hb l (by omega) (by omega)).trans h0, (hb (l + 1) (by omega) (by omega)).trans h1, (hb (l + 2) (by omega) (by omega)).trans h2, (hb (l + 3) (by omega) (by omega)).trans h3, ha⟩
theorem hv_but.sub {V V1 : hv_V} {lo hi a b : Nat} (h : hv_but V V1 lo hi) (h1 : lo ≤ a) (h2 : b ≤ hi) : hv_but V V1 a b := fun q q1 q2 => h q (by omega) (by omega)
theorem ok_page.fr {X : hv_X} {V V1 : hv_V} {p : Nat} {P : hs_P} (h : ok_page X V p P) (hb : hv_but V V1 p (p + 26)) : ok_page X V1 p P := by
  obtain ⟨h0, ⟨rf, h1, h2⟩, h3, h4, h5, h6⟩ := h
  exact ⟨(hb p (by omega) (by omega)).trans h0, ⟨rf, (hb (p + 1) (by omega) (by omega)).trans h1, h2⟩, fun j hj => (h3 j hj).fr (hb.sub (by omega) (by omega)), h4.fr (hb.sub (by omega) (by omega)), h5.fr (hb.sub (by omega) (by omega)), h6.fr (hb.sub (by omega) (by omega))⟩
theorem ok_text.fr {X : hv_X} {V V1 : hv_V} {s : Nat} {T : Nat × (Nat → Int32)} (h : ok_text X V s T) (hb : hv_but V V1 s (s + 4)) : ok_text X V1 s T := by
  obtain ⟨pl, cl, wd, vl, h0, h1, h2, h3⟩ := h
  exact ⟨pl, cl, wd, vl, (hb s (by omega) (by omega)).trans h0, (hb (s + 1) (by omega) (by omega)).trans h1, (hb (s + 2) (by omega) (by omega)).trans h2, (hb (s + 3) (by omega) (by omega)).trans h3⟩
theorem ok_tapes.fr {X : hv_X} {V V1 : hv_V} {x : Nat} {T : hs_T} (h : ok_tapes X V x T) (h57 : V1 (x + 57) = V (x + 57)) (hb : hv_but V V1 (x + 64) (x + 76)) : ok_tapes X V1 x T := by
  obtain ⟨⟨tf, h1, h2⟩, h3⟩ := h
  exact ⟨⟨tf, h57.trans h1, h2⟩, fun j hj => ⟨(hb _ (by omega) (by omega)).trans (h3 j hj).1, (hb _ (by omega) (by omega)).trans (h3 j hj).2⟩⟩
theorem ok_scr.fr {X : hv_X} {V V1 : hv_V} {x : Nat} (h : ok_scr X V x) (hb : hv_but V V1 (x + 58) (x + 64)) (hb2 : hv_but V V1 (x + 76) (x + 92)) : ok_scr X V1 x := by
  obtain ⟨⟨kd, n, f, h1⟩, ⟨F, h2⟩, ⟨G, h3⟩, ⟨bf, h4, h5⟩, h6, u, h7⟩ := h
  exact ⟨⟨kd, n, f, h1.fr (hb.sub (by omega) (by omega))⟩, ⟨F, (hb _ (by omega) (by omega)).trans h2⟩, ⟨G, (hb _ (by omega) (by omega)).trans h3⟩, ⟨bf, (hb _ (by omega) (by omega)).trans h4, h5⟩, fun j hj => (h6 j hj).elim fun F h => ⟨F, (hb2 _ (by omega) (by omega)).trans h⟩, u, (hb _ (by omega) (by omega)).trans h7⟩
theorem ok_kept.fr {X : hv_X} {V V1 : hv_V} {x : Nat} {K : Option hs_P} {k : Int32} (h : ok_kept X V x K k) (hb : hv_but V V1 (x + 27) (x + 53)) : ok_kept X V1 x K k := by
  cases K with
  | none => exact ⟨h.1, h.2.elim fun P hP => ⟨P, hP.fr (hb.sub (by omega) (by omega))⟩⟩
  | some P => exact ⟨h.1, h.2.fr (hb.sub (by omega) (by omega))⟩
theorem okX.fr {X : hv_X} {V V1 : hv_V} {x : Nat} {σ : hs_S} (h : okX X V x σ) (hb : hv_but V V1 x (x + 92)) : okX X V1 x σ := by
  obtain ⟨k, h0, h1, h2, h3, h4, h5⟩ := h
  exact ⟨k, (hb x (by omega) (by omega)).trans h0, h1.fr (hb.sub (by omega) (by omega)), h2.fr (hb.sub (by omega) (by omega)), h3.fr (hb.sub (by omega) (by omega)), h4.fr (hb _ (by omega) (by omega)) (hb.sub (by omega) (by omega)), h5.fr (hb.sub (by omega) (by omega)) (hb.sub (by omega) (by omega))⟩
theorem hv_but1 {V : hv_V} {a lo hi : Nat} {e : va_E} (h : a < lo ∨ hi ≤ a) : hv_but V (hv_up V a e) lo hi := fun q h1 h2 => hv_un (by omega)
theorem hv_but.up {V V1 : hv_V} {a lo hi : Nat} {e : va_E} (hb : hv_but V V1 lo hi) (h : a < lo ∨ hi ≤ a) : hv_but V (hv_up V1 a e) lo hi := fun q h1 h2 => (hv_un (by omega)).trans (hb q h1 h2)
theorem hv_but.rf {V : hv_V} {lo hi : Nat} : hv_but V V lo hi := fun _ _ _ => rfl
theorem hv_but.tr {V V1 V2 : hv_V} {lo hi : Nat} (h : hv_but V V1 lo hi) (h2 : hv_but V1 V2 lo hi) : hv_but V V2 lo hi := fun q a b => (h2 q a b).trans (h q a b)
/-- a function told otherwise at one place -/
def hs_up {α : Type} (f : Nat → α) (k : Nat) (v : α) : Nat → α := fun j => if j = k then v else f j
theorem hs_us {α : Type} {f : Nat → α} {k : Nat} {v : α} : hs_up f k v k = v := if_pos rfl
theorem hs_un {α : Type} {f : Nat → α} {k j : Nat} {v : α} (h : j ≠ k) : hs_up f k v j = f j := if_neg h
theorem hs_id {α : Type} {f : Nat → α} {k : Nat} : hs_up f k (f k) = f := by
  funext j
  by_cases h : j = k
  · subst h; rw [hs_us]
  · rw [hs_un h]
/-- row j becomes another -/
def hs_row (P : hs_P) (j : Nat) (kd : Int32) (n : Nat) (f : Nat → Int32) : hs_P := ((hs_up P.1.1 j kd, hs_up P.1.2.1 j n, hs_up P.1.2.2 j f), P.2)
theorem ok_page.row {X : hv_X} {V V1 : hv_V} {p : Nat} {P : hs_P} (h : ok_page X V p P) {j : Nat} (hj : j < 6) {kd : Int32} {n : Nat} {f : Nat → Int32} (hr : ok_row X V1 (p + 14 + 2 * j) kd n f) (hb1 : hv_but V V1 p (p + 14 + 2 * j)) (hb2 : hv_but V V1 (p + 14 + 2 * j + 2) (p + 26)) : ok_page X V1 p (hs_row P j kd n f) := by
  obtain ⟨h0, ⟨rf, h1, h2⟩, h3, h4, h5, h6⟩ := h
  refine ⟨(hb1 p (by omega) (by omega)).trans h0, ⟨rf, (hb1 (p + 1) (by omega) (by omega)).trans h1, h2⟩, fun i hi => ?_, h4.fr (hb1.sub (by omega) (by omega)), h5.fr (hb1.sub (by omega) (by omega)), h6.fr (hb1.sub (by omega) (by omega))⟩
  show ok_row X V1 (p + 14 + 2 * i) (hs_up P.1.1 j kd i) (hs_up P.1.2.1 j n i) (hs_up P.1.2.2 j f i)
  by_cases hij : i = j
  · subst hij
    rw [hs_us, hs_us, hs_us]
    exact hr
  · rw [hs_un hij, hs_un hij, hs_un hij]
    rcases Nat.lt_or_ge i j with q | q
    · exact (h3 i hi).fr (hb1.sub (by omega) (by omega))
    · exact (h3 i hi).fr (hb2.sub (by omega) (by omega))
/-- the bounds that the state keeps -/
def hs_bR (R : hs_R) : Prop := ∀ j, j < 6 → (0 ≤ R.1 j ∧ R.1 j ≤ 3) ∧ R.2.1 j ≤ 16 ∧ ∀ i, 0 ≤ R.2.2 j i ∧ R.2.2 j i ≤ 1000000000
def hs_bP (P : hs_P) : Prop := hs_bR P.1 ∧ (P.2.1.1 ≤ 4 ∧ ∀ j, j < P.2.1.1 → (0 ≤ P.2.1.2.1 j ∧ P.2.1.2.1 j ≤ 5) ∧ (1 ≤ P.2.1.2.2.1 j ∧ P.2.1.2.2.1 j ≤ 9999) ∧ (1 ≤ P.2.1.2.2.2 j ∧ P.2.1.2.2.2 j ≤ 9999)) ∧ (P.2.2.1.1 ≤ 8 ∧ ∀ j, j < P.2.2.1.1 → (0 ≤ P.2.2.1.2.1 j ∧ P.2.2.1.2.1 j ≤ 2) ∧ (0 ≤ P.2.2.1.2.2.1 j ∧ P.2.2.1.2.2.1 j ≤ 5)) ∧ (P.2.2.2.1 ≤ 8 ∧ ∀ j, j < P.2.2.2.1 → ∃ r i : Nat, r < 6 ∧ i < 16 ∧ P.2.2.2.2.1 j = nI (100 * r + i))
def hs_b (σ : hs_S) : Prop := hs_bP σ.1 ∧ (∀ P, σ.2.1 = some P → hs_bP P) ∧ σ.2.2.1.1 ≤ 100 ∧ (∀ j, 0 ≤ σ.2.2.1.2 j ∧ σ.2.2.1.2 j ≤ 127) ∧ ∀ j, j < 6 → (-1 ≤ σ.2.2.2.1 j ∧ σ.2.2.2.1 j ≤ 4) ∧ σ.2.2.2.2.1 j ≤ 60 ∧ (σ.2.2.2.1 j = -1 → σ.2.2.2.2.1 j = 0)
/-- numbers that are rows' -/
abbrev sp_in (v a b : Int32) : Prop := a ≤ v ∧ v ≤ b
theorem sp_inN {v : Int32} {k : Nat} (hk : k < 2 ^ 31) (h : sp_in v 0 (nI k)) : ∃ j : Nat, j < k + 1 ∧ v = nI j := by
  obtain ⟨j, h1, h2⟩ := nI_of2 (M := nI k) (n := k) (nI_toInt hk) (fun q => absurd h.1 (Int32.not_le.mpr q)) h.2
  exact ⟨j, by omega, h2⟩
