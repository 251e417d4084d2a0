/-! THE START, and the reference's constructor -/
def hs_P0 : hs_P := ((fun _ => 0, fun _ => 0, fun _ _ => 0), (0, fun _ => 0, fun _ => 0, fun _ => 0), (0, fun _ => 0, fun _ => 0, fun _ => 0), (0, fun _ => 0, fun _ => 0, fun _ => 0))
def hw_so (i : Nat) : Nat → Int32 := fun j => if j < i then -1 else 0
def hs_0 : hs_S := (hs_P0, none, (0, fun _ => 0), (hw_so 6, fun _ => 0, fun _ _ => 0))
theorem hw_so0 : hw_so 0 = fun _ => 0 := by
  funext j
  exact if_neg (Nat.not_lt_zero j)
theorem hw_sos (i : Nat) : upd (hw_so i) i (-1) = hw_so (i + 1) := by
  funext j
  unfold upd hw_so
  by_cases q : j = i
  · rw [if_pos q, if_pos (by omega)]
  · rw [if_neg q]
    by_cases r : j < i
    · rw [if_pos r, if_pos (by omega)]
    · rw [if_neg r, if_neg (by omega)]
theorem hb_P0 : hs_bP hs_P0 := by
  have h0 : (0 : Int32) ≤ 0 ∧ (0 : Int32) ≤ 3 := by decide
  have h1 : (0 : Int32) ≤ 0 ∧ (0 : Int32) ≤ 1000000000 := by decide
  exact ⟨fun j hj => ⟨h0, Nat.zero_le _, fun i => h1⟩, ⟨Nat.zero_le _, fun j hj => absurd hj (Nat.not_lt_zero j)⟩, ⟨Nat.zero_le _, fun j hj => absurd hj (Nat.not_lt_zero j)⟩, ⟨Nat.zero_le _, fun j hj => absurd hj (Nat.not_lt_zero j)⟩⟩
theorem hb_0 : hs_b hs_0 := by
  have h0 : (0 : Int32) ≤ 0 ∧ (0 : Int32) ≤ 127 := by decide
  refine ⟨hb_P0, fun P h => (by cases (show (none : Option hs_P) = some P from h)), Nat.zero_le _, fun j => h0, fun j hj => ?_⟩
  show (-1 ≤ hw_so 6 j ∧ hw_so 6 j ≤ 4) ∧ 0 ≤ 60 ∧ (hw_so 6 j = -1 → 0 = 0)
  rw [show hw_so 6 j = -1 from if_pos hj]
  exact ⟨by decide, by decide, fun _ => rfl⟩
/-- the object at o, n cells of g behind it, nothing changed before it -/
def hw_S (V0 V : hv_V) (o : Nat) (g : Nat → va_E) (n : Nat) (ob : va_E) : Prop := V o = some ob ∧ (∀ j, j < n → V (o + 1 + j) = some (g j)) ∧ ∀ q, q < o → V q = V0 q
theorem hw_S.nw {V0 V : hv_V} {o n : Nat} {g : Nat → va_E} {ob e : va_E} (h : hw_S V0 V o g n ob) (he : g n = e) : hw_S V0 (hv_up V (o + 1 + n) e) o g (n + 1) ob := by
  refine ⟨by rw [hv_un (by omega)]; exact h.1, fun j hj => ?_, fun q hq => by rw [hv_un (by omega)]; exact h.2.2 q hq⟩
  by_cases q : j = n
  · rw [q, ← he]; exact hv_us
  · rw [hv_un (by omega)]; exact h.2.1 j (by omega)
theorem hw_S.pt {V0 V : hv_V} {o n : Nat} {g : Nat → va_E} {ob ob2 : va_E} (h : hw_S V0 V o g n ob) : hw_S V0 (hv_up V o ob2) o g n ob2 :=
  ⟨hv_us, fun j hj => by rw [hv_un (by omega)]; exact h.2.1 j hj, fun q hq => by rw [hv_un (by omega)]; exact h.2.2 q hq⟩
theorem hw_S.mt {V0 V V1 : hv_V} {o n N : Nat} {g : Nat → va_E} {ob e1 e2 : va_E} (h : hw_S V0 V o g n ob) (h1 : V1 (o + 1 + n) = some e1) (h2 : ∀ j, j < N → V1 (o + 1 + n + 1 + j) = some e2) (h3 : ∀ q, q < o + 1 + n → V1 q = V q) (g1 : g n = e1) (g2 : ∀ j, j < N → g (n + 1 + j) = e2) : hw_S V0 V1 o g (n + 1 + N) ob := by
  refine ⟨(h3 _ (by omega)).trans h.1, fun j hj => ?_, fun q hq => (h3 _ (by omega)).trans (h.2.2 q hq)⟩
  rcases Nat.lt_or_ge j n with r | r
  · exact (h3 _ (by omega)).trans (h.2.1 j r)
  · by_cases q : j = n
    · rw [q, g1]; exact h1
    · have h9 := h2 (j - (n + 1)) (by omega)
      have h8 := g2 (j - (n + 1)) (by omega)
      rw [show o + 1 + n + 1 + (j - (n + 1)) = o + 1 + j by omega] at h9
      rw [show n + 1 + (j - (n + 1)) = j by omega] at h8
      rw [h8]; exact h9
theorem hw_S.lt {V0 V : hv_V} {o n : Nat} {g : Nat → va_E} {ob : va_E} {X : hv_X} {H : Heap} (h : hw_S V0 V o g (n + 1) ob) (hk : hv_ok X V H) : o + 1 + n < H.size := hk.lt (h.2.1 n (by omega))
theorem hw_S.sz {V0 V : hv_V} {o n k : Nat} {g : Nat → va_E} {ob : va_E} {X : hv_X} {H : Heap} (h : hw_S V0 V o g (n + 1) ob) (hk : hv_ok X V H) (hzz : H.size ≤ k + (n + 1)) (hz0 : k = o + 1) : H.size = o + 1 + (n + 1) := by
  have := h.lt hk
  omega
/-- what the reference's cells hold at the start -/
def m0_g (X : hv_X) (o : Nat) : Nat → va_E
  | 0 => iE X 6 (fun _ => 0)
  | 1 => iE X 6 (fun _ => 0)
  | 2 => qE X 6 6 (hw_r (o + 1 + 2) 6)
  | 3 => iE X 16 (fun _ => 0)
  | 4 => iE X 16 (fun _ => 0)
  | 5 => iE X 16 (fun _ => 0)
  | 6 => iE X 16 (fun _ => 0)
  | 7 => iE X 16 (fun _ => 0)
  | 8 => iE X 16 (fun _ => 0)
  | 9 => bE X 100 (fun _ => 0)
  | 10 => iE X 12 (fun _ => 0)
  | 11 => iE X 48 (fun _ => 0)
  | 12 => bE X 178 (fun _ => 0)
  | 13 => iE X 3 (fun _ => 0)
  | 14 => iE X 4 (fun _ => 0)
  | 15 => iE X 4 (fun _ => 0)
  | 16 => iE X 4 (fun _ => 0)
  | 17 => iE X 8 (fun _ => 0)
  | 18 => iE X 8 (fun _ => 0)
  | 19 => iE X 16 (fun _ => 0)
  | 20 => iE X 8 (fun _ => 0)
  | 21 => iE X 8 (fun _ => 0)
  | 22 => iE X 3 (fun _ => 0)
  | 23 => iE X 6 (fun _ => 0)
  | 24 => iE X 6 (fun _ => 0)
  | 25 => qE X 6 6 (hw_r (o + 1 + 25) 6)
  | 26 => iE X 16 (fun _ => 0)
  | 27 => iE X 16 (fun _ => 0)
  | 28 => iE X 16 (fun _ => 0)
  | 29 => iE X 16 (fun _ => 0)
  | 30 => iE X 16 (fun _ => 0)
  | 31 => iE X 16 (fun _ => 0)
  | 32 => qE X 6 7 (hw_r (o + 1 + 32) 7)
  | 33 => iE X 8 (fun _ => 0)
  | 34 => iE X 8 (fun _ => 0)
  | 35 => iE X 8 (fun _ => 0)
  | 36 => iE X 8 (fun _ => 0)
  | 37 => iE X 8 (fun _ => 0)
  | 38 => iE X 8 (fun _ => 0)
  | 39 => iE X 8 (fun _ => 0)
  | 40 => iE X 6 (fun _ => 0)
  | 41 => iE X 6 (fun _ => 0)
  | 42 => qE X 7 6 (hw_r (o + 1 + 42) 6)
  | 43 => jE X (fun _ => 0)
  | 44 => jE X (fun _ => 0)
  | 45 => jE X (fun _ => 0)
  | 46 => jE X (fun _ => 0)
  | 47 => jE X (fun _ => 0)
  | 48 => jE X (fun _ => 0)
  | _ => .inr (0, [])
theorem m0_e0 {X : hv_X} {o : Nat} : m0_g X o 0 = iE X 6 (fun _ => 0) := rfl
theorem m0_e1 {X : hv_X} {o : Nat} : m0_g X o 1 = iE X 6 (fun _ => 0) := rfl
theorem m0_e2 {X : hv_X} {o : Nat} : m0_g X o 2 = qE X 6 6 (hw_r (o + 1 + 2) 6) := rfl
theorem m0_e3 {X : hv_X} {o : Nat} : m0_g X o 3 = iE X 16 (fun _ => 0) := rfl
theorem m0_e4 {X : hv_X} {o : Nat} : m0_g X o 4 = iE X 16 (fun _ => 0) := rfl
theorem m0_e5 {X : hv_X} {o : Nat} : m0_g X o 5 = iE X 16 (fun _ => 0) := rfl
theorem m0_e6 {X : hv_X} {o : Nat} : m0_g X o 6 = iE X 16 (fun _ => 0) := rfl
theorem m0_e7 {X : hv_X} {o : Nat} : m0_g X o 7 = iE X 16 (fun _ => 0) := rfl
theorem m0_e8 {X : hv_X} {o : Nat} : m0_g X o 8 = iE X 16 (fun _ => 0) := rfl
theorem m0_e9 {X : hv_X} {o : Nat} : m0_g X o 9 = bE X 100 (fun _ => 0) := rfl
theorem m0_e10 {X : hv_X} {o : Nat} : m0_g X o 10 = iE X 12 (fun _ => 0) := rfl
theorem m0_e11 {X : hv_X} {o : Nat} : m0_g X o 11 = iE X 48 (fun _ => 0) := rfl
theorem m0_e12 {X : hv_X} {o : Nat} : m0_g X o 12 = bE X 178 (fun _ => 0) := rfl
theorem m0_e13 {X : hv_X} {o : Nat} : m0_g X o 13 = iE X 3 (fun _ => 0) := rfl
theorem m0_e14 {X : hv_X} {o : Nat} : m0_g X o 14 = iE X 4 (fun _ => 0) := rfl
theorem m0_e15 {X : hv_X} {o : Nat} : m0_g X o 15 = iE X 4 (fun _ => 0) := rfl
theorem m0_e16 {X : hv_X} {o : Nat} : m0_g X o 16 = iE X 4 (fun _ => 0) := rfl
theorem m0_e17 {X : hv_X} {o : Nat} : m0_g X o 17 = iE X 8 (fun _ => 0) := rfl
theorem m0_e18 {X : hv_X} {o : Nat} : m0_g X o 18 = iE X 8 (fun _ => 0) := rfl
theorem m0_e19 {X : hv_X} {o : Nat} : m0_g X o 19 = iE X 16 (fun _ => 0) := rfl
theorem m0_e20 {X : hv_X} {o : Nat} : m0_g X o 20 = iE X 8 (fun _ => 0) := rfl
theorem m0_e21 {X : hv_X} {o : Nat} : m0_g X o 21 = iE X 8 (fun _ => 0) := rfl
theorem m0_e22 {X : hv_X} {o : Nat} : m0_g X o 22 = iE X 3 (fun _ => 0) := rfl
theorem m0_e23 {X : hv_X} {o : Nat} : m0_g X o 23 = iE X 6 (fun _ => 0) := rfl
theorem m0_e24 {X : hv_X} {o : Nat} : m0_g X o 24 = iE X 6 (fun _ => 0) := rfl
theorem m0_e25 {X : hv_X} {o : Nat} : m0_g X o 25 = qE X 6 6 (hw_r (o + 1 + 25) 6) := rfl
theorem m0_e26 {X : hv_X} {o : Nat} : m0_g X o 26 = iE X 16 (fun _ => 0) := rfl
theorem m0_e27 {X : hv_X} {o : Nat} : m0_g X o 27 = iE X 16 (fun _ => 0) := rfl
theorem m0_e28 {X : hv_X} {o : Nat} : m0_g X o 28 = iE X 16 (fun _ => 0) := rfl
theorem m0_e29 {X : hv_X} {o : Nat} : m0_g X o 29 = iE X 16 (fun _ => 0) := rfl
theorem m0_e30 {X : hv_X} {o : Nat} : m0_g X o 30 = iE X 16 (fun _ => 0) := rfl
theorem m0_e31 {X : hv_X} {o : Nat} : m0_g X o 31 = iE X 16 (fun _ => 0) := rfl
theorem m0_e32 {X : hv_X} {o : Nat} : m0_g X o 32 = qE X 6 7 (hw_r (o + 1 + 32) 7) := rfl
theorem m0_e33 {X : hv_X} {o : Nat} : m0_g X o 33 = iE X 8 (fun _ => 0) := rfl
theorem m0_e34 {X : hv_X} {o : Nat} : m0_g X o 34 = iE X 8 (fun _ => 0) := rfl
theorem m0_e35 {X : hv_X} {o : Nat} : m0_g X o 35 = iE X 8 (fun _ => 0) := rfl
theorem m0_e36 {X : hv_X} {o : Nat} : m0_g X o 36 = iE X 8 (fun _ => 0) := rfl
theorem m0_e37 {X : hv_X} {o : Nat} : m0_g X o 37 = iE X 8 (fun _ => 0) := rfl
theorem m0_e38 {X : hv_X} {o : Nat} : m0_g X o 38 = iE X 8 (fun _ => 0) := rfl
theorem m0_e39 {X : hv_X} {o : Nat} : m0_g X o 39 = iE X 8 (fun _ => 0) := rfl
theorem m0_e40 {X : hv_X} {o : Nat} : m0_g X o 40 = iE X 6 (fun _ => 0) := rfl
theorem m0_e41 {X : hv_X} {o : Nat} : m0_g X o 41 = iE X 6 (fun _ => 0) := rfl
theorem m0_e42 {X : hv_X} {o : Nat} : m0_g X o 42 = qE X 7 6 (hw_r (o + 1 + 42) 6) := rfl
theorem m0_e43 {X : hv_X} {o : Nat} : m0_g X o 43 = jE X (fun _ => 0) := rfl
theorem m0_e44 {X : hv_X} {o : Nat} : m0_g X o 44 = jE X (fun _ => 0) := rfl
theorem m0_e45 {X : hv_X} {o : Nat} : m0_g X o 45 = jE X (fun _ => 0) := rfl
theorem m0_e46 {X : hv_X} {o : Nat} : m0_g X o 46 = jE X (fun _ => 0) := rfl
theorem m0_e47 {X : hv_X} {o : Nat} : m0_g X o 47 = jE X (fun _ => 0) := rfl
theorem m0_e48 {X : hv_X} {o : Nat} : m0_g X o 48 = jE X (fun _ => 0) := rfl
theorem m0_6 : ∀ j, j < 6 → j = 0 ∨ j = 1 ∨ j = 2 ∨ j = 3 ∨ j = 4 ∨ j = 5 := fun j hj => by omega
theorem m0_7 : ∀ j, j < 7 → j = 0 ∨ j = 1 ∨ j = 2 ∨ j = 3 ∨ j = 4 ∨ j = 5 ∨ j = 6 := fun j hj => by omega
theorem m0_a {X : hv_X} {o : Nat} : ∀ j, j < 6 → m0_g X o (2 + 1 + j) = iE X 16 (fun _ => 0) := fun j hj => by
  rcases m0_6 j hj with rfl | rfl | rfl | rfl | rfl | rfl
  · exact m0_e3
  · exact m0_e4
  · exact m0_e5
  · exact m0_e6
  · exact m0_e7
  · exact m0_e8
theorem m0_b {X : hv_X} {o : Nat} : ∀ j, j < 6 → m0_g X o (25 + 1 + j) = iE X 16 (fun _ => 0) := fun j hj => by
  rcases m0_6 j hj with rfl | rfl | rfl | rfl | rfl | rfl
  · exact m0_e26
  · exact m0_e27
  · exact m0_e28
  · exact m0_e29
  · exact m0_e30
  · exact m0_e31
theorem m0_c {X : hv_X} {o : Nat} : ∀ j, j < 7 → m0_g X o (32 + 1 + j) = iE X 8 (fun _ => 0) := fun j hj => by
  rcases m0_7 j hj with rfl | rfl | rfl | rfl | rfl | rfl | rfl
  · exact m0_e33
  · exact m0_e34
  · exact m0_e35
  · exact m0_e36
  · exact m0_e37
  · exact m0_e38
  · exact m0_e39
theorem m0_d {X : hv_X} {o : Nat} : ∀ j, j < 6 → m0_g X o (42 + 1 + j) = jE X (fun _ => 0) := fun j hj => by
  rcases m0_6 j hj with rfl | rfl | rfl | rfl | rfl | rfl
  · exact m0_e43
  · exact m0_e44
  · exact m0_e45
  · exact m0_e46
  · exact m0_e47
  · exact m0_e48
