/-! WHAT EACH CALL ANSWERS, and what the state becomes: one text for the class and for the reference -/
def sp_begin (σ : hs_S) (r k : Int32) : Int32 × hs_S := if sp_in r 0 5 ∧ sp_in k 0 3 then (nI (σ.1.1.2.1 r.toNatClampNeg), (hs_row σ.1 r.toNatClampNeg k 0 (σ.1.1.2.2 r.toNatClampNeg), σ.2)) else (-1, σ)
def sp_add (σ : hs_S) (r v : Int32) : Int32 × hs_S := if sp_in r 0 5 then (if sp_in v 0 1000000000 then (if σ.1.1.2.1 r.toNatClampNeg < 16 then (nI (σ.1.1.2.1 r.toNatClampNeg + 1), (hs_row σ.1 r.toNatClampNeg (σ.1.1.1 r.toNatClampNeg) (σ.1.1.2.1 r.toNatClampNeg + 1) (upd (σ.1.1.2.2 r.toNatClampNeg) (σ.1.1.2.1 r.toNatClampNeg) v), σ.2)) else (-4, σ)) else (-2, σ)) else (-1, σ)
def sp_cut (σ : hs_S) (r n : Int32) : Int32 × hs_S := if sp_in r 0 5 then (if sp_in n 0 (nI (σ.1.1.2.1 r.toNatClampNeg)) then (nI (σ.1.1.2.1 r.toNatClampNeg) - n, (hs_row σ.1 r.toNatClampNeg (σ.1.1.1 r.toNatClampNeg) n.toNatClampNeg (σ.1.1.2.2 r.toNatClampNeg), σ.2)) else (-2, σ)) else (-1, σ)
def sp_copies (σ : hs_S) (r f : Int32) : Int32 × hs_S := if sp_in r 0 5 ∧ sp_in f 0 5 then (nI (σ.1.1.2.1 f.toNatClampNeg), (hs_row σ.1 r.toNatClampNeg (σ.1.1.1 f.toNatClampNeg) (σ.1.1.2.1 f.toNatClampNeg) (σ.1.1.2.2 f.toNatClampNeg), σ.2)) else (-1, σ)
def sp_of (σ : hs_S) (r i : Int32) : Int32 := if sp_in r 0 5 ∧ 0 ≤ i then (if i < nI (σ.1.1.2.1 r.toNatClampNeg) then σ.1.1.2.2 r.toNatClampNeg i.toNatClampNeg else -5) else -1
/-- the worth of the first k numbers of row j -/
abbrev sp_w (σ : hs_S) (j k : Nat) : fx_F := fx_reckon (σ.1.1.1 j) (σ.1.1.2.2 j) k
def sp_told (σ : hs_S) (r k : Int32) : Int32 := if sp_in r 0 5 ∧ sp_in k 0 3 then (if k = 0 then σ.1.1.1 r.toNatClampNeg else if k = 1 then nI (σ.1.1.2.1 r.toNatClampNeg) else if k = 2 then sp_flaw (σ.1.1.1 r.toNatClampNeg) (σ.1.1.2.1 r.toNatClampNeg) (σ.1.1.2.2 r.toNatClampNeg) else if (sp_w σ r.toNatClampNeg (σ.1.1.2.1 r.toNatClampNeg)).2.2 = 0 then 0 else 1) else -1
def sp_worth (σ : hs_S) (r k : Int32) : Int64 := if sp_in r 0 5 ∧ sp_in k 0 1 then fx_part (sp_w σ r.toNatClampNeg (σ.1.1.2.1 r.toNatClampNeg)) k else -9223372036854775808
def sp_great (σ : hs_S) (r f : Int32) : Int32 := if sp_in r 0 5 ∧ sp_in f 0 5 then (if σ.1.1.1 r.toNatClampNeg = σ.1.1.1 f.toNatClampNeg then sp_greater (σ.1.1.1 r.toNatClampNeg) (σ.1.1.2.1 r.toNatClampNeg) (σ.1.1.2.1 f.toNatClampNeg) (σ.1.1.2.2 r.toNatClampNeg) (σ.1.1.2.2 f.toNatClampNeg) else -3) else -1
def sp_wt (F G : fx_F) : Int32 := if F.2.2 = 0 ∨ G.2.2 = 0 then -3 else if fx_above F G then 1 else if fx_above G F then 2 else 0
def sp_worthier (σ : hs_S) (r f : Int32) : Int32 := if sp_in r 0 5 ∧ sp_in f 0 5 then sp_wt (sp_w σ r.toNatClampNeg (σ.1.1.2.1 r.toNatClampNeg)) (sp_w σ f.toNatClampNeg (σ.1.1.2.1 f.toNatClampNeg)) else -1
/-- tape j becomes another -/
def hs_tape (T : hs_T) (j : Nat) (so : Int32) (n : Nat) (g : Nat → Int64) : hs_T := (hs_up T.1 j so, hs_up T.2.1 j n, hs_up T.2.2 j g)
def sp_tape (σ : hs_S) (t so n : Int32) : Int32 × hs_S := if sp_in t 0 5 then (if so = -1 then (1, (σ.1, σ.2.1, σ.2.2.1, hs_tape σ.2.2.2 t.toNatClampNeg (-1) 0 (sp_cp (σ.2.2.2.2.2 t.toNatClampNeg) (fun _ => 0) 60))) else if sp_in so 0 4 ∧ n ≤ 60 then (if n < 0 then (-14, σ) else (1, (σ.1, σ.2.1, σ.2.2.1, hs_tape σ.2.2.2 t.toNatClampNeg so n.toNatClampNeg (sp_cp (σ.2.2.2.2.2 t.toNatClampNeg) (fun _ => 0) 60)))) else (-2, σ)) else (-1, σ)
def sp_itm (σ : hs_S) (t i : Int32) (v : Int64) : Int32 × hs_S := if sp_in t 0 5 then (if σ.2.2.2.1 t.toNatClampNeg = -1 then (-11, σ) else if ¬ (i < 0 ∨ σ.2.2.2.2.1 t.toNatClampNeg ≤ i.toNatClampNeg) then (1, (σ.1, σ.2.1, σ.2.2.1, hs_tape σ.2.2.2 t.toNatClampNeg (σ.2.2.2.1 t.toNatClampNeg) (σ.2.2.2.2.1 t.toNatClampNeg) (vp_updL (σ.2.2.2.2.2 t.toNatClampNeg) i.toNatClampNeg (sp_item (σ.2.2.2.1 t.toNatClampNeg) v)))) else (-13, σ)) else (-1, σ)
def sp_peek (σ : hs_S) (t i : Int32) : Int64 := if sp_in t 0 5 ∧ ¬ (i < 0 ∨ σ.2.2.2.2.1 t.toNatClampNeg ≤ i.toNatClampNeg) then σ.2.2.2.2.2 t.toNatClampNeg i.toNatClampNeg else -9223372036854775808
/-- how a listing takes a row more -/
def hs_put (L : hs_L) (a b c : Int32) : hs_L := (L.1 + 1, upd L.2.1 L.1 a, upd L.2.2.1 L.1 b, upd L.2.2.2 L.1 c)
def hs_nil (L : hs_L) : hs_L := (0, L.2)
def sp_see (σ : hs_S) (r u l : Int32) : Int32 × hs_S := if r = -1 then (0, ((σ.1.1, hs_nil σ.1.2.1, σ.1.2.2), σ.2)) else if sp_in r 0 5 then (if sp_in u 1 9999 ∧ sp_in l 1 9999 then (if σ.1.2.1.1 < 4 then (nI (σ.1.2.1.1 + 1), ((σ.1.1, hs_put σ.1.2.1 r u l, σ.1.2.2), σ.2)) else (-4, σ)) else (-2, σ)) else (-1, σ)
def sp_event (σ : hs_S) (k r : Int32) : Int32 × hs_S := if k = -1 then (0, ((σ.1.1, σ.1.2.1, hs_nil σ.1.2.2.1, σ.1.2.2.2), σ.2)) else if sp_in k 0 2 ∧ sp_in r 0 5 then (if σ.1.2.2.1.1 < 8 then (nI (σ.1.2.2.1.1 + 1), ((σ.1.1, σ.1.2.1, hs_put σ.1.2.2.1 k r 0, σ.1.2.2.2), σ.2)) else (-4, σ)) else (-1, σ)
abbrev sp_spot (σ : hs_S) (p : Int32) : Prop := 0 ≤ p ∧ sp_in (p / 100) 0 5 ∧ p - p / 100 * 100 < nI (σ.1.1.2.1 (p / 100).toNatClampNeg)
def sp_count (σ : hs_S) (k : Int32) : Int32 := if k = 0 then nI σ.1.2.1.1 else if k = 1 then nI σ.1.2.2.1.1 else if k = 2 then nI σ.1.2.2.2.1 else if k = 3 then nI σ.2.2.1.1 else -2
def sp_feed (σ : hs_S) (v : Int32) : Int32 × hs_S := if sp_in v 0 127 then (if σ.2.2.1.1 < 100 then (nI (σ.2.2.1.1 + 1), (σ.1, σ.2.1, (σ.2.2.1.1 + 1, upd σ.2.2.1.2 σ.2.2.1.1 (vp_nar .byte v.toInt8.toInt32)), σ.2.2.2)) else (-4, σ)) else (-2, σ)
/-- outside of lo .. hi nothing changes -/
def hv_out (V V1 : hv_V) (lo hi : Nat) : Prop := ∀ q : Nat, (q < lo ∨ hi ≤ q) → V1 q = V q
theorem hv_out.rf {V : hv_V} {lo hi : Nat} : hv_out V V lo hi := fun _ _ => rfl
theorem ok_scr.gen {X : hv_X} {V V1 : hv_V} {x : Nat} (h : ok_scr X V x) (h1 : ∃ (kd : Int32) (n : Nat) (f : Nat → Int32), ok_row X V1 (x + 58) kd n f) (h2 : ∃ F : fx_F, V1 (x + 60) = some (fE F)) (h3 : ∃ F : fx_F, V1 (x + 61) = some (fE F)) (hb : hv_but V V1 (x + 62) (x + 64)) (hb2 : hv_but V V1 (x + 76) (x + 92)) : ok_scr X V1 x := by
  obtain ⟨-, -, -, ⟨bf, h4, h5⟩, h6, u, h7⟩ := h
  exact ⟨h1, h2, h3, ⟨bf, (hb _ (by omega) (by omega)).trans h4, h5⟩, fun j hj => (h6 j hj).elim fun F h => ⟨F, (hb2 _ (by omega) (by omega)).trans h⟩, u, (hb _ (by omega) (by omega)).trans h7⟩
theorem ok_tapes.set {X : hv_X} {V V1 : hv_V} {x : Nat} {T : hs_T} (h : ok_tapes X V x T) {j : Nat} (hj : j < 6) {so : Int32} {n : Nat} {g : Nat → Int64} (h57 : V1 (x + 57) = V (x + 57)) (ht : V1 (x + 64 + 2 * j) = some (tE (x + 64 + 2 * j) so n)) (hg : V1 (x + 64 + 2 * j + 1) = some (jE X g)) (hb1 : hv_but V V1 (x + 64) (x + 64 + 2 * j)) (hb2 : hv_but V V1 (x + 64 + 2 * j + 2) (x + 76)) : ok_tapes X V1 x (hs_tape T j so n g) := by
  obtain ⟨⟨tf, h1, h2⟩, h3⟩ := h
  refine ⟨⟨tf, h57.trans h1, h2⟩, fun i hi => ?_⟩
  show V1 (x + 64 + 2 * i) = some (tE (x + 64 + 2 * i) (hs_up T.1 j so i) (hs_up T.2.1 j n i)) ∧ V1 (x + 64 + 2 * i + 1) = some (jE X (hs_up T.2.2 j g i))
  by_cases hij : i = j
  · subst hij
    rw [hs_us, hs_us, hs_us]
    exact ⟨ht, hg⟩
  · rw [hs_un hij, hs_un hij, hs_un hij]
    rcases Nat.lt_or_ge i j with q | q
    · exact ⟨(hb1 _ (by omega) (by omega)).trans (h3 i hi).1, (hb1 _ (by omega) (by omega)).trans (h3 i hi).2⟩
    · exact ⟨(hb2 _ (by omega) (by omega)).trans (h3 i hi).1, (hb2 _ (by omega) (by omega)).trans (h3 i hi).2⟩
theorem ok_list.put {X : hv_X} {V1 : hv_V} {l M : Nat} {L : hs_L} {f g h : Nat → Int32} {a b c : Int32} (h0 : V1 l = some (lE l (L.1 + 1))) (h1 : V1 (l + 1) = some (iE X M (upd f L.1 a))) (h2 : V1 (l + 2) = some (iE X M (upd g L.1 b))) (h3 : V1 (l + 3) = some (iE X M (upd h L.1 c))) (ha : ∀ j, j < L.1 → f j = L.2.1 j ∧ g j = L.2.2.1 j ∧ h j = L.2.2.2 j) : ok_list X V1 l M (hs_put L a b c) := by
  refine ⟨_, _, _, h0, h1, h2, h3, fun j hj => ?_⟩
  have hj : j < L.1 + 1 := hj
  show upd f L.1 a j = upd L.2.1 L.1 a j ∧ upd g L.1 b j = upd L.2.2.1 L.1 b j ∧ upd h L.1 c j = upd L.2.2.2 L.1 c j
  by_cases q : j = L.1
  · subst q; simp [upd]
  · have := ha j (by omega)
    simp [upd, q, this.1, this.2.1, this.2.2]
theorem ok_list.nil {X : hv_X} {V1 : hv_V} {l M : Nat} {L : hs_L} {f g h : Nat → Int32} (h0 : V1 l = some (lE l 0)) (h1 : V1 (l + 1) = some (iE X M f)) (h2 : V1 (l + 2) = some (iE X M g)) (h3 : V1 (l + 3) = some (iE X M h)) : ok_list X V1 l M (hs_nil L) := ⟨f, g, h, h0, h1, h2, h3, fun j hj => absurd hj (Nat.not_lt_zero j)⟩
