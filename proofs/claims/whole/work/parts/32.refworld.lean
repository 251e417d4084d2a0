/-! THE REFERENCE'S WORLD: the object at m, its arrays behind it: 50 cells -/
section HV6
variable {p : Program} {l : Launch} {e : Env} {R : Room} {s : State} {m : MethodId} {args : Array Value} {below : List Frame} {meth : Method} {c : Code} {H : Heap} {locs : List Loc} {cells slots : Nat} {Q : State → Prop}
variable {cc : ByteArray} {pc nL : Nat} {ls : Array Slot} {rest : List Value} {X : hv_X} {V : hv_V} {own : String} {a : Nat}
/-- an array of arrays -/
theorem hv_aalA (t : Nat) {ty : FieldType} (hty : ty.isReference = true) (C0 : hv_C X p s m args c cc nL own) (w : hv_w X s V H locs) (ht : (hv_tys X)[t]? = some (X.2.1 t, ty)) {n q : Nat} {f : Nat → Option Nat} (hV : V a = some (.inl (X.2.1 t, n, .inr (.inr (.inr (.inr f)))))) {i : Int32} (hin : vp_in i n) (hf : f i.toNatClampNeg = some q) (hdg : decode cc pc = .ok (.aaload, 1))
    (kk : W p l e R s m args below meth c H locs cells slots Q (F0 m (pc + 1) ls (.ref q :: rest))) : W p l e R s m args below meth c H locs cells slots Q (F0 m pc ls (.int i :: .ref a :: rest)) := by
  obtain ⟨hx, hb, hml, hown, hts, hE⟩ := C0
  obtain ⟨⟨ws, hP, hD, hi⟩, hS⟩ := w
  obtain ⟨j, hj⟩ := (hi a _).mp hV
  have hlt : i.toNatClampNeg < n := Nat.not_le.mp fun q => hin (Or.inr q)
  refine W.aald (v := va_rf (f i.toNatClampNeg)) (ty := ty) hx hb (hP j _ hj) ((hE.1.2 t _ ht).1 n (fun j => va_rf (f j))) hty (fun q => by cases q) (by show ¬ (i < 0 ∨ (arrV _ _ _).slots.size ≤ _); rw [arrV_size]; exact hin) (by show (arrV _ _ _).slots[_]? = _; rw [arrV_read _ _ hlt]) rfl rfl hdg ?_
  rw [hf]
  exact kk
end HV6
abbrev mE (m : Nat) (ab be : Int64) (tx : Nat) (pl cl sg : Int32) (se ev bk : Nat) (ik : Int32) : va_E := .inr (7, [.ref (m + 1), .ref (m + 2), .ref (m + 3), .long ab, .long be, .ref (m + 10), .int (nI tx), .int pl, .int cl, .ref (m + 11), .ref (m + 12), .ref (m + 13), .int sg, .ref (m + 14), .ref (m + 15), .ref (m + 16), .ref (m + 17), .int (nI se), .ref (m + 18), .ref (m + 19), .int (nI ev), .ref (m + 20), .ref (m + 21), .ref (m + 22), .int (nI bk), .int ik, .ref (m + 23), .ref (m + 24), .ref (m + 25), .ref (m + 26), .ref (m + 33), .ref (m + 41), .ref (m + 42), .ref (m + 43)])
/-- rows: kinds at m + 1, how many at m + 2, numbers at m + 3 and behind it -/
def om_rows (X : hv_X) (V : hv_V) (m : Nat) (R : hs_R) : Prop := V (m + 1) = some (iE X 6 R.1) ∧ V (m + 2) = some (iE X 6 (fun j => nI (R.2.1 j))) ∧ (∃ rf : Nat → Option Nat, V (m + 3) = some (qE X 6 6 rf) ∧ ∀ j, j < 6 → rf j = some (m + 4 + j)) ∧ ∀ j, j < 6 → V (m + 4 + j) = some (nE X (R.2.2 j))
def om_scr (X : hv_X) (V : hv_V) (m : Nat) : Prop := (∃ f : Nat → Int32, V (m + 11) = some (iE X 12 f)) ∧ (∃ f : Nat → Int32, V (m + 12) = some (iE X 48 f)) ∧ (∃ f : Nat → Int32, V (m + 13) = some (bE X 178 f)) ∧ (∃ f : Nat → Int32, V (m + 14) = some (iE X 3 f)) ∧ ∃ f : Nat → Int32, V (m + 20) = some (nE X f)
def om_seen (X : hv_X) (V : hv_V) (m : Nat) (L : hs_L) : Prop := ∃ f g h : Nat → Int32, V (m + 15) = some (iE X 4 f) ∧ V (m + 16) = some (iE X 4 g) ∧ V (m + 17) = some (iE X 4 h) ∧ ∀ j, j < L.1 → f j = L.2.1 j ∧ g j = L.2.2.1 j ∧ h j = L.2.2.2 j
/-- two rows of eight at a, b -/
def om_two (X : hv_X) (V : hv_V) (a b : Nat) (L : hs_L) : Prop := ∃ f g : Nat → Int32, V a = some (iE X 8 f) ∧ V b = some (iE X 8 g) ∧ ∀ j, j < L.1 → f j = L.2.1 j ∧ g j = L.2.2.1 j
def om_tapes (X : hv_X) (V : hv_V) (m : Nat) (T : hs_T) : Prop := V (m + 41) = some (iE X 6 T.1) ∧ V (m + 42) = some (iE X 6 (fun j => nI (T.2.1 j))) ∧ (∃ tf : Nat → Option Nat, V (m + 43) = some (qE X 7 6 tf) ∧ ∀ j, j < 6 → tf j = some (m + 44 + j)) ∧ ∀ j, j < 6 → V (m + 44 + j) = some (jE X (T.2.2 j))
/-- the image's cells: counts, kinds, how many, numbers, what is told (seven rows of eight) -/
def om_img (X : hv_X) (V : hv_V) (m : Nat) (K : Option hs_P) (ik : Int32) : Prop := ∃ (ct ki ma : Nat → Int32) (nf tf : Nat → Option Nat) (nu td : Nat → Nat → Int32), V (m + 23) = some (iE X 3 ct) ∧ V (m + 24) = some (iE X 6 ki) ∧ V (m + 25) = some (iE X 6 ma) ∧ (V (m + 26) = some (qE X 6 6 nf) ∧ ∀ j, j < 6 → nf j = some (m + 27 + j)) ∧ (∀ j, j < 6 → V (m + 27 + j) = some (nE X (nu j))) ∧ (V (m + 33) = some (qE X 6 7 tf) ∧ ∀ j, j < 7 → tf j = some (m + 34 + j)) ∧ (∀ j, j < 7 → V (m + 34 + j) = some (iE X 8 (td j))) ∧ match K with
  | none => ik = 0
  | some P => ik = 1 ∧ (ct 0 = nI P.2.1.1 ∧ ct 1 = nI P.2.2.1.1 ∧ ct 2 = nI P.2.2.2.1) ∧ (∀ j, j < 6 → ki j = P.1.1 j ∧ ma j = nI (P.1.2.1 j) ∧ nu j = P.1.2.2 j) ∧ (∀ j, j < P.2.1.1 → td 0 j = P.2.1.2.1 j ∧ td 1 j = P.2.1.2.2.1 j ∧ td 2 j = P.2.1.2.2.2 j) ∧ (∀ j, j < P.2.2.1.1 → td 3 j = P.2.2.1.2.1 j ∧ td 4 j = P.2.2.1.2.2.1 j) ∧ (∀ j, j < P.2.2.2.1 → td 5 j = P.2.2.2.2.1 j ∧ td 6 j = P.2.2.2.2.2.1 j)
def okM (X : hv_X) (V : hv_V) (m : Nat) (σ : hs_S) : Prop := ∃ (ab be : Int64) (pl cl sg ik : Int32), V m = some (mE m ab be σ.2.2.1.1 pl cl sg σ.1.2.1.1 σ.1.2.2.1.1 σ.1.2.2.2.1 ik) ∧ om_rows X V m σ.1.1 ∧ V (m + 10) = some (bE X 100 σ.2.2.1.2) ∧ om_scr X V m ∧ om_seen X V m σ.1.2.1 ∧ om_two X V (m + 18) (m + 19) σ.1.2.2.1 ∧ om_two X V (m + 21) (m + 22) σ.1.2.2.2 ∧ om_img X V m σ.2.1 ik ∧ om_tapes X V m σ.2.2.2
theorem om_rows.fr {X : hv_X} {V V1 : hv_V} {m : Nat} {R : hs_R} (h : om_rows X V m R) (hb : hv_but V V1 (m + 1) (m + 10)) : om_rows X V1 m R := by
  obtain ⟨h1, h2, ⟨rf, h3, h4⟩, h5⟩ := h
  exact ⟨(hb _ (by omega) (by omega)).trans h1, (hb _ (by omega) (by omega)).trans h2, ⟨rf, (hb _ (by omega) (by omega)).trans h3, h4⟩, fun j hj => (hb _ (by omega) (by omega)).trans (h5 j hj)⟩
theorem om_scr.fr {X : hv_X} {V V1 : hv_V} {m : Nat} (h : om_scr X V m) (hb : hv_but V V1 (m + 11) (m + 15)) (hb2 : hv_but V V1 (m + 20) (m + 21)) : om_scr X V1 m := by
  obtain ⟨⟨a, h1⟩, ⟨b, h2⟩, ⟨c, h3⟩, ⟨d, h4⟩, e, h5⟩ := h
  exact ⟨⟨a, (hb _ (by omega) (by omega)).trans h1⟩, ⟨b, (hb _ (by omega) (by omega)).trans h2⟩, ⟨c, (hb _ (by omega) (by omega)).trans h3⟩, ⟨d, (hb _ (by omega) (by omega)).trans h4⟩, e, (hb2 _ (by omega) (by omega)).trans h5⟩
theorem om_seen.fr {X : hv_X} {V V1 : hv_V} {m : Nat} {L : hs_L} (h : om_seen X V m L) (hb : hv_but V V1 (m + 15) (m + 18)) : om_seen X V1 m L := by
  obtain ⟨f, g, k, h1, h2, h3, h4⟩ := h
  exact ⟨f, g, k, (hb _ (by omega) (by omega)).trans h1, (hb _ (by omega) (by omega)).trans h2, (hb _ (by omega) (by omega)).trans h3, h4⟩
theorem om_two.fr {X : hv_X} {V V1 : hv_V} {a b : Nat} {L : hs_L} (h : om_two X V a b L) (h1 : V1 a = V a) (h2 : V1 b = V b) : om_two X V1 a b L := by
  obtain ⟨f, g, g1, g2, g3⟩ := h
  exact ⟨f, g, h1.trans g1, h2.trans g2, g3⟩
theorem om_tapes.fr {X : hv_X} {V V1 : hv_V} {m : Nat} {T : hs_T} (h : om_tapes X V m T) (hb : hv_but V V1 (m + 41) (m + 50)) : om_tapes X V1 m T := by
  obtain ⟨h1, h2, ⟨tf, h3, h4⟩, h5⟩ := h
  exact ⟨(hb _ (by omega) (by omega)).trans h1, (hb _ (by omega) (by omega)).trans h2, ⟨tf, (hb _ (by omega) (by omega)).trans h3, h4⟩, fun j hj => (hb _ (by omega) (by omega)).trans (h5 j hj)⟩
theorem om_img.fr {X : hv_X} {V V1 : hv_V} {m : Nat} {K : Option hs_P} {ik : Int32} (h : om_img X V m K ik) (hb : hv_but V V1 (m + 23) (m + 41)) : om_img X V1 m K ik := by
  obtain ⟨ct, ki, ma, nf, tf, nu, td, h1, h2, h3, ⟨h4, h5⟩, h6, ⟨h7, h8⟩, h9, h10⟩ := h
  exact ⟨ct, ki, ma, nf, tf, nu, td, (hb _ (by omega) (by omega)).trans h1, (hb _ (by omega) (by omega)).trans h2, (hb _ (by omega) (by omega)).trans h3, ⟨(hb _ (by omega) (by omega)).trans h4, h5⟩, fun j hj => (hb _ (by omega) (by omega)).trans (h6 j hj), ⟨(hb _ (by omega) (by omega)).trans h7, h8⟩, fun j hj => (hb _ (by omega) (by omega)).trans (h9 j hj), h10⟩
theorem okM.fr {X : hv_X} {V V1 : hv_V} {m : Nat} {σ : hs_S} (h : okM X V m σ) (hb : hv_but V V1 m (m + 50)) : okM X V1 m σ := by
  obtain ⟨ab, be, pl, cl, sg, ik, h0, h1, h2, h3, h4, h5, h6, h7, h8⟩ := h
  exact ⟨ab, be, pl, cl, sg, ik, (hb _ (by omega) (by omega)).trans h0, h1.fr (hb.sub (by omega) (by omega)), (hb _ (by omega) (by omega)).trans h2, h3.fr (hb.sub (by omega) (by omega)) (hb.sub (by omega) (by omega)), h4.fr (hb.sub (by omega) (by omega)), h5.fr (hb _ (by omega) (by omega)) (hb _ (by omega) (by omega)), h6.fr (hb _ (by omega) (by omega)) (hb _ (by omega) (by omega)), h7.fr (hb.sub (by omega) (by omega)), h8.fr (hb.sub (by omega) (by omega))⟩
theorem hs_nIup (f : Nat → Nat) (j n : Nat) : upd (fun i => nI (f i)) j (nI n) = fun i => nI (hs_up f j n i) := by
  funext i
  by_cases h : i = j <;> simp [upd, hs_up, h]
theorem hs_upd (f : Nat → Int32) (j : Nat) (v : Int32) : upd f j v = hs_up f j v := rfl
