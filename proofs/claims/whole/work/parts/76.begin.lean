/-! THE CLAIM OUT OF ONE WALK OF THE LAW'S BODY. Your part is whole_start (and what it stands on); all else here is the same for every law, but numbers. -/
def R_law : String := "RisingRowsLaw"
def lw_P (b : Addr) (xs : List Int32) (args : Array Value) (s : State) : Prop := args = #[.ref b] ∧ s.IntsAt b xs ∧ xs.length ≤ 3072 ∧ (Jvm.Cond.and given_1 narrow_1).before args s = true
def lw_Q (_ : Array Value) (s : State) (o : Outcome) (t : State) : Prop := o = .returned (some (.int 1)) ∧ Framed s o t [] 600000 7302250
def lw_Z (below : List Frame) (a : Array Value) (s : State) : State → Prop := fun t => ∃ o, t.status = .running ∧ Ended t below o ∧ lw_Q a s o t
/-- the law's own end, with 1 on the stack, nothing written that was there before, its room as the claim has it -/
theorem lw_ret {p : Program} {l : Launch} {e : Env} {s : State} {m : MethodId} {below : List Frame} {meth : Method} {c : Code} {b : Nat} (hx : p.tables.exec = Jvm.exec) (hb : c.code = code) (hr : meth.sig.returnType = ret) (hlocks : meth.locks = false) {pc : Nat} {H : Heap} {ls : Array Slot} (hdg : decode code pc = .ok (.ireturn, 1)) : W p l e room_1 s m #[Value.ref b] below meth c H [] 600000 7302250 (lw_Z below #[Value.ref b] s) (F0 m pc ls [.int 1]) := by
  intro T hT X
  obtain ⟨fs, hret, hrun, hended, hW, hframe⟩ := X.leave (v := some (.int 1)) (hlocks := hlocks) (fun h => by rw [hr] at h; cases h)
  have hmeth' : T.vm.method? m = some meth := X.method'
  refine ⟨T.setFrames fs, ?_, .returned (some (.int 1)), hrun, hended, rfl, ⟨_, rfl⟩, hW, hframe⟩
  jvm_step X.here [X.here.top, hx, hb, hdg, hmeth', hr, ret, narrow_b1]
  (try refine ⟨rfl, ?_⟩); (try refine ⟨rfl, ?_⟩)
  first | (intro acts; rw [hret _ acts rfl rfl rfl]) | rw [hret _ _ rfl rfl rfl]
  exact Steps.refl _
/-- what holds at the law's entry: the machine, the code, the tables' words (any of lw_tbl by 'hts w (by decide +kernel)'), the script of L ints xs at the cell b, what the Statement gives of the start (any of its parts by flat_of_before) -/
def lw_At (p : Program) (s : State) (m : MethodId) (meth : Method) (c : Code) (b L : Nat) (xs : Nat → Int32) : Prop :=
  p.tables.exec = Jvm.exec ∧ c.code = code ∧ meth.sig.returnType = ret ∧ c.maxLocals = 4 ∧ s.vm.findClass R_law = some m.cls ∧ (∀ w ∈ lw_tbl, w.before #[Value.ref b] s = true) ∧ va_X b L xs s s.heap ∧ b < s.heap.size ∧ meth.locks = false ∧ (Jvm.Cond.and given_1 narrow_1).before #[Value.ref b] s = true
/-! THE BEGINNING: what the Statement gives, in the view's words -/
theorem hw_room {p : Program} {l : Launch} {e : Env} {R R2 : Room} {s : State} {m : MethodId} {args : Array Value} {below : List Frame} {meth : Method} {c : Code} {H : Heap} {locs : List Loc} {cells slots : Nat} {Q : State → Prop} {g : JFrame} (h1 : R2.frames ≤ R.frames) (h2 : R2.cells ≤ R.cells) (h3 : R2.slots ≤ R.slots) (h4 : R2.locals ≤ R.locals) (kk : W p l e R2 s m args below meth c H locs cells slots Q g) : W p l e R s m args below meth c H locs cells slots Q g := fun T hT X => by
  refine kk T hT ⟨X.admits, X.cas, X.clock, X.frames, ?_, X.hears, X.method, X.code, X.here, X.tail, X.warmed, X.limits, X.bytes, X.same⟩
  have hr := X.room
  simp only [State.hasRoom, Bool.and_eq_true, decide_eq_true_eq] at hr ⊢
  obtain ⟨⟨⟨⟨a1, b1, b2, b3, b4, b5⟩, c1⟩, d1⟩, e1⟩ := hr
  exact ⟨⟨⟨⟨by omega, by omega, by omega, by omega, by omega, b5⟩, by omega⟩, by omega⟩, e1⟩
theorem hw_retR {p : Program} {l : Launch} {e : Env} {R : Room} {s : State} {m : MethodId} {below : List Frame} {meth : Method} {c : Code} {b : Nat} (hx : p.tables.exec = Jvm.exec) (hb : c.code = code) (hr : meth.sig.returnType = ret) (hlocks : meth.locks = false) {pc : Nat} {H : Heap} {ls : Array Slot} (hdg : decode code pc = .ok (.ireturn, 1)) : W p l e R s m #[Value.ref b] below meth c H [] 600000 7302250 (lw_Z below #[Value.ref b] s) (F0 m pc ls [.int 1]) := by
  intro T hT X
  obtain ⟨fs, hret, hrun, hended, hW, hframe⟩ := X.leave (v := some (.int 1)) (hlocks := hlocks) (fun h => by rw [hr] at h; cases h)
  have hmeth' : T.vm.method? m = some meth := X.method'
  refine ⟨T.setFrames fs, ?_, .returned (some (.int 1)), hrun, hended, rfl, ⟨_, rfl⟩, hW, hframe⟩
  jvm_step X.here [X.here.top, hx, hb, hdg, hmeth', hr, ret, narrow_b1]
  (try refine ⟨rfl, ?_⟩); (try refine ⟨rfl, ?_⟩)
  first | (intro acts; rw [hret _ acts rfl rfl rfl]) | rw [hret _ _ rfl rfl rfl]
  exact Steps.refl _
/-- the texts' terms -/
def hb_tm (i : Nat) : Term := [Term.string "RisingRows$Script" 72, Term.string "RisingRows$Script" 74, Term.string "RisingRows$Script" 76, Term.string "RisingRows$Script" 78, Term.string "RisingRows$Script" 80, Term.string "RisingRows$Row" 97].getD i (.int 0)
def hb_fl : List Cond := flatC (Jvm.Cond.and given_1 narrow_1)
theorem hb_6 : ∀ i, i < 6 → i = 0 ∨ i = 1 ∨ i = 2 ∨ i = 3 ∨ i = 4 ∨ i = 5 := fun i hi => by omega
theorem hb_ex : ∀ i, i < 6 → Cond.exactly (hb_tm i) "java/lang/String" ∈ hb_fl := by decide +kernel
theorem hb_co : ∀ i, i < 6 → Cond.eq (.field (hb_tm i) "java/lang/String" "coder" "B") (.int 0) ∈ hb_fl := by decide +kernel
theorem hb_ar : ∀ i, i < 6 → Cond.arrayOf (.field (hb_tm i) "java/lang/String" "value" "[B") .byte ∈ hb_fl := by decide +kernel
theorem hb_le : ∀ i, i < 6 → Cond.eq (.length (.field (hb_tm i) "java/lang/String" "value" "[B")) (.int (Int32.ofNat (hv_len.getD i 0))) ∈ hb_fl := by decide +kernel
theorem hb_el : ∀ i, i < 6 → ∀ j, j < hv_len.getD i 0 → Cond.eq (.elem (.field (hb_tm i) "java/lang/String" "value" "[B") (.int (Int32.ofNat j))) (.int ((hv_byt.getD i []).getD j 0)) ∈ hb_fl := by decide +kernel
theorem hb_nq : ∀ i, i < 6 → ∀ j, j < 6 → i < j → Cond.not (Cond.eq (hb_tm i) (hb_tm j)) ∈ hb_fl := by decide +kernel
theorem hb_eq : Cond.eq (hb_tm 0) (Term.string "RisingRowsModel" 166) ∈ hb_fl ∧ Cond.eq (hb_tm 1) (Term.string "RisingRowsModel" 168) ∈ hb_fl ∧ Cond.eq (hb_tm 2) (Term.string "RisingRowsModel" 170) ∈ hb_fl ∧ Cond.eq (hb_tm 3) (Term.string "RisingRowsModel" 172) ∈ hb_fl ∧ Cond.eq (hb_tm 4) (Term.string "RisingRowsModel" 174) ∈ hb_fl ∧ Cond.eq (hb_tm 5) (Term.string "RisingRowsModel" 262) ∈ hb_fl := by decide +kernel
theorem hb_cs : Cond.eq (.static "java/lang/String" "COMPACT_STRINGS" "Z") (.int 1) ∈ hb_fl ∧ Cond.isRef (.static "jdk/internal/util/Preconditions" "SIOOBE_FORMATTER" "Ljava/util/function/BiFunction;") ∈ hb_fl := by decide +kernel
theorem ky_3 : Cond.arrayOver (.object RX3) ∈ lw_tbl := List.mem_of_getElem? (i := 114) (by decide +kernel)
theorem ky_4 : Cond.arrayOver (.object RX5) ∈ lw_tbl := List.mem_of_getElem? (i := 207) (by decide +kernel)
theorem ky_5 : Cond.arrayOver (.object RX0) ∈ lw_tbl := List.mem_of_getElem? (i := 232) (by decide +kernel)
theorem ky_6 : Cond.arrayOver (.array .int) ∈ lw_tbl := List.mem_of_getElem? (i := 757) (by decide +kernel)
theorem ky_7 : Cond.arrayOver (.array .long) ∈ lw_tbl := List.mem_of_getElem? (i := 759) (by decide +kernel)
theorem ky_8 : Cond.laysStatic "java/lang/String" "COMPACT_STRINGS" "Z" ∈ lw_tbl := List.mem_of_getElem? (i := 459) (by decide +kernel)
theorem ky_9 : Cond.laysStatic "jdk/internal/util/Preconditions" "SIOOBE_FORMATTER" "Ljava/util/function/BiFunction;" ∈ lw_tbl := List.mem_of_getElem? (i := 475) (by decide +kernel)
theorem ky_10 : Cond.initialized "java/lang/String" ∈ hv_g := hv_mem 94 (by decide +kernel) (by decide +kernel)
theorem ky_11 : Cond.initialized "jdk/internal/util/Preconditions" ∈ hv_g := hv_mem 96 (by decide +kernel) (by decide +kernel)
theorem kr_0 : Cond.stringRef RX4 72 "spread" ∈ lw_tbl := List.mem_of_getElem? (i := 441) (by decide +kernel)
theorem kr_1 : Cond.stringRef RX4 74 "row" ∈ lw_tbl := List.mem_of_getElem? (i := 442) (by decide +kernel)
theorem kr_2 : Cond.stringRef RX4 76 "add" ∈ lw_tbl := List.mem_of_getElem? (i := 443) (by decide +kernel)
theorem kr_3 : Cond.stringRef RX4 78 "cut" ∈ lw_tbl := List.mem_of_getElem? (i := 444) (by decide +kernel)
theorem kr_4 : Cond.stringRef RX4 80 "copy" ∈ lw_tbl := List.mem_of_getElem? (i := 445) (by decide +kernel)
theorem kr_5 : Cond.stringRef RX3 97 "sepc" ∈ lw_tbl := List.mem_of_getElem? (i := 567) (by decide +kernel)
theorem kr_6 : Cond.stringRef RX7 166 "spread" ∈ lw_tbl := List.mem_of_getElem? (i := 968) (by decide +kernel)
theorem kr_7 : Cond.stringRef RX7 168 "row" ∈ lw_tbl := List.mem_of_getElem? (i := 969) (by decide +kernel)
theorem kr_8 : Cond.stringRef RX7 170 "add" ∈ lw_tbl := List.mem_of_getElem? (i := 970) (by decide +kernel)
theorem kr_9 : Cond.stringRef RX7 172 "cut" ∈ lw_tbl := List.mem_of_getElem? (i := 971) (by decide +kernel)
theorem kr_10 : Cond.stringRef RX7 174 "copy" ∈ lw_tbl := List.mem_of_getElem? (i := 972) (by decide +kernel)
theorem kr_11 : Cond.stringRef RX7 262 "sepc" ∈ lw_tbl := List.mem_of_getElem? (i := 1029) (by decide +kernel)
theorem hb_prim {args : Array Value} {s : State} {ty : FieldType} (h : (Cond.arrayClass ty).before args s = true) (hp : ∀ (U : State) (cA : ClassId), U.vm.findClass ("[" ++ ty.toString) = some cA → va_RA U cA ty) : ∃ cA : ClassId, ArrOfT s cA ty ∧ va_RA s cA ty := by
  obtain ⟨cA, kA, comp, h1, h2, h3⟩ := Cond.arrayClass_spec h
  exact ⟨cA, fun n z => ⟨(fun k h => by cases h), kA, h2, comp, h3⟩, hp _ _ h1⟩
theorem hb_obj {args : Array Value} {s : State} {C : String} (h : (Cond.arrayOver (.object C)).before args s = true) : ∃ cA : ClassId, ArrOfT s cA (.object C) ∧ va_RA s cA (.object C) := by
  obtain ⟨comp, cA, kA, h1, -, h3, h4, h5⟩ := Cond.arrayOver_spec h
  exact ⟨cA, fun n z => ⟨(fun k h => by cases h), kA, h3, comp, h4⟩, kA, comp, h3, h4, h1, h5⟩
theorem hb_arr {args : Array Value} {s : State} {ty : FieldType} (h : (Cond.arrayOver (.array ty)).before args s = true) : ∃ cA : ClassId, ArrOfT s cA (.array ty) ∧ va_RA s cA (.array ty) := by
  obtain ⟨comp, cA, kA, h1, h3, h4, h5⟩ := hw_AR.of h
  exact ⟨cA, fun n z => ⟨(fun k h => by cases h), kA, h3, comp, h4⟩, h5⟩
theorem hb_known {args : Array Value} {s : State} (hts : ∀ w ∈ hv_g, w.before args s = true) : ∃ (dC : Nat → ClassId) (dI : Nat → Nat → Nat), ∀ (k : Nat) (q : vw_C), vwCl[k]? = some q → u_Kn s q.1 q.2.1 q.2.2 (dC k) (dI k) := by
  obtain ⟨c0, i0, h0⟩ := u_known (C := RX0) (T := TX0) (N := 3) (n := 3) hts kc_X0.2.1 (hts _ kn_X0)
  obtain ⟨c1, i1, h1⟩ := u_known (C := RX1) (T := TX1) (N := 4) (n := 4) hts kc_X1.2.1 (hts _ kn_X1)
  obtain ⟨c2, i2, h2⟩ := u_known (C := RX2) (T := TX2) (N := 4) (n := 4) hts kc_X2.2.1 (hts _ kn_X2)
  obtain ⟨c3, i3, h3⟩ := u_known (C := RX3) (T := TX3) (N := 3) (n := 3) hts kc_X3.2.1 (hts _ kn_X3)
  obtain ⟨c4, i4, h4⟩ := u_known (C := RX4) (T := TX4) (N := 6) (n := 6) hts kc_X4.2.1 (hts _ kn_X4)
  obtain ⟨c5, i5, h5⟩ := u_known (C := RX5) (T := TX5) (N := 3) (n := 3) hts kc_X5.2.1 (hts _ kn_X5)
  obtain ⟨c6, i6, h6⟩ := u_known (C := RX6) (T := TX6) (N := 10) (n := 10) hts kc_X6.2.1 (hts _ kn_X6)
  obtain ⟨c7, i7, h7⟩ := u_known (C := RX7) (T := TX7) (N := 34) (n := 34) hts kc_X7.2.1 (hts _ kn_X7)
  refine ⟨fun k => if k = 0 then c0 else if k = 1 then c1 else if k = 2 then c2 else if k = 3 then c3 else if k = 4 then c4 else if k = 5 then c5 else if k = 6 then c6 else c7, fun k => if k = 0 then i0 else if k = 1 then i1 else if k = 2 then i2 else if k = 3 then i3 else if k = 4 then i4 else if k = 5 then i5 else if k = 6 then i6 else i7, ?_⟩
  intro k q hq
  match k, hq with
  | 0, hq => cases hq; exact h0
  | 1, hq => cases hq; exact h1
  | 2, hq => cases hq; exact h2
  | 3, hq => cases hq; exact h3
  | 4, hq => cases hq; exact h4
  | 5, hq => cases hq; exact h5
  | 6, hq => cases hq; exact h6
  | 7, hq => cases hq; exact h7
  | k + 8, hq => exact absurd (List.getElem?_eq_some_iff.mp hq).1 (by show ¬ k + 8 < 8; omega)
set_option maxHeartbeats 4000000 in
set_option maxRecDepth 100000 in
theorem hv_begin {p : Program} {s : State} {m : MethodId} {meth : Method} {c : Code} {b L : Nat} {xs : Nat → Int32} (C0 : lw_At p s m meth c b L xs) : ∃ X : hv_X, (X.2.2.1 = fun q => s.heap.size ≤ q) ∧ hv_C X p s m #[Value.ref b] c cL_law 4 RL ∧ hv_O s := by
  obtain ⟨hx, hb, hr, hml, hown, hts, hX, hbl, hlocks, hgv⟩ := C0
  have hfl : ∀ w ∈ hb_fl, w.before #[Value.ref b] s = true := flat_of_before _ hgv
  have hA : ∀ a : Nat, a < s.heap.size → ¬ (fun q : Nat => s.heap.size ≤ q) a := fun a ha => Nat.not_le.mpr ha
  have htg : ∀ w ∈ hv_g, w.before #[Value.ref b] s = true := fun w hw => hts w (List.mem_filter.mp hw).1
  obtain ⟨dC, dI, hKc⟩ := hb_known htg
  obtain ⟨a0, p0, q0⟩ := hb_prim (htg _ ka_int) (fun _ _ h => h)
  obtain ⟨a1, p1, q1⟩ := hb_prim (htg _ ka_long) (fun _ _ h => h)
  obtain ⟨a2, p2, q2⟩ := hb_prim (htg _ ka_byte) (fun _ _ h => h)
  obtain ⟨a3, p3, q3⟩ := hb_obj (hts _ ky_3)
  obtain ⟨a4, p4, q4⟩ := hb_obj (hts _ ky_4)
  obtain ⟨a5, p5, q5⟩ := hb_obj (hts _ ky_5)
  obtain ⟨a6, p6, q6⟩ := hb_arr (hts _ ky_6)
  obtain ⟨a7, p7, q7⟩ := hb_arr (hts _ ky_7)
  obtain ⟨adK, adV, hS, hK⟩ := vk_Sof (args := #[Value.ref b]) (s := s) (N := 6) (tm := hb_tm) (len := hv_len) (byt := hv_byt) (A := fun q : Nat => s.heap.size ≤ q) (fun i hi => by rcases hb_6 i hi with rfl | rfl | rfl | rfl | rfl | rfl <;> decide) (fun i hi => hfl _ (hb_ex i hi)) (fun i hi => hfl _ (hb_co i hi)) (fun i hi => hfl _ (hb_ar i hi)) (fun i hi => hfl _ (hb_le i hi)) (fun i hi j hj => hfl _ (hb_el i hi j hj)) (fun i j hi hj hne => by
    rcases Nat.lt_or_ge i j with h | h
    · exact Or.inl (hfl _ (hb_nq i hi j hj h))
    · exact Or.inr (hfl _ (hb_nq j hj i hi (by omega)))) hA
  refine ⟨((dC, dI), (fun t => if t = 0 then a0 else if t = 1 then a1 else if t = 2 then a2 else if t = 3 then a3 else if t = 4 then a4 else if t = 5 then a5 else if t = 6 then a6 else a7), (fun q => s.heap.size ≤ q), adK, adV), rfl, ⟨hx, hb, hml, hown, htg, ⟨hKc, ?_⟩, fun w hw => va_Nw.of ?_ (hts w (List.mem_filter.mp hw).1), hS, ?_, va_Zof (hts _ ky_8) (htg _ ky_10) (va_eqi (hfl _ hb_cs.1)) hA, va_Zqof (hts _ ky_9) (htg _ ky_11) (hfl _ hb_cs.2) hA⟩, ⟨hts _ ky_3, hts _ ky_4, hts _ ky_5, hw_AR.of (hts _ ky_6), hw_AR.of (hts _ ky_7)⟩⟩
  · intro k q hk
    match k, hk with
    | 0, hk => cases hk; exact ⟨p0, q0⟩
    | 1, hk => cases hk; exact ⟨p1, q1⟩
    | 2, hk => cases hk; exact ⟨p2, q2⟩
    | 3, hk => cases hk; exact ⟨p3, q3⟩
    | 4, hk => cases hk; exact ⟨p4, q4⟩
    | 5, hk => cases hk; exact ⟨p5, q5⟩
    | 6, hk => cases hk; exact ⟨p6, q6⟩
    | 7, hk => cases hk; exact ⟨p7, q7⟩
    | k + 8, hk => exact absurd (List.getElem?_eq_some_iff.mp hk).1 (by show ¬ k + 8 < 8; omega)
  · have h2 := (List.mem_filter.mp hw).2
    cases w <;> first | rfl | cases h2
  · have hR : ∀ (o : String) (k : Nat) (tx : String) (i : Nat), i < 6 → (Cond.stringRef o k tx).before #[Value.ref b] s = true → hb_tm i = Term.string o k → vk_R o k tx (adK i) s := fun o k tx i hi h1 h2 => vk_R.of h1 (by rw [← h2]; exact hK i hi)
    have hR2 : ∀ (k : Nat) (tx : String) (i : Nat), i < 6 → (Cond.stringRef RX7 k tx).before #[Value.ref b] s = true → (Cond.eq (hb_tm i) (Term.string RX7 k)).before #[Value.ref b] s = true → vk_R RX7 k tx (adK i) s := fun k tx i hi h1 h2 => vk_R.of h1 (va_eqR h2 (hK i hi))
    intro q hq
    simp only [hv_strs, List.mem_cons, List.not_mem_nil, or_false] at hq
    rcases hq with rfl | rfl | rfl | rfl | rfl | rfl | rfl | rfl | rfl | rfl | rfl | rfl
    · exact hR RX4 72 "spread" 0 (by decide) (hts _ kr_0) rfl
    · exact hR RX4 74 "row" 1 (by decide) (hts _ kr_1) rfl
    · exact hR RX4 76 "add" 2 (by decide) (hts _ kr_2) rfl
    · exact hR RX4 78 "cut" 3 (by decide) (hts _ kr_3) rfl
    · exact hR RX4 80 "copy" 4 (by decide) (hts _ kr_4) rfl
    · exact hR RX3 97 "sepc" 5 (by decide) (hts _ kr_5) rfl
    · exact hR2 166 "spread" 0 (by decide) (hts _ kr_6) (hfl _ hb_eq.1)
    · exact hR2 168 "row" 1 (by decide) (hts _ kr_7) (hfl _ hb_eq.2.1)
    · exact hR2 170 "add" 2 (by decide) (hts _ kr_8) (hfl _ hb_eq.2.2.1)
    · exact hR2 172 "cut" 3 (by decide) (hts _ kr_9) (hfl _ hb_eq.2.2.2.1)
    · exact hR2 174 "copy" 4 (by decide) (hts _ kr_10) (hfl _ hb_eq.2.2.2.2.1)
    · exact hR2 262 "sepc" 5 (by decide) (hts _ kr_11) (hfl _ hb_eq.2.2.2.2.2)
