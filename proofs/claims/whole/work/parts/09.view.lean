/-! THE VIEW: a world is a partial map from addresses to what the cells hold. A method's contract says how the map changes. -/
abbrev hv_V : Type := Nat → Option va_E
def hv_up (V : hv_V) (a : Nat) (e : va_E) : hv_V := fun q => if q = a then some e else V q
theorem hv_us {V : hv_V} {a : Nat} {e : va_E} : hv_up V a e a = some e := if_pos rfl
theorem hv_un {V : hv_V} {a b : Nat} {e : va_E} (h : b ≠ a) : hv_up V a e b = V b := if_neg h
theorem hv_uu {V : hv_V} {a : Nat} {e e2 : va_E} : hv_up (hv_up V a e) a e2 = hv_up V a e2 := by
  funext q
  by_cases h : q = a
  · subst h; rw [hv_us, hv_us]
  · rw [hv_un h, hv_un h, hv_un h]
theorem hv_uc {V : hv_V} {a b : Nat} {e e2 : va_E} (h : a ≠ b) : hv_up (hv_up V a e) b e2 = hv_up (hv_up V b e2) a e := by
  funext q
  by_cases h1 : q = a
  · subst h1; rw [hv_us, hv_un h, hv_us]
  · by_cases h2 : q = b
    · subst h2; rw [hv_us, hv_un h1, hv_us]
    · rw [hv_un h1, hv_un h2, hv_un h2, hv_un h1]
theorem hv_id {V : hv_V} {a : Nat} {e : va_E} (h : V a = some e) : hv_up V a e = V := by
  funext q
  by_cases h1 : q = a
  · subst h1; rw [hv_us, h]
  · rw [hv_un h1]
theorem hv_ne {V : hv_V} {a b : Nat} {e e2 : va_E} (h1 : V a = some e) (h2 : V b = some e2) (h : e ≠ e2) : a ≠ b := fun q => by
  subst q
  exact h (Option.some.inj (h1.symm.trans h2))
/-- X: the classes' numbers and slots; the array classes; which addresses are ours; the texts' addresses -/
abbrev hv_X : Type := va_G × (Nat → ClassId) × (Nat → Prop) × (Nat → Nat) × (Nat → Nat)
abbrev hv_tys (X : hv_X) : List (ClassId × FieldType) := [(X.2.1 0, .int), (X.2.1 1, .long), (X.2.1 2, .byte), (X.2.1 3, .object RX3), (X.2.1 4, .object RX5), (X.2.1 5, .object RX0), (X.2.1 6, .array .int), (X.2.1 7, .array .long)]
def hv_ok (X : hv_X) (V : hv_V) (H : Heap) : Prop := ∃ ws : va_W, va_P X.1 vwCl ws H ∧ va_D X.2.2.1 ws ∧ ∀ (a : Nat) (e : va_E), V a = some e ↔ ∃ k : Nat, ws[k]? = some (a, e)
theorem hv_set {V : hv_V} {A : Nat → Prop} {ws : va_W} {a k : Nat} {e0 e : va_E} (hD : va_D A ws) (h : ∀ (a : Nat) (e : va_E), V a = some e ↔ ∃ k : Nat, ws[k]? = some (a, e)) (hk : ws[k]? = some (a, e0)) : ∀ (b : Nat) (e1 : va_E), hv_up V a e b = some e1 ↔ ∃ j : Nat, (ws.set k (a, e))[j]? = some (b, e1) := by
  have hl := (List.getElem?_eq_some_iff.mp hk).1
  intro b e1
  by_cases hb : b = a
  · subst hb
    rw [hv_us]
    constructor
    · intro h1
      exact ⟨k, by rw [List.getElem?_set_self hl, Option.some.inj h1]⟩
    · rintro ⟨j, hj⟩
      by_cases hjk : j = k
      · subst hjk
        rw [List.getElem?_set_self hl] at hj
        rw [(Prod.mk.inj (Option.some.inj hj)).2]
      · rw [List.getElem?_set_ne (Ne.symm hjk)] at hj
        exact absurd (hD.1 j k _ _ hj hk rfl) hjk
  · rw [hv_un hb, h]
    constructor
    · rintro ⟨j, hj⟩
      refine ⟨j, ?_⟩
      have hjk : j ≠ k := fun q => hb (by rw [q, hk] at hj; exact (Prod.mk.inj (Option.some.inj hj)).1.symm)
      rw [List.getElem?_set_ne (Ne.symm hjk)]
      exact hj
    · rintro ⟨j, hj⟩
      refine ⟨j, ?_⟩
      by_cases hjk : j = k
      · subst hjk
        rw [List.getElem?_set_self hl] at hj
        exact absurd (Prod.mk.inj (Option.some.inj hj)).1.symm hb
      · rw [List.getElem?_set_ne (Ne.symm hjk)] at hj
        exact hj
theorem hv_ok.lt {X : hv_X} {V : hv_V} {H : Heap} (h : hv_ok X V H) {a : Nat} {e : va_E} (hV : V a = some e) : a < H.size := by
  obtain ⟨ws, hP, hD, hi⟩ := h
  obtain ⟨k, hk⟩ := (hi a e).mp hV
  exact (hP k _ hk).lt
theorem hv_ok.in {X : hv_X} {V : hv_V} {H : Heap} (h : hv_ok X V H) {a : Nat} {e : va_E} (hV : V a = some e) : X.2.2.1 a := by
  obtain ⟨ws, hP, hD, hi⟩ := h
  obtain ⟨k, hk⟩ := (hi a e).mp hV
  exact hD.2 k _ hk
theorem hv_ok.fresh {X : hv_X} {V : hv_V} {H : Heap} (h : hv_ok X V H) {a : Nat} (ha : H.size ≤ a) : V a = none := by
  cases hV : V a with
  | none => rfl
  | some e => exact absurd (h.lt hV) (by omega)
/-- a cell newly laid behind the heap's end -/
theorem hv_ok.push {X : hv_X} {V : hv_V} {H H1 : Heap} (h : hv_ok X V H) {e : va_E} (h1 : ∀ q : Nat, q < H.size → H1[q]? = H[q]?) (h2 : va_at X.1 vwCl (H.size, e) H1) (hA : X.2.2.1 H.size) : hv_ok X (hv_up V H.size e) H1 := by
  obtain ⟨ws, hP, hD, hi⟩ := h
  refine ⟨ws ++ [(H.size, e)], (hP.kept (fun k x hx => h1 x.1 ((hP k x hx).lt))).app (fun k x hx => ?_), hD.push hP rfl hA, fun b e1 => ?_⟩
  · have hz : k < 1 := (List.getElem?_eq_some_iff.mp hx).1
    rw [show k = 0 by omega] at hx
    cases hx
    exact h2
  · by_cases hb : b = H.size
    · subst hb
      rw [hv_us]
      constructor
      · intro q
        exact ⟨ws.length, by rw [List.getElem?_append_right (Nat.le_refl _), Nat.sub_self, Option.some.inj q]; rfl⟩
      · rintro ⟨j, hj⟩
        by_cases hl : j < ws.length
        · rw [List.getElem?_append_left hl] at hj
          exact absurd (hP j _ hj).lt (Nat.lt_irrefl _)
        · rw [List.getElem?_append_right (by omega)] at hj
          have hz : j - ws.length < 1 := (List.getElem?_eq_some_iff.mp hj).1
          rw [show j - ws.length = 0 by omega] at hj
          cases hj
          rfl
    · rw [hv_un hb, hi]
      constructor
      · rintro ⟨j, hj⟩
        exact ⟨j, by rw [List.getElem?_append_left (List.getElem?_eq_some_iff.mp hj).1]; exact hj⟩
      · rintro ⟨j, hj⟩
        by_cases hl : j < ws.length
        · rw [List.getElem?_append_left hl] at hj
          exact ⟨j, hj⟩
        · rw [List.getElem?_append_right (by omega)] at hj
          have hz : j - ws.length < 1 := (List.getElem?_eq_some_iff.mp hj).1
          rw [show j - ws.length = 0 by omega] at hj
          cases hj
          exact absurd rfl hb
/-- the same cell told otherwise -/
theorem hv_ok.as {X : hv_X} {V : hv_V} {H : Heap} (h : hv_ok X V H) {a : Nat} {e e2 : va_E} (hV : V a = some e) (he : va_at X.1 vwCl (a, e) H → va_at X.1 vwCl (a, e2) H) : hv_ok X (hv_up V a e2) H := by
  obtain ⟨ws, hP, hD, hi⟩ := h
  obtain ⟨k, hk⟩ := (hi a e).mp hV
  exact ⟨ws.set k (a, e2), hP.set hD hk (he (hP k _ hk)) (fun _ _ => rfl), hD.set hk, hv_set hD hi hk⟩
/-- words -/
def hv_g : List Cond := lw_tbl.filter goodWord
theorem hv_mem {w : Cond} (i : Nat) (h : lw_tbl[i]? = some w) (hg : goodWord w = true) : w ∈ hv_g := List.mem_filter.mpr ⟨List.mem_of_getElem? h, hg⟩
theorem hv_good {y : MethodName} {b : ByteArray} {n : Nat} {r : Option FieldType} (h : Cond.code y b n r ∈ hv_g) : GoodIn hv_g (Cond.code y b n r :: hv_g) := by
  intro w hw
  have hm : w ∈ hv_g := by
    rcases List.mem_cons.mp hw with h1 | h1
    · rw [h1]; exact h
    · exact h1
  exact ⟨hm, good_of_word (List.mem_filter.mp hm).2⟩
def hv_isN : Cond → Bool
  | .fieldLinkNest _ _ _ _ _ _ => true
  | .methodLinkNest _ _ _ _ => true
  | _ => false
def hv_n : List Cond := lw_tbl.filter hv_isN
theorem hv_memN {w : Cond} (i : Nat) (h : lw_tbl[i]? = some w) (hg : hv_isN w = true) : w ∈ hv_n := List.mem_filter.mpr ⟨List.mem_of_getElem? h, hg⟩
def hv_N (U : State) : Prop := ∀ w ∈ hv_n, va_Nw w U
theorem hv_N.warm {s U : State} (hW : s.WarmedH U.vm) (h : hv_N s) : hv_N U := fun w hw => by
  have h1 := h w hw
  have h2 := (List.mem_filter.mp hw).2
  cases w <;> first | exact h1.warmF hW | exact h1.warmM hW | cases h2 | skip
  all_goals first | exact va_Nw.warmF hW h1 | exact va_Nw.warmM hW h1
/-- the texts: which entry of which class is which -/
def hv_len : List Nat := [6, 3, 3, 3, 4, 4]
def hv_byt : List (List Int32) := [[115, 112, 114, 101, 97, 100], [114, 111, 119], [97, 100, 100], [99, 117, 116], [99, 111, 112, 121], [115, 101, 112, 99]]
def hv_strs : List (String × Nat × String × Nat) := [(RX4, 72, "spread", 0), (RX4, 74, "row", 1), (RX4, 76, "add", 2), (RX4, 78, "cut", 3), (RX4, 80, "copy", 4), (RX3, 97, "sepc", 5), (RX7, 166, "spread", 0), (RX7, 168, "row", 1), (RX7, 170, "add", 2), (RX7, 172, "cut", 3), (RX7, 174, "copy", 4), (RX7, 262, "sepc", 5)]
def hv_R (X : hv_X) (U : State) : Prop := ∀ q ∈ hv_strs, vk_R q.1 q.2.1 q.2.2.1 (X.2.2.2.1 q.2.2.2) U
/-- what a method may take as given of the tables, the texts and the JDK's statics -/
def hv_E (X : hv_X) (U : State) : Prop := va_K X.1 vwCl (hv_tys X) U ∧ hv_N U ∧ vk_S 6 hv_len hv_byt X.2.2.2.1 X.2.2.2.2 X.2.2.1 U U.heap ∧ hv_R X U ∧ va_Z "java/lang/String" "COMPACT_STRINGS" "Z" (.int 1) X.2.2.1 U U.heap ∧ va_Zq "jdk/internal/util/Preconditions" "SIOOBE_FORMATTER" "Ljava/util/function/BiFunction;" X.2.2.1 U U.heap
theorem hv_E.mv {X : hv_X} {s U : State} (hW : s.WarmedH U.vm) (hq : ∀ a : Nat, a < s.heap.size → ¬ X.2.2.1 a → U.heap[a]? = s.heap[a]?) (h : hv_E X s) : hv_E X U := by
  obtain ⟨h1, h2, h3, h4, h5, h6⟩ := h
  exact ⟨va_K.moved hW.alike h1, h2.warm hW, (h3.kept hq).moved hW.alike, fun q hq => (h4 q hq).warm hW, (h5.kept hq).moved hW.alike, (h6.kept hq).moved hW.alike⟩
def hv_C (X : hv_X) (p : Program) (s : State) (m : MethodId) (args : Array Value) (c : Code) (cc : ByteArray) (nL : Nat) (own : String) : Prop :=
  p.tables.exec = Jvm.exec ∧ c.code = cc ∧ c.maxLocals = nL ∧ s.vm.findClass own = some m.cls ∧ (∀ w ∈ hv_g, w.before args s = true) ∧ hv_E X s
def hv_w (X : hv_X) (s : State) (V : hv_V) (H : Heap) (locs : List Loc) : Prop := hv_ok X V H ∧ va_S X.2.2.1 s.heap H locs
abbrev hv_Pre (X : hv_X) (V : hv_V) (av : List Value) : Array Value → State → Prop := va_Pc av (fun U => hv_ok X V U.heap ∧ hv_E X U)
abbrev hv_Qi (X : hv_X) (post : Int32 → hv_V → Prop) : Array Value → State → Outcome → State → Prop := va_Qi post (fun V t => hv_ok X V t.heap) X.2.2.1
abbrev hv_Ql (X : hv_X) (post : Int64 → hv_V → Prop) : Array Value → State → Outcome → State → Prop := va_Ql post (fun V t => hv_ok X V t.heap) X.2.2.1
abbrev hv_Qv (X : hv_X) (post : hv_V → Prop) : Array Value → State → Outcome → State → Prop := va_Qv post (fun V t => hv_ok X V t.heap) X.2.2.1
abbrev hv_Qr (X : hv_X) (post : Nat → hv_V → Prop) : Array Value → State → Outcome → State → Prop := va_Qr (S := hv_V) (fun _ => True) (fun V a t => hv_ok X V t.heap ∧ post a V) X.2.2.1
abbrev hv_rm (d mc ms : Nat) : Room := { frames := d, cells := mc, slots := ms, locals := 40 * d }
/-- contracts: of an int (or boolean ..), a long, nothing, a reference; no cell is made -/
def hv_Mi (l : Launch) (X : hv_X) (d : Nat) (y : MethodName) (b : ByteArray) (n : Nat) (r : FieldType) (V : hv_V) (av : List Value) (post : Int32 → hv_V → Prop) : Prop :=
  Met l y (Cond.code y b n (some r) :: hv_g) (hv_rm d 0 0) (hv_Pre X V av) (hv_Qi X post) 0 0 X.2.2.1
def hv_Ml (l : Launch) (X : hv_X) (d : Nat) (y : MethodName) (b : ByteArray) (n : Nat) (V : hv_V) (av : List Value) (post : Int64 → hv_V → Prop) : Prop :=
  Met l y (Cond.code y b n (some .long) :: hv_g) (hv_rm d 0 0) (hv_Pre X V av) (hv_Ql X post) 0 0 X.2.2.1
def hv_Mv (l : Launch) (X : hv_X) (d : Nat) (y : MethodName) (b : ByteArray) (n : Nat) (V : hv_V) (av : List Value) (post : hv_V → Prop) : Prop :=
  Met l y (Cond.code y b n none :: hv_g) (hv_rm d 0 0) (hv_Pre X V av) (hv_Qv X post) 0 0 X.2.2.1
def hv_Mr (l : Launch) (X : hv_X) (d : Nat) (y : MethodName) (b : ByteArray) (n : Nat) (r : FieldType) (V : hv_V) (av : List Value) (post : Nat → hv_V → Prop) : Prop :=
  Met l y (Cond.code y b n (some r) :: hv_g) (hv_rm d 0 0) (hv_Pre X V av) (hv_Qr X post) 0 0 X.2.2.1
theorem hv_blind {X : hv_X} {V : hv_V} {av : List Value} : FrameBlind (hv_Pre X V av) := fun a U g mk q => ⟨q.1, q.2.1, hv_E.mv (s := U) (U := U.calling g mk a) (State.WarmedH.refl U) (fun _ _ _ => rfl) q.2.2⟩
section HV1
variable {l : Launch} {X : hv_X} {d : Nat} {y : MethodName} {b : ByteArray} {n : Nat} {V : hv_V} {av : List Value}
theorem hv_enter {mc ms : Nat} {ret : Option FieldType} {Qc : Array Value → State → Outcome → State → Prop} (hy : plainName y.cls = true) (hn : (lg_sl av).length ≤ n)
    (body : ∀ (p : Program) (e : Env) (s : State) (m : MethodId) (below : List Frame) (meth : Method) (c : Code) (ls : Array Slot), hv_C X p s m av.toArray c b n y.cls → meth.sig.returnType = ret → meth.locks = false → meth.name = y.name → hv_w X s V s.heap [] → lv_has ls n (lv_args 0 av) → W p l e (hv_rm d mc ms) s m av.toArray below meth c s.heap [] 0 0 (MQ below Qc av.toArray s mc ms X.2.2.1) (F0 m 0 ls [])) :
    Met l y (Cond.code y b n ret :: hv_g) (hv_rm d mc ms) (hv_Pre X V av) Qc mc ms X.2.2.1 := by
  refine Met.ofW (cc := b) (maxL := n) (ret := ret) hy rfl ?_
  intro p e s m args below meth c s₁ B hml hv
  obtain ⟨rfl, hO, hE⟩ := hv
  have hts := atoms_spec (ws := Cond.code y b n ret :: hv_g) B.pre
  have hown : s.vm.findClass y.cls = some m.cls := findClass_of_methodNamed B.named
  have hin : meth.name = y.name := (name_of_methodNamed B.named B.method).1
  have hl := lv_entry av (n := n) hn
  rw [lg_entry_eq]
  exact body p e s m below meth c _ ⟨B.exec, B.bytes, hml, hown, fun w hw => hts w (List.mem_cons_of_mem _ hw), hE⟩ B.returns B.notSynchronized hin ⟨hO, va_S.rf⟩ hl
end HV1
section HV2
variable {p : Program} {l : Launch} {e : Env} {R : Room} {s : State} {m : MethodId} {args : Array Value} {below : List Frame} {meth : Method} {c : Code} {H : Heap} {locs : List Loc} {cells slots : Nat} {Q : State → Prop}
variable {cc : ByteArray} {pc nL : Nat} {ls : Array Slot} {rest : List Value} {X : hv_X} {V : hv_V} {own : String} {a : Nat}
/-- what is known of a class: its number, its table -/
def hv_cls (ci : Nat) (C : String) (T : u_T) (ty : Nat → FieldType) (N : Nat) : Prop := vwCl[ci]? = some (C, T, N) ∧ (∀ w ∈ u_ws C T N, w ∈ hv_g) ∧ (∀ k, k < N → parseFieldDescriptor (T k).2.2.1 = some (ty k)) ∧ (∀ a, a < N → ∀ b, b < N → a ≠ b → (T a).2.1 ≠ (T b).2.1)
theorem hv_get {ci N index : Nat} {C : String} {T : u_T} {ty : Nat → FieldType} {fs : List Value} {v : Value} (C0 : hv_C X p s m args c cc nL own) (w : hv_w X s V H locs) (hc : hv_cls ci C T ty N) (k : Nat) (hk : k < N) (hcl : (T k).1 = C) (hlink : Cond.fieldLink own index C (T k).2.1 (T k).2.2.1 ∈ hv_g) (hV : V a = some (.inr (ci, fs))) (hv : fs[k]? = some v) (hdg : decode cc pc = .ok (.getfield index, 3))
    (kk : W p l e R s m args below meth c H locs cells slots Q (F0 m (pc + 3) ls (v :: rest))) : W p l e R s m args below meth c H locs cells slots Q (F0 m pc ls (.ref a :: rest)) := by
  obtain ⟨hx, hb, hml, hown, hts, hE⟩ := C0
  obtain ⟨⟨ws, hP, hD, hi⟩, hS⟩ := w
  obtain ⟨j, hj⟩ := (hi a _).mp hV
  exact va_get (ref := C) hx hb hts hc.2.1 hown hE.1 hP j hj hc.1 k hk (hts _ hlink) (fun x h => by rw [hcl] at h; exact h) hv hdg kk
theorem hv_getN {ci N index : Nat} {C host : String} {T : u_T} {ty : Nat → FieldType} {fs : List Value} {v : Value} (C0 : hv_C X p s m args c cc nL own) (w : hv_w X s V H locs) (hc : hv_cls ci C T ty N) (k : Nat) (hk : k < N) (hcl : (T k).1 = C) (hlink : Cond.fieldLinkNest own index C (T k).2.1 (T k).2.2.1 host ∈ hv_n) (hV : V a = some (.inr (ci, fs))) (hv : fs[k]? = some v) (hdg : decode cc pc = .ok (.getfield index, 3))
    (kk : W p l e R s m args below meth c H locs cells slots Q (F0 m (pc + 3) ls (v :: rest))) : W p l e R s m args below meth c H locs cells slots Q (F0 m pc ls (.ref a :: rest)) := by
  obtain ⟨hx, hb, hml, hown, hts, hE⟩ := C0
  obtain ⟨⟨ws, hP, hD, hi⟩, hS⟩ := w
  obtain ⟨j, hj⟩ := (hi a _).mp hV
  exact va_getN (ref := C) hx hb hts hc.2.1 hown hE.1 hP j hj hc.1 k hk (va_Nw.use rfl (hE.2.1 _ hlink)) (fun x h => by rw [hcl] at h; exact h) hv hdg kk
theorem hv_put {ci N index : Nat} {C : String} {T : u_T} {ty : Nat → FieldType} {fs : List Value} {v : Value} (C0 : hv_C X p s m args c cc nL own) (w : hv_w X s V H locs) (hc : hv_cls ci C T ty N) (k : Nat) (hk : k < N) (hcl : (T k).1 = C) (hlink : Cond.fieldLink own index C (T k).2.1 (T k).2.2.1 ∈ hv_g) (hfin : (T k).2.2.2 = false) (hV : V a = some (.inr (ci, fs))) (hn : narrow (ty k) v = v) (hfit : fits (ty k) v = true) (hl : k < fs.length) (hdg : decode cc pc = .ok (.putfield index, 3))
    (kk : ∀ (H1 : Heap) (locs1 : List Loc), hv_w X s (hv_up V a (.inr (ci, fs.set k v))) H1 locs1 → W p l e R s m args below meth c H1 locs1 cells slots Q (F0 m (pc + 3) ls rest)) : W p l e R s m args below meth c H locs cells slots Q (F0 m pc ls (v :: .ref a :: rest)) := by
  obtain ⟨hx, hb, hml, hown, hts, hE⟩ := C0
  obtain ⟨⟨ws, hP, hD, hi⟩, hS⟩ := w
  obtain ⟨j, hj⟩ := (hi a _).mp hV
  exact va_put (ref := C) hx hb hts hc.2.1 ty hc.2.2.1 hc.2.2.2 hown hE.1 hP hD hS j hj hc.1 k hk (hts _ hlink) (fun x h => by rw [hcl] at h; exact h) hfin (hc.2.2.1 k hk) hn hfit hl hdg (fun H1 locs1 hP1 hD1 hS1 => kk H1 locs1 ⟨⟨_, hP1, hD1, hv_set hD hi hj⟩, hS1⟩)
theorem hv_putN {ci N index : Nat} {C host : String} {T : u_T} {ty : Nat → FieldType} {fs : List Value} {v : Value} (C0 : hv_C X p s m args c cc nL own) (w : hv_w X s V H locs) (hc : hv_cls ci C T ty N) (k : Nat) (hk : k < N) (hcl : (T k).1 = C) (hlink : Cond.fieldLinkNest own index C (T k).2.1 (T k).2.2.1 host ∈ hv_n) (hfin : (T k).2.2.2 = false) (hV : V a = some (.inr (ci, fs))) (hn : narrow (ty k) v = v) (hfit : fits (ty k) v = true) (hl : k < fs.length) (hdg : decode cc pc = .ok (.putfield index, 3))
    (kk : ∀ (H1 : Heap) (locs1 : List Loc), hv_w X s (hv_up V a (.inr (ci, fs.set k v))) H1 locs1 → W p l e R s m args below meth c H1 locs1 cells slots Q (F0 m (pc + 3) ls rest)) : W p l e R s m args below meth c H locs cells slots Q (F0 m pc ls (v :: .ref a :: rest)) := by
  obtain ⟨hx, hb, hml, hown, hts, hE⟩ := C0
  obtain ⟨⟨ws, hP, hD, hi⟩, hS⟩ := w
  obtain ⟨j, hj⟩ := (hi a _).mp hV
  exact va_putN (ref := C) hx hb hts hc.2.1 ty hc.2.2.1 hc.2.2.2 hown hE.1 hP hD hS j hj hc.1 k hk (va_Nw.use rfl (hE.2.1 _ hlink)) (fun x h => by rw [hcl] at h; exact h) hfin (hc.2.2.1 k hk) hn hfit hl hdg (fun H1 locs1 hP1 hD1 hS1 => kk H1 locs1 ⟨⟨_, hP1, hD1, hv_set hD hi hj⟩, hS1⟩)
theorem hv_iald (C0 : hv_C X p s m args c cc nL own) (w : hv_w X s V H locs) {n : Nat} {f : Nat → Int32} (hV : V a = some (.inl (X.2.1 0, n, .inl f))) {i : Int32} (hin : vp_in i n) (hdg : decode cc pc = .ok (.iaload, 1))
    (kk : W p l e R s m args below meth c H locs cells slots Q (F0 m (pc + 1) ls (.int (f i.toNatClampNeg) :: rest))) : W p l e R s m args below meth c H locs cells slots Q (F0 m pc ls (.int i :: .ref a :: rest)) := by
  obtain ⟨hx, hb, hml, hown, hts, hE⟩ := C0
  obtain ⟨⟨ws, hP, hD, hi⟩, hS⟩ := w
  obtain ⟨j, hj⟩ := (hi a _).mp hV
  exact va_iald hx hb hE.1 hP j 0 hj rfl hin hdg kk
theorem hv_lald (C0 : hv_C X p s m args c cc nL own) (w : hv_w X s V H locs) {n : Nat} {f : Nat → Int64} (hV : V a = some (.inl (X.2.1 1, n, .inr (.inl f)))) {i : Int32} (hin : vp_in i n) (hdg : decode cc pc = .ok (.laload, 1))
    (kk : W p l e R s m args below meth c H locs cells slots Q (F0 m (pc + 1) ls (.long (f i.toNatClampNeg) :: rest))) : W p l e R s m args below meth c H locs cells slots Q (F0 m pc ls (.int i :: .ref a :: rest)) := by
  obtain ⟨hx, hb, hml, hown, hts, hE⟩ := C0
  obtain ⟨⟨ws, hP, hD, hi⟩, hS⟩ := w
  obtain ⟨j, hj⟩ := (hi a _).mp hV
  exact va_lald hx hb hE.1 hP j 1 hj rfl hin hdg kk
theorem hv_bald (C0 : hv_C X p s m args c cc nL own) (w : hv_w X s V H locs) {n : Nat} {f : Nat → Int32} (hV : V a = some (.inl (X.2.1 2, n, .inl f))) {i : Int32} (hin : vp_in i n) (hdg : decode cc pc = .ok (.baload, 1))
    (kk : W p l e R s m args below meth c H locs cells slots Q (F0 m (pc + 1) ls (.int (f i.toNatClampNeg) :: rest))) : W p l e R s m args below meth c H locs cells slots Q (F0 m pc ls (.int i :: .ref a :: rest)) := by
  obtain ⟨hx, hb, hml, hown, hts, hE⟩ := C0
  obtain ⟨⟨ws, hP, hD, hi⟩, hS⟩ := w
  obtain ⟨j, hj⟩ := (hi a _).mp hV
  exact va_bald hx hb hE.1 hP j 2 hj rfl hin hdg kk
/-- an array of references, all of them there; t: its place among the array classes (3 Row, 4 Tape, 5 Fraction) -/
theorem hv_aald (t : Nat) {E : String} (C0 : hv_C X p s m args c cc nL own) (w : hv_w X s V H locs) (ht : (hv_tys X)[t]? = some (X.2.1 t, .object E)) {n q : Nat} {f : Nat → Option Nat} (hV : V a = some (.inl (X.2.1 t, n, .inr (.inr (.inr (.inr f)))))) {i : Int32} (hin : vp_in i n) (hf : f i.toNatClampNeg = some q) (hdg : decode cc pc = .ok (.aaload, 1))
    (kk : W p l e R s m args below meth c H locs cells slots Q (F0 m (pc + 1) ls (.ref q :: rest))) : W p l e R s m args below meth c H locs cells slots Q (F0 m pc ls (.int i :: .ref a :: rest)) := by
  obtain ⟨hx, hb, hml, hown, hts, hE⟩ := C0
  obtain ⟨⟨ws, hP, hD, hi⟩, hS⟩ := w
  obtain ⟨j, hj⟩ := (hi a _).mp hV
  exact va_aldq hx hb hE.1 hP j t hj ht hin hdg (by rw [hf]; exact kk)
theorem hv_iast (C0 : hv_C X p s m args c cc nL own) (w : hv_w X s V H locs) {n : Nat} {f : Nat → Int32} (hV : V a = some (.inl (X.2.1 0, n, .inl f))) {i x : Int32} (hin : vp_in i n) (hdg : decode cc pc = .ok (.iastore, 1))
    (kk : ∀ (H1 : Heap) (locs1 : List Loc), hv_w X s (hv_up V a (.inl (X.2.1 0, n, .inl (upd f i.toNatClampNeg x)))) H1 locs1 → W p l e R s m args below meth c H1 locs1 cells slots Q (F0 m (pc + 1) ls rest)) : W p l e R s m args below meth c H locs cells slots Q (F0 m pc ls (.int x :: .int i :: .ref a :: rest)) := by
  obtain ⟨hx, hb, hml, hown, hts, hE⟩ := C0
  obtain ⟨⟨ws, hP, hD, hi⟩, hS⟩ := w
  obtain ⟨j, hj⟩ := (hi a _).mp hV
  exact va_iast hx hb hE.1 hP hD hS j 0 hj rfl hin hdg (fun H1 locs1 hP1 hD1 hS1 => kk H1 locs1 ⟨⟨_, hP1, hD1, hv_set hD hi hj⟩, hS1⟩)
theorem hv_last (C0 : hv_C X p s m args c cc nL own) (w : hv_w X s V H locs) {n : Nat} {f : Nat → Int64} (hV : V a = some (.inl (X.2.1 1, n, .inr (.inl f)))) {i : Int32} {x : Int64} (hin : vp_in i n) (hdg : decode cc pc = .ok (.lastore, 1))
    (kk : ∀ (H1 : Heap) (locs1 : List Loc), hv_w X s (hv_up V a (.inl (X.2.1 1, n, .inr (.inl (vp_updL f i.toNatClampNeg x))))) H1 locs1 → W p l e R s m args below meth c H1 locs1 cells slots Q (F0 m (pc + 1) ls rest)) : W p l e R s m args below meth c H locs cells slots Q (F0 m pc ls (.long x :: .int i :: .ref a :: rest)) := by
  obtain ⟨hx, hb, hml, hown, hts, hE⟩ := C0
  obtain ⟨⟨ws, hP, hD, hi⟩, hS⟩ := w
  obtain ⟨j, hj⟩ := (hi a _).mp hV
  exact va_last hx hb hE.1 hP hD hS j 1 hj rfl hin hdg (fun H1 locs1 hP1 hD1 hS1 => kk H1 locs1 ⟨⟨_, hP1, hD1, hv_set hD hi hj⟩, hS1⟩)
theorem hv_bast (C0 : hv_C X p s m args c cc nL own) (w : hv_w X s V H locs) {n : Nat} {f : Nat → Int32} (hV : V a = some (.inl (X.2.1 2, n, .inl f))) {i x : Int32} (hin : vp_in i n) (hdg : decode cc pc = .ok (.bastore, 1))
    (kk : ∀ (H1 : Heap) (locs1 : List Loc), hv_w X s (hv_up V a (.inl (X.2.1 2, n, .inl (upd f i.toNatClampNeg (vp_nar .byte x))))) H1 locs1 → W p l e R s m args below meth c H1 locs1 cells slots Q (F0 m (pc + 1) ls rest)) : W p l e R s m args below meth c H locs cells slots Q (F0 m pc ls (.int x :: .int i :: .ref a :: rest)) := by
  obtain ⟨hx, hb, hml, hown, hts, hE⟩ := C0
  obtain ⟨⟨ws, hP, hD, hi⟩, hS⟩ := w
  obtain ⟨j, hj⟩ := (hi a _).mp hV
  exact va_bast hx hb hE.1 hP hD hS j 2 hj rfl hin hdg (fun H1 locs1 hP1 hD1 hS1 => kk H1 locs1 ⟨⟨_, hP1, hD1, hv_set hD hi hj⟩, hS1⟩)
theorem hv_alen (t : Nat) {ty : FieldType} (C0 : hv_C X p s m args c cc nL own) (w : hv_w X s V H locs) (ht : (hv_tys X)[t]? = some (X.2.1 t, ty)) {x : vp_A} (hV : V a = some (.inl (X.2.1 t, x))) {v : Int32} (hv : Int32.ofNat x.1 = v) (hdg : decode cc pc = .ok (.arraylength, 1))
    (kk : W p l e R s m args below meth c H locs cells slots Q (F0 m (pc + 1) ls (.int v :: rest))) : W p l e R s m args below meth c H locs cells slots Q (F0 m pc ls (.ref a :: rest)) := by
  obtain ⟨hx, hb, hml, hown, hts, hE⟩ := C0
  obtain ⟨⟨ws, hP, hD, hi⟩, hS⟩ := w
  obtain ⟨j, hj⟩ := (hi a _).mp hV
  exact va_alen hx hb hE.1 hP j t hj ht hv hdg kk
end HV2
