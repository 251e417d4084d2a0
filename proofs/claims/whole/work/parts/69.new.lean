/-! NEW CELLS over the view -/
theorem ko_i : Cond.instanceMethod objectInit ∈ hv_g := hv_mem 105 (by decide +kernel) (by decide +kernel)
theorem ko_c : Cond.code objectInit ⟨#[0xb1]⟩ 1 none ∈ hv_g := hv_mem 106 (by decide +kernel) (by decide +kernel)
theorem ko_X0 : Cond.methodLink RX0 3 objectInit ∈ hv_g := hv_mem 215 (by decide +kernel) (by decide +kernel)
theorem kn_X0 : Cond.instantiable RX0 3 ∈ hv_g := hv_mem 211 (by decide +kernel) (by decide +kernel)
theorem kz_X0 : Cond.initialized RX0 ∈ hv_g := hv_mem 90 (by decide +kernel) (by decide +kernel)
theorem ko_X1 : Cond.methodLink RX1 3 objectInit ∈ hv_g := hv_mem 120 (by decide +kernel) (by decide +kernel)
theorem kn_X1 : Cond.instantiable RX1 4 ∈ hv_g := hv_mem 116 (by decide +kernel) (by decide +kernel)
theorem kz_X1 : Cond.initialized RX1 ∈ hv_g := hv_mem 86 (by decide +kernel) (by decide +kernel)
theorem ko_X2 : Cond.methodLink RX2 3 objectInit ∈ hv_g := hv_mem 112 (by decide +kernel) (by decide +kernel)
theorem kn_X2 : Cond.instantiable RX2 4 ∈ hv_g := hv_mem 108 (by decide +kernel) (by decide +kernel)
theorem kz_X2 : Cond.initialized RX2 ∈ hv_g := hv_mem 85 (by decide +kernel) (by decide +kernel)
theorem ko_X3 : Cond.methodLink RX3 3 objectInit ∈ hv_g := hv_mem 146 (by decide +kernel) (by decide +kernel)
theorem kn_X3 : Cond.instantiable RX3 3 ∈ hv_g := hv_mem 142 (by decide +kernel) (by decide +kernel)
theorem kz_X3 : Cond.initialized RX3 ∈ hv_g := hv_mem 88 (by decide +kernel) (by decide +kernel)
theorem ko_X4 : Cond.methodLink RX4 3 objectInit ∈ hv_g := hv_mem 183 (by decide +kernel) (by decide +kernel)
theorem kn_X4 : Cond.instantiable RX4 6 ∈ hv_g := hv_mem 179 (by decide +kernel) (by decide +kernel)
theorem kz_X4 : Cond.initialized RX4 ∈ hv_g := hv_mem 89 (by decide +kernel) (by decide +kernel)
theorem ko_X5 : Cond.methodLink RX5 3 objectInit ∈ hv_g := hv_mem 237 (by decide +kernel) (by decide +kernel)
theorem kn_X5 : Cond.instantiable RX5 3 ∈ hv_g := hv_mem 233 (by decide +kernel) (by decide +kernel)
theorem kz_X5 : Cond.initialized RX5 ∈ hv_g := hv_mem 91 (by decide +kernel) (by decide +kernel)
theorem ko_X6 : Cond.methodLink RX6 3 objectInit ∈ hv_g := hv_mem 104 (by decide +kernel) (by decide +kernel)
theorem kn_X6 : Cond.instantiable RX6 10 ∈ hv_g := hv_mem 100 (by decide +kernel) (by decide +kernel)
theorem kz_X6 : Cond.initialized RX6 ∈ hv_g := hv_mem 84 (by decide +kernel) (by decide +kernel)
theorem ko_X7 : Cond.methodLink RX7 3 objectInit ∈ hv_g := hv_mem 755 (by decide +kernel) (by decide +kernel)
theorem kn_X7 : Cond.instantiable RX7 34 ∈ hv_g := hv_mem 751 (by decide +kernel) (by decide +kernel)
theorem kz_X7 : Cond.initialized RX7 ∈ hv_g := hv_mem 92 (by decide +kernel) (by decide +kernel)
theorem kx_L_7 : Cond.classLink RL 7 RX6 ∈ hv_g := hv_mem 99 (by decide +kernel) (by decide +kernel)
theorem kx_L_10 : Cond.classLink RL 10 RX7 ∈ hv_g := hv_mem 750 (by decide +kernel) (by decide +kernel)
theorem kx_X6_9 : Cond.classLink RX6 9 RX2 ∈ hv_g := hv_mem 107 (by decide +kernel) (by decide +kernel)
theorem kx_X2_9 : Cond.classLink RX2 9 RX3 ∈ hv_g := hv_mem 113 (by decide +kernel) (by decide +kernel)
theorem kx_X2_17 : Cond.classLink RX2 17 RX1 ∈ hv_g := hv_mem 115 (by decide +kernel) (by decide +kernel)
theorem kx_X6_21 : Cond.classLink RX6 21 RX4 ∈ hv_g := hv_mem 178 (by decide +kernel) (by decide +kernel)
theorem kx_X6_28 : Cond.classLink RX6 28 RX5 ∈ hv_g := hv_mem 206 (by decide +kernel) (by decide +kernel)
theorem kx_X6_34 : Cond.classLink RX6 34 RX3 ∈ hv_g := hv_mem 208 (by decide +kernel) (by decide +kernel)
theorem kx_X6_41 : Cond.classLink RX6 41 RX0 ∈ hv_g := hv_mem 210 (by decide +kernel) (by decide +kernel)
theorem kx_X7_18 : Cond.classLink RX7 18 ("[" ++ (FieldType.array .int).toString) ∈ hv_g := hv_mem 756 (by decide +kernel) (by decide +kernel)
theorem kx_X7_84 : Cond.classLink RX7 84 ("[" ++ (FieldType.array .long).toString) ∈ hv_g := hv_mem 758 (by decide +kernel) (by decide +kernel)
theorem ka_int : Cond.arrayClass .int ∈ hv_g := hv_mem 141 (by decide +kernel) (by decide +kernel)
theorem ka_byte : Cond.arrayClass .byte ∈ hv_g := hv_mem 205 (by decide +kernel) (by decide +kernel)
theorem ka_long : Cond.arrayClass .long ∈ hv_g := hv_mem 251 (by decide +kernel) (by decide +kernel)
def hv_O (U : State) : Prop := va_AO RX3 U ∧ va_AO RX5 U ∧ va_AO RX0 U ∧ hw_AR .int U ∧ hw_AR .long U
theorem hv_O.moved {u U : State} (hvm : u.vm.Alike U.vm) (h : hv_O u) : hv_O U := ⟨va_AO.moved hvm h.1, va_AO.moved hvm h.2.1, va_AO.moved hvm h.2.2.1, h.2.2.2.1.moved hvm, h.2.2.2.2.moved hvm⟩
abbrev hv_PreC (X : hv_X) (V : hv_V) (sz : Nat) (av : List Value) : Array Value → State → Prop := va_Pc av (fun U => hv_ok X V U.heap ∧ hv_E X U ∧ hv_O U ∧ U.heap.size = sz)
abbrev hv_QC (X : hv_X) (sz k : Nat) (post : hv_V → Prop) : Array Value → State → Outcome → State → Prop := va_Qv post (fun V t => hv_ok X V t.heap ∧ t.heap.size = sz + k) X.2.2.1
/-- a constructor's contract: from a heap of sz cells it makes k of ms slots -/
def hv_Mc (l : Launch) (X : hv_X) (d : Nat) (y : MethodName) (b : ByteArray) (n sz k ms : Nat) (V : hv_V) (av : List Value) (post : hv_V → Prop) : Prop :=
  Met l y (Cond.code y b n none :: hv_g) (hv_rm d k ms) (hv_PreC X V sz av) (hv_QC X sz k post) k ms X.2.2.1
theorem hv_blindC {X : hv_X} {V : hv_V} {sz : Nat} {av : List Value} : FrameBlind (hv_PreC X V sz av) := fun a U g mk q => ⟨q.1, q.2.1, hv_E.mv (s := U) (U := U.calling g mk a) (State.WarmedH.refl U) (fun _ _ _ => rfl) q.2.2.1, q.2.2.2.1.moved (u := U) (U := U.calling g mk a) (Vm.Alike.refl U.vm), q.2.2.2.2⟩
theorem hv_ok.kp {X : hv_X} {V : hv_V} {H H1 : Heap} (h : hv_ok X V H) (h1 : ∀ q : Nat, q < H.size → H1[q]? = H[q]?) : hv_ok X V H1 := by
  obtain ⟨ws, hP, hD, hi⟩ := h
  exact ⟨ws, hP.kept (fun k x hx => h1 x.1 ((hP k x hx).lt)), hD, hi⟩
/-- a cell more of the same heap is told -/
theorem hv_ok.add {X : hv_X} {V : hv_V} {H : Heap} (h : hv_ok X V H) {a : Nat} {e : va_E} (hn : V a = none) (h2 : va_at X.1 vwCl (a, e) H) (hA : X.2.2.1 a) : hv_ok X (hv_up V a e) H := by
  obtain ⟨ws, hP, hD, hi⟩ := h
  have hno : ∀ (k : Nat) (x : Nat × va_E), ws[k]? = some x → x.1 ≠ a := fun k x hx q => by
    have h9 := (hi x.1 x.2).mpr ⟨k, hx⟩
    rw [q, hn] at h9
    cases h9
  have hcase : ∀ (k : Nat) (x : Nat × va_E), (ws ++ [(a, e)])[k]? = some x → (k < ws.length ∧ ws[k]? = some x) ∨ (k = ws.length ∧ x = (a, e)) := fun k x hx => by
    by_cases hl : k < ws.length
    · rw [List.getElem?_append_left hl] at hx; exact Or.inl ⟨hl, hx⟩
    · rw [List.getElem?_append_right (by omega)] at hx
      have hz : k - ws.length < 1 := (List.getElem?_eq_some_iff.mp hx).1
      rw [show k - ws.length = 0 by omega] at hx
      cases hx
      exact Or.inr ⟨by omega, rfl⟩
  refine ⟨ws ++ [(a, e)], fun k x hx => ?_, ⟨fun i j x y hx hy hxy => ?_, fun k x hx => ?_⟩, fun b e1 => ?_⟩
  · rcases hcase k x hx with ⟨-, q⟩ | ⟨-, rfl⟩
    · exact hP k x q
    · exact h2
  · rcases hcase i x hx with ⟨-, q⟩ | ⟨q1, rfl⟩
    · rcases hcase j y hy with ⟨-, r⟩ | ⟨-, rfl⟩
      · exact hD.1 i j x y q r hxy
      · exact absurd hxy (hno i x q)
    · rcases hcase j y hy with ⟨-, r⟩ | ⟨q2, -⟩
      · exact absurd hxy.symm (hno j y r)
      · omega
  · rcases hcase k x hx with ⟨-, q⟩ | ⟨-, rfl⟩
    · exact hD.2 k x q
    · exact hA
  · by_cases hb : b = a
    · subst hb
      rw [hv_us]
      constructor
      · intro q
        exact ⟨ws.length, by rw [List.getElem?_append_right (Nat.le_refl _), Nat.sub_self, Option.some.inj q]; rfl⟩
      · rintro ⟨j, hj⟩
        rcases hcase j _ hj with ⟨-, r⟩ | ⟨-, r⟩
        · exact absurd rfl (hno j _ r)
        · rw [(Prod.mk.inj r).2]
    · rw [hv_un hb, hi]
      constructor
      · rintro ⟨j, hj⟩
        exact ⟨j, by rw [List.getElem?_append_left (List.getElem?_eq_some_iff.mp hj).1]; exact hj⟩
      · rintro ⟨j, hj⟩
        rcases hcase j _ hj with ⟨-, r⟩ | ⟨-, r⟩
        · exact ⟨j, r⟩
        · exact absurd (Prod.mk.inj r).1 hb
/-- n cells from a on -/
def hv_many (V : hv_V) (a : Nat) (g : Nat → va_E) : Nat → hv_V
  | 0 => V
  | n + 1 => hv_up (hv_many V a g n) (a + n) (g n)
theorem hv_many_lt {V : hv_V} {a : Nat} {g : Nat → va_E} {q : Nat} (h : q < a) : ∀ n, hv_many V a g n q = V q
  | 0 => rfl
  | n + 1 => by rw [hv_many, hv_un (by omega)]; exact hv_many_lt h n
theorem hv_many_ge {V : hv_V} {a : Nat} {g : Nat → va_E} {q : Nat} : ∀ n, a + n ≤ q → hv_many V a g n q = V q
  | 0, _ => rfl
  | n + 1, h => by rw [hv_many, hv_un (by omega)]; exact hv_many_ge n (by omega)
theorem hv_many_at {V : hv_V} {a : Nat} {g : Nat → va_E} {i : Nat} : ∀ n, i < n → hv_many V a g n (a + i) = some (g i)
  | 0, h => absurd h (Nat.not_lt_zero i)
  | n + 1, h => by
    by_cases q : i = n
    · rw [hv_many, q]; exact hv_us
    · rw [hv_many, hv_un (by omega)]; exact hv_many_at n (by omega)
theorem hv_ok.many {X : hv_X} {V : hv_V} {H H1 : Heap} (h : hv_ok X V H) (h1 : ∀ q : Nat, q < H.size → H1[q]? = H[q]?) {g : Nat → va_E} (hA : ∀ q : Nat, H.size ≤ q → X.2.2.1 q) : ∀ n : Nat, (∀ i, i < n → va_at X.1 vwCl (H.size + i, g i) H1) → hv_ok X (hv_many V H.size g n) H1
  | 0, _ => h.kp h1
  | n + 1, h2 => (hv_ok.many h h1 hA n (fun i hi => h2 i (by omega))).add (by rw [hv_many_ge n (Nat.le_refl _)]; exact h.fresh (by omega)) (h2 n (by omega)) (hA _ (by omega))
/-- the cells from a on hold the list -/
def hv_lst (V : hv_V) (a : Nat) (L : List va_E) : Prop := ∀ (j : Nat) (e : va_E), L[j]? = some e → V (a + j) = some e
theorem hv_lst.nil {V : hv_V} {a : Nat} : hv_lst V a [] := fun j e h => by cases h
theorem hv_lst.fr {V V1 : hv_V} {a : Nat} {L : List va_E} (h : hv_lst V a L) (hf : ∀ q, a ≤ q → q < a + L.length → V1 q = V q) : hv_lst V1 a L := fun j e hj => (hf _ (by omega) (by have := (List.getElem?_eq_some_iff.mp hj).1; omega)).trans (h j e hj)
theorem hv_lst.put {V : hv_V} {a o : Nat} {L : List va_E} {e : va_E} (h : hv_lst V a L) (ho : o < a) : hv_lst (hv_up V o e) a L := h.fr (fun q h1 _ => hv_un (by omega))
theorem hv_lst.app {V : hv_V} {a : Nat} {L L2 : List va_E} (h : hv_lst V a L) (h2 : hv_lst V (a + L.length) L2) : hv_lst V a (L ++ L2) := fun j e hj => by
  by_cases q : j < L.length
  · rw [List.getElem?_append_left q] at hj; exact h j e hj
  · rw [List.getElem?_append_right (by omega)] at hj
    have h9 := h2 _ e hj
    rw [show a + L.length + (j - L.length) = a + j by omega] at h9
    exact h9
theorem hv_lst.one {V : hv_V} {a : Nat} {e : va_E} (h : V a = some e) : hv_lst V a [e] := fun j e1 hj => by
  have hz : j < 1 := (List.getElem?_eq_some_iff.mp hj).1
  rw [show j = 0 by omega] at hj ⊢
  cases hj
  exact h
theorem hv_lst.rep {V : hv_V} {a n : Nat} {e : va_E} (h : ∀ j, j < n → V (a + j) = some e) : hv_lst V a (List.replicate n e) := fun j e1 hj => by
  have hz := (List.getElem?_eq_some_iff.mp hj).1
  rw [List.length_replicate] at hz
  rw [List.getElem?_replicate, if_pos hz] at hj
  cases hj
  exact h j hz
section HW4
variable {p : Program} {l : Launch} {e : Env} {R : Room} {s : State} {m : MethodId} {args : Array Value} {below : List Frame} {meth : Method} {c : Code} {H : Heap} {locs : List Loc} {cells slots : Nat} {Q : State → Prop}
variable {cc : ByteArray} {pc nL : Nat} {ls : Array Slot} {rest : List Value} {X : hv_X} {V : hv_V} {own : String} {a : Nat}
theorem hv_grow {A : Nat → Prop} {H0 H1 : Heap} {locs : List Loc} {n : Nat} (hS : va_S A H0 H locs) (z1 : H1.size = H.size + n) (o1 : ∀ q : Nat, q < H.size → H1[q]? = H[q]?) : va_S A H0 H1 locs := ⟨Nat.le_trans hS.1 (by omega), fun x h1 h2 => (o1 x (Nat.lt_of_lt_of_le h1 hS.1)).trans (hS.2.1 x h1 h2), hS.2.2⟩
theorem hv_new {ci N index : Nat} {C : String} {T : u_T} {ty : Nat → FieldType} {fs : List Value} (C0 : hv_C X p s m args c cc nL own) (w : hv_w X s V H locs) (hA : ∀ q, s.heap.size ≤ q → X.2.2.1 q) (hc : hv_cls ci C T ty N) (k1 : Cond.classLink own index C ∈ hv_g) (k2 : Cond.instantiable C N ∈ hv_g) (k3 : Cond.initialized C ∈ hv_g) (hfs : ∀ j, j < N → defaultValue (ty j) = vp_V fs j) (hcells : cells + 1 ≤ R.cells) (hslots : slots + N ≤ R.slots) {sz : Nat} (hz : H.size = sz) (hdg : decode cc pc = .ok (.new index, 3))
    (kk : ∀ (H1 : Heap), hv_w X s (hv_up V sz (.inr (ci, fs))) H1 locs → H1.size = sz + 1 → W p l e R s m args below meth c H1 locs (cells + 1) (slots + N) Q (F0 m (pc + 3) ls (.ref sz :: rest))) : W p l e R s m args below meth c H locs cells slots Q (F0 m pc ls rest) := by
  subst hz
  obtain ⟨hx, hb, hml, hown, hts, hE⟩ := C0
  have hKn := hE.1.1 ci _ hc.1
  refine W.newcK hx hb hown (hts _ k1) (hts _ k2) (hts _ k3) rfl hdg hcells hslots hKn.2.1 rfl fun H1 kC hkC e1 z1 o1 => ?_
  exact kk H1 ⟨w.1.push o1 ⟨_, hc.1, (u_born ty hts hc.2.1 hKn hkC e1 hc.2.2.1).to hfs⟩ (hA _ w.2.1), hv_grow w.2 z1 o1⟩ z1
theorem hv_newa {atype : ArrayType} (t : Nat) (C0 : hv_C X p s m args c cc nL own) (w : hv_w X s V H locs) (hA : ∀ q, s.heap.size ≤ q → X.2.2.1 q) (k1 : Cond.arrayClass (newarray.typeOf atype) ∈ hv_g) (ht : (hv_tys X)[t]? = some (X.2.1 t, newarray.typeOf atype)) {n : Int32} {N : Nat} {a0 : vp_A} (ha : ∀ cA : ClassId, vp_cell cA a0 = arrV cA N (fun _ => defaultValue (newarray.typeOf atype))) (hn : ¬ n < 0) (hN : n.toNatClampNeg = N) (hbytes : N * componentBytes (newarray.typeOf atype) ≤ 536870912) (hcells : cells + 1 ≤ R.cells) (hslots : slots + N ≤ R.slots) {sz : Nat} (hz : H.size = sz) (hdg : decode cc pc = .ok (.newarray atype, 2))
    (kk : ∀ (H1 : Heap), hv_w X s (hv_up V sz (.inl (X.2.1 t, a0))) H1 locs → H1.size = sz + 1 → W p l e R s m args below meth c H1 locs (cells + 1) (slots + N) Q (F0 m (pc + 2) ls (.ref sz :: rest))) : W p l e R s m args below meth c H locs cells slots Q (F0 m pc ls (.int n :: rest)) := by
  subst hz
  obtain ⟨hx, hb, hml, hown, hts, hE⟩ := C0
  refine va_newaK hx hb (hts _ k1) rfl hdg rfl hn hN hbytes hcells hslots rfl fun H1 cA e1 z1 o1 hAr hNm => ?_
  have h9 := (hE.1.2 t _ ht).2
  have e9 : cA = X.2.1 t := by
    have h8 : s.vm.findClass ("[" ++ (newarray.typeOf atype).toString) = some (X.2.1 t) := by cases atype <;> exact h9
    exact Option.some.inj (hNm.symm.trans h8)
  subst e9
  exact kk H1 ⟨w.1.push o1 (show H1[H.size]? = some (vp_cell _ _) by rw [ha]; exact e1) (hA _ w.2.1), hv_grow w.2 z1 o1⟩ z1
theorem hv_newq (t : Nat) {C : String} {index : Nat} (C0 : hv_C X p s m args c cc nL own) (w : hv_w X s V H locs) (hA : ∀ q, s.heap.size ≤ q → X.2.2.1 q) (k1 : Cond.classLink own index C ∈ hv_g) (hO : va_AO C s) (ht : (hv_tys X)[t]? = some (X.2.1 t, .object C)) {n : Int32} {N : Nat} (hn : ¬ n < 0) (hN : n.toNatClampNeg = N) (hbytes : N * 4 ≤ 536870912) (hcells : cells + 1 ≤ R.cells) (hslots : slots + N ≤ R.slots) {sz : Nat} (hz : H.size = sz) (hdg : decode cc pc = .ok (.anewarray index, 3))
    (kk : ∀ (H1 : Heap), hv_w X s (hv_up V sz (qE X t N (fun _ => none))) H1 locs → H1.size = sz + 1 → W p l e R s m args below meth c H1 locs (cells + 1) (slots + N) Q (F0 m (pc + 3) ls (.ref sz :: rest))) : W p l e R s m args below meth c H locs cells slots Q (F0 m pc ls (.int n :: rest)) := by
  subst hz
  subst hN
  obtain ⟨hx, hb, hml, hown, hts, hE⟩ := C0
  refine W.anew hx hb hown (hts _ k1) (va_AO.use hO) rfl hdg rfl hn hbytes hcells hslots fun cA kA comp f1 f2 f3 f4 => ?_
  generalize hH1 : H.push ({ cls := cA, slots := Array.replicate n.toNatClampNeg .null, vm := .none } : Cell) = H1
  have z1 : H1.size = H.size + 1 := by rw [← hH1, Array.size_push]
  have e1 : H1[H.size]? = some (arrV cA n.toNatClampNeg (fun _ => .null)) := by rw [← hH1, Array.getElem?_push_size, ← arrV_new]
  have o1 : ∀ q : Nat, q < H.size → H1[q]? = H[q]? := fun q hq => by rw [← hH1, Array.getElem?_push, if_neg (Nat.ne_of_lt hq)]
  obtain ⟨-, k9, c9, -, -, -, h8⟩ := hE.1.2 t _ ht
  have e9 : cA = X.2.1 t := Option.some.inj (f1.symm.trans h8)
  subst e9
  exact kk H1 ⟨w.1.push o1 (show H1[H.size]? = some (vp_cell _ _) by rw [vp_cell_q]; exact e1) (hA _ w.2.1), hv_grow w.2 z1 o1⟩ z1
def hw_r (a N : Nat) : Nat → Option Nat := fun j => if j < N then some (a + 1 + j) else none
/-- a table of N rows of K -/
theorem hv_multi (t t0 : Nat) {index : Nat} {ty : FieldType} (C0 : hv_C X p s m args c cc nL own) (w : hv_w X s V H locs) (hA : ∀ q, s.heap.size ≤ q → X.2.2.1 q) (k1 : Cond.classLink own index ("[" ++ (FieldType.array ty).toString) ∈ hv_g) (k2 : Cond.arrayClass ty ∈ hv_g) (hO : hw_AR ty s) (ht : (hv_tys X)[t]? = some (X.2.1 t, .array ty)) (ht0 : (hv_tys X)[t0]? = some (X.2.1 t0, ty)) (hpr : ∀ (U : State) (cA : ClassId), va_RA U cA ty → U.vm.findClass ("[" ++ ty.toString) = some cA) {n k : Int32} {N K : Nat} {a0 : vp_A} (ha : ∀ cA : ClassId, vp_cell cA a0 = arrV cA K (fun _ => defaultValue ty)) (hn : ¬ n < 0) (hk : ¬ k < 0) (hN : n.toNatClampNeg = N) (hK : k.toNatClampNeg = K) (hb1 : N * 4 ≤ 536870912) (hb2 : K * componentBytes ty ≤ 536870912) (hb3 : K ≤ 536870912) (hf : fits ty (defaultValue ty) = true) (hcells : cells + (1 + N) ≤ R.cells) (hslots : slots + (N + N * K) ≤ R.slots) {sz : Nat} (hz : H.size = sz) (hdg : decode cc pc = .ok (.multianewarray index 2, 4))
    (kk : ∀ (H1 : Heap) (V1 : hv_V), hv_w X s V1 H1 locs → V1 sz = some (qE X t N (hw_r sz N)) → (∀ j, j < N → V1 (sz + 1 + j) = some (.inl (X.2.1 t0, a0))) → (∀ q, q < sz → V1 q = V q) → W p l e R s m args below meth c H1 locs (cells + 1 + N) (slots + (N + N * K)) Q (F0 m (pc + 4) ls (.ref sz :: rest))) : W p l e R s m args below meth c H locs cells slots Q (F0 m pc ls (.int k :: .int n :: rest)) := by
  subst hz
  obtain ⟨hx, hb, hml, hown, hts, hE⟩ := C0
  refine hw_multi hx hb hown (hts _ k1) hO (hts _ k2) hn hk hN hK hb1 hb2 hb3 hf w.2.1 hcells hslots hdg (fun H1 cA cB f1 f2 z1 e1 e2 o1 => ?_)
  have h8 : s.vm.findClass ("[" ++ (FieldType.array ty).toString) = some (X.2.1 t) := (hE.1.2 t _ ht).2
  have h9 := hpr _ _ (hE.1.2 t0 _ ht0).2
  obtain rfl : X.2.1 t = cA := Option.some.inj (h8.symm.trans f1)
  obtain rfl : X.2.1 t0 = cB := Option.some.inj (h9.symm.trans f2)
  have hg := hv_ok.many (g := fun i => if i = 0 then qE X t N (hw_r H.size N) else .inl (X.2.1 t0, a0)) w.1 o1 (fun q hq => hA q (Nat.le_trans w.2.1 hq)) (1 + N) (fun i hi => by
    by_cases q : i = 0
    · show va_at _ _ (H.size + i, if i = 0 then _ else _) H1
      rw [if_pos q, q]
      show H1[H.size]? = some (vp_cell _ _)
      rw [e1, vp_cell_q]
      congr 2
      funext j
      unfold hw_f hw_r
      by_cases r : j < N
      · rw [if_pos r, if_pos r]; rfl
      · rw [if_neg r, if_neg r]; rfl
    · show va_at _ _ (H.size + i, if i = 0 then _ else _) H1
      rw [if_neg q]
      show H1[H.size + i]? = some (vp_cell _ _)
      rw [ha, show H.size + i = H.size + 1 + (i - 1) by omega]
      exact e2 (i - 1) (by omega))
  exact kk H1 _ ⟨hg, hv_grow w.2 (n := 1 + N) (by omega) o1⟩ (hv_many_at (i := 0) (1 + N) (by omega)) (fun j hj => by
    rw [show H.size + 1 + j = H.size + (1 + j) by omega, hv_many_at (1 + N) (by omega), if_neg (by omega)]) (fun q hq => hv_many_lt hq _)
theorem hw_sz {g : JFrame} (kk : H.size ≤ s.heap.size + cells → W p l e R s m args below meth c H locs cells slots Q g) : W p l e R s m args below meth c H locs cells slots Q g := fun T hT X => kk (by rw [← hT]; exact X.heapSize) T hT X
theorem hv_putF {ci N index : Nat} {C : String} {T : u_T} {ty : Nat → FieldType} {fs : List Value} {v : Value} (C0 : hv_C X p s m args c cc nL own) (hnm : meth.name = "<init>") (w : hv_w X s V H locs) (hc : hv_cls ci C T ty N) (k : Nat) (hk : k < N) (hcl : (T k).1 = C) (hoc : C = own) (hlink : Cond.fieldLink own index C (T k).2.1 (T k).2.2.1 ∈ hv_g) (hfin : (T k).2.2.2 = true) (hV : V a = some (.inr (ci, fs))) (hn : narrow (ty k) v = v) (hfit : fits (ty k) v = true) (hl : k < fs.length) (hdg : decode cc pc = .ok (.putfield index, 3))
    (kk : ∀ (H1 : Heap) (locs1 : List Loc), hv_w X s (hv_up V a (.inr (ci, fs.set k v))) H1 locs1 → W p l e R s m args below meth c H1 locs1 cells slots Q (F0 m (pc + 3) ls rest)) : W p l e R s m args below meth c H locs cells slots Q (F0 m pc ls (v :: .ref a :: rest)) := by
  obtain ⟨hx, hb, hml, hown, hts, hE⟩ := C0
  obtain ⟨⟨ws, hP, hD, hi⟩, hS⟩ := w
  obtain ⟨j, hj⟩ := (hi a _).mp hV
  exact va_putF (ref := C) hx hb hts hc.2.1 ty hc.2.2.1 hc.2.2.2 hown hE.1 hP hD hS j hj hc.1 k hk (hts _ hlink) (fun x h => by rw [hcl] at h; exact h) hfin hnm (hcl.trans hoc) (hc.2.2.1 k hk) hn hfit hl hdg (fun H1 locs1 hP1 hD1 hS1 => kk H1 locs1 ⟨⟨_, hP1, hD1, hv_set hD hi hj⟩, hS1⟩)
theorem hv_astq (t : Nat) {ci n v : Nat} {vs : List Value} {r : vw_C} {f : Nat → Option Nat} (C0 : hv_C X p s m args c cc nL own) (w : hv_w X s V H locs) (ht : (hv_tys X)[t]? = some (X.2.1 t, .object r.1)) (hc : vwCl[ci]? = some r) (hV : V a = some (qE X t n f)) (hv : V v = some (.inr (ci, vs))) {i : Int32} (hin : vp_in i n) (hdg : decode cc pc = .ok (.aastore, 1))
    (kk : ∀ (H1 : Heap) (locs1 : List Loc), hv_w X s (hv_up V a (qE X t n (va_up f i.toNatClampNeg (some v)))) H1 locs1 → W p l e R s m args below meth c H1 locs1 cells slots Q (F0 m (pc + 1) ls rest)) : W p l e R s m args below meth c H locs cells slots Q (F0 m pc ls (.ref v :: .int i :: .ref a :: rest)) := by
  obtain ⟨hx, hb, hml, hown, hts, hE⟩ := C0
  obtain ⟨⟨ws, hP, hD, hi⟩, hS⟩ := w
  obtain ⟨j, hj⟩ := (hi a _).mp hV
  obtain ⟨jv, hjv⟩ := (hi v _).mp hv
  exact va_astq hx hb hE.1 hP hD hS j t jv ci hj ht hjv hc hin hdg (fun H1 locs1 hP1 hD1 hS1 => kk H1 locs1 ⟨⟨_, hP1, hD1, hv_set hD hi hj⟩, hS1⟩)
variable {d d2 mc ms n na idx sz k2 s2 : Nat} {st As : List Value} {y : MethodName} {b : ByteArray} {pv : hv_V → Prop}
theorem hv_objI (C0 : hv_C X p s m args c cc nL own) (k1 : Cond.methodLink own 3 objectInit ∈ hv_g) (hsz : ls.size = nL) (hdg : decode cc pc = .ok (.invokespecial 3, 3)) (hd : 1 ≤ d)
    (kk : W p l e (hv_rm d mc ms) s m args below meth c H locs cells slots Q (F0 m (pc + 3) ls [])) : W p l e (hv_rm d mc ms) s m args below meth c H locs cells slots Q (F0 m pc ls [.ref a]) := by
  obtain ⟨hx, hb, hml, hown, hts, hE⟩ := C0
  refine W.objInit hx hb hown (hts _ k1) (hts _ ko_i) (hts _ ko_c) rfl (by rw [hml]; exact hsz) rfl hdg hd (by show 2 * 0 + 0 + 12 ≤ 40 * d; omega) ?_
  exact W.eq (g2 := F0 m (pc + 3) ls []) rfl kk
theorem hv_cI (C0 : hv_C X p s m args c cc nL own) (hO : hv_O s) (w : hv_w X s V H locs) (k : hv_L own idx y b n none na) (k2' : y.name = "<init>" ∧ Cond.instanceMethod y ∈ hv_g) (hM : hv_Mc l X d2 y b n sz k2 s2 V (.ref a :: As) pv) (hz : H.size = sz) (hd : d2 + 1 ≤ d) (hn : n ≤ 21) (hna : As.length = na) (hsz : ls.size = nL) (hst : st = As.reverse ++ .ref a :: rest) (hW : (rest.map fun v => v.category).sum ≤ 8) (hdg : decode cc pc = .ok (.invokespecial idx, 3)) (hf : cells + k2 ≤ mc ∧ slots + s2 ≤ ms)
    (kk : ∀ (V1 : hv_V) (H1 : Heap) (locs1 : List Loc), pv V1 → hv_w X s V1 H1 locs1 → H1.size = sz + k2 → W p l e (hv_rm d mc ms) s m args below meth c H1 locs1 (cells + k2) (slots + s2) Q (F0 m (pc + 3) ls rest)) : W p l e (hv_rm d mc ms) s m args below meth c H locs cells slots Q (F0 m pc ls st) := by
  have hp : ∀ U : State, U.heap = H → s.WarmedH U.vm → hv_PreC X V sz (.ref a :: As) (Value.ref a :: As).toArray U := fun U hU hW =>
    ⟨rfl, by rw [hU]; exact w.1, C0.2.2.2.2.2.mv hW (fun a ha hna => by rw [hU]; exact w.2.2.1 a ha hna), hO.moved hW.alike, by rw [hU]; exact hz⟩
  have hpay := hv_pay C0 k
  have hw2 := w.2
  obtain ⟨hx, hb, hml, hown, hts, hE⟩ := C0
  have hpar : ∀ sig, parseMethodDescriptor y.desc = some sig → na = sig.parameters.length := fun sig h => by
    have h2 := k.2.2.2.2.2
    rw [h] at h2
    exact (Option.some.inj h2).symm
  have hlo : 8 + (n + 11) + 40 * d2 ≤ 40 * d := by omega
  have hrun : va_Run p l e (hv_rm d mc ms) s m args below meth c H locs cells slots k2 s2 (F0 m pc ls st) rest ((hv_QC X sz k2 pv) (Value.ref a :: As).toArray) X.2.2.1 := by
    rcases k.1 with h | ⟨host, h⟩
    · exact va_runI ⟨hx, hb, hml, hown, hts⟩ hM ⟨⟨rfl, rfl, hd, hlo, hpay, List.mem_cons_self, hts _ k.2.2.1, hts _ k.2.1, ⟨k.2.2.2.1, k.2.2.2.2.1⟩, hpar, hts _ h⟩, k2'.1, hts _ k2'.2⟩ ⟨hv_blindC, hp⟩ rfl hna hsz hst (by show 2 * 0 + _ ≤ 8; omega) hdg hf
    · exact va_runIN ⟨hx, hb, hml, hown, hts⟩ hM ⟨⟨⟨rfl, rfl, hd, hlo, hpay, List.mem_cons_self⟩, hts _ k.2.2.1, hts _ k.2.1, ⟨k.2.2.2.1, k.2.2.2.2.1⟩, hpar, va_Nw.use rfl (hE.2.1 _ h)⟩, k2'.1, hts _ k2'.2⟩ ⟨hv_blindC, hp⟩ rfl hna hsz hst (by show 2 * 0 + _ ≤ 8; omega) hdg hf
  exact va_callv hrun hw2 (fun _ _ h => h) (fun _ h => h) (fun u t H1 locs1 ht _ hp hB _ _ hS1 => kk u H1 locs1 hp ⟨by rw [← ht]; exact hB.1, hS1⟩ (by rw [← ht]; exact hB.2))
theorem hv_vretC {R : Room} {k : Nat} (C0 : hv_C X p s m args c cc nL own) (w : hv_w X s V H locs) (hr : meth.sig.returnType = none) (hlk : meth.locks = false) (hz : H.size = sz + cells) (hp : pv V) (hdg : decode cc pc = .ok (.return_, 1)) : W p l e R s m args below meth c H locs cells slots (MQ below (hv_QC X sz cells pv) args s cells slots X.2.2.1) (F0 m pc ls []) :=
  W.vret C0.1 C0.2.1 hr (fun t ht _ => ⟨⟨V, rfl, hp, show hv_ok X V t.heap by rw [ht]; exact w.1, show t.heap.size = sz + cells by rw [ht]; exact hz⟩, w.2.F ht⟩) w.2.2.2 hdg hlk
end HW4
theorem hv_enterC {l : Launch} {X : hv_X} {d : Nat} {y : MethodName} {b : ByteArray} {n sz : Nat} {V : hv_V} {av : List Value} {mc ms : Nat} {Qc : Array Value → State → Outcome → State → Prop} (hy : plainName y.cls = true) (hn : (lg_sl av).length ≤ n)
    (body : ∀ (p : Program) (e : Env) (s : State) (m : MethodId) (below : List Frame) (meth : Method) (c : Code) (ls : Array Slot), hv_C X p s m av.toArray c b n y.cls → hv_O s → s.heap.size = sz → meth.sig.returnType = none → meth.locks = false → meth.name = y.name → hv_w X s V s.heap [] → lv_has ls n (lv_args 0 av) → W p l e (hv_rm d mc ms) s m av.toArray below meth c s.heap [] 0 0 (MQ below Qc av.toArray s mc ms X.2.2.1) (F0 m 0 ls [])) :
    Met l y (Cond.code y b n none :: hv_g) (hv_rm d mc ms) (hv_PreC X V sz av) Qc mc ms X.2.2.1 := by
  refine Met.ofW (cc := b) (maxL := n) (ret := none) hy rfl ?_
  intro p e s m args below meth c s₁ B hml hv
  obtain ⟨rfl, hO, hE, hOO, hz⟩ := hv
  have hts := atoms_spec (ws := Cond.code y b n none :: hv_g) B.pre
  have hown : s.vm.findClass y.cls = some m.cls := findClass_of_methodNamed B.named
  have hin : meth.name = y.name := (name_of_methodNamed B.named B.method).1
  have hl := lv_entry av (n := n) hn
  rw [lg_entry_eq]
  exact body p e s m below meth c _ ⟨B.exec, B.bytes, hml, hown, fun w hw => hts w (List.mem_cons_of_mem _ hw), hE⟩ hOO hz B.returns B.notSynchronized hin ⟨hO, va_S.rf⟩ hl
