/-! CALLS AND RETURNS over the view -/
/-- what the tables say of a call's place: the method that it links, its code, how many arguments -/
def hv_L (own : String) (idx : Nat) (y : MethodName) (b : ByteArray) (n : Nat) (ret : Option FieldType) (na : Nat) : Prop :=
  (Cond.methodLink own idx y ∈ hv_g ∨ ∃ host : String, Cond.methodLinkNest own idx y host ∈ hv_n) ∧ Cond.initialized y.cls ∈ hv_g ∧ Cond.code y b n ret ∈ hv_g ∧ y.cls ≠ "java/lang/invoke/MethodHandle" ∧ y.cls ≠ "java/lang/invoke/VarHandle" ∧ (parseMethodDescriptor y.desc).map (fun d => d.parameters.length) = some na
section HV3
variable {p : Program} {l : Launch} {e : Env} {s : State} {m : MethodId} {args : Array Value} {below : List Frame} {meth : Method} {c : Code} {H : Heap} {locs : List Loc} {cells slots : Nat} {Q : State → Prop}
variable {cc : ByteArray} {pc nL d d2 mc ms n na idx : Nat} {ls : Array Slot} {rest st As : List Value} {X : hv_X} {V : hv_V} {own : String} {a : Nat} {y : MethodName} {b : ByteArray} {ret : Option FieldType}
theorem hv_pre (C0 : hv_C X p s m args c cc nL own) (w : hv_w X s V H locs) (av : List Value) : ∀ U : State, U.heap = H → s.WarmedH U.vm → hv_Pre X V av av.toArray U := fun U hU hW =>
  ⟨rfl, by rw [hU]; exact w.1, C0.2.2.2.2.2.mv hW (fun a ha hna => by rw [hU]; exact w.2.2.1 a ha hna)⟩
theorem hv_pay (C0 : hv_C X p s m args c cc nL own) (k : hv_L own idx y b n ret na) : ∀ w ∈ Cond.code y b n ret :: hv_g, ∀ (a' : Array Value) (U : State), s.WarmedH U.vm → w.before a' U = true := pay_in C0.2.2.2.2.1 (hv_good k.2.2.1)
theorem hv_runV {Qc : Array Value → State → Outcome → State → Prop} {ci N : Nat} {T : u_T} {fs : List Value} {c2 s2 : Nat} (C0 : hv_C X p s m args c cc nL own) (w : hv_w X s V H locs) (k : hv_L own idx y b n ret na) (k2 : Cond.instanceMethod y ∈ hv_g ∧ Cond.selects y.cls y y ∈ hv_g) (hc : vwCl[ci]? = some (y.cls, T, N)) (hV : V a = some (.inr (ci, fs))) (hM : Met l y (Cond.code y b n ret :: hv_g) (hv_rm d2 c2 s2) (hv_Pre X V (.ref a :: As)) Qc c2 s2 X.2.2.1)
    (hd : d2 + 1 ≤ d) (hn : n ≤ 21) (hna : As.length = na) (hsz : ls.size = nL) (hst : st = As.reverse ++ .ref a :: rest) (hW : (rest.map fun v => v.category).sum ≤ 8) (hdg : decode cc pc = .ok (.invokevirtual idx, 3)) (hf : cells + c2 ≤ mc ∧ slots + s2 ≤ ms) :
    va_Run p l e (hv_rm d mc ms) s m args below meth c H locs cells slots c2 s2 (F0 m pc ls st) rest (Qc (Value.ref a :: As).toArray) X.2.2.1 := by
  have hp := hv_pre C0 w (.ref a :: As)
  have hpay := hv_pay C0 k
  obtain ⟨hx, hb, hml, hown, hts, hE⟩ := C0
  obtain ⟨⟨ws, hP, hD, hi⟩, hS⟩ := w
  obtain ⟨j, hj⟩ := (hi a _).mp hV
  have hrec := va_recv hE.1 hP hc hj
  have hpar : ∀ sig, parseMethodDescriptor y.desc = some sig → na = sig.parameters.length := fun sig h => by
    have h2 := k.2.2.2.2.2
    rw [h] at h2
    exact (Option.some.inj h2).symm
  have hlo : 8 + (n + 11) + 40 * d2 ≤ 40 * d := by omega
  rcases k.1 with h | ⟨host, h⟩
  · exact va_runV (C := y.cls) ⟨hx, hb, hml, hown, hts⟩ hM ⟨⟨rfl, rfl, hd, hlo, hpay, List.mem_cons_self, hts _ k.2.2.1, hts _ k.2.1, ⟨k.2.2.2.1, k.2.2.2.2.1⟩, hpar, hts _ h⟩, hts _ k2.1, hts _ k2.2⟩ ⟨hv_blind, hrec, hp⟩ rfl hna hsz hst (by show 2 * 0 + _ ≤ 8; omega) hdg hf
  · exact va_runVN (C := y.cls) ⟨hx, hb, hml, hown, hts⟩ hM ⟨⟨⟨rfl, rfl, hd, hlo, hpay, List.mem_cons_self⟩, hts _ k.2.2.1, hts _ k.2.1, ⟨k.2.2.2.1, k.2.2.2.2.1⟩, hpar, va_Nw.use rfl (hE.2.1 _ h)⟩, hts _ k2.1, hts _ k2.2⟩ ⟨hv_blind, hrec, hp⟩ rfl hna hsz hst (by show 2 * 0 + _ ≤ 8; omega) hdg hf
theorem hv_runS {Qc : Array Value → State → Outcome → State → Prop} {c2 s2 : Nat} (C0 : hv_C X p s m args c cc nL own) (w : hv_w X s V H locs) (k : hv_L own idx y b n ret na) (k2 : Cond.static y ∈ hv_g) (hM : Met l y (Cond.code y b n ret :: hv_g) (hv_rm d2 c2 s2) (hv_Pre X V As) Qc c2 s2 X.2.2.1)
    (hd : d2 + 1 ≤ d) (hn : n ≤ 21) (hna : As.length = na) (hsz : ls.size = nL) (hst : st = As.reverse ++ rest) (hW : (rest.map fun v => v.category).sum ≤ 8) (hdg : decode cc pc = .ok (.invokestatic idx, 3)) (hf : cells + c2 ≤ mc ∧ slots + s2 ≤ ms) :
    va_Run p l e (hv_rm d mc ms) s m args below meth c H locs cells slots c2 s2 (F0 m pc ls st) rest (Qc As.toArray) X.2.2.1 := by
  have hp := hv_pre C0 w As
  have hpay := hv_pay C0 k
  obtain ⟨hx, hb, hml, hown, hts, hE⟩ := C0
  have hpar : ∀ sig, parseMethodDescriptor y.desc = some sig → na = sig.parameters.length := fun sig h => by
    have h2 := k.2.2.2.2.2
    rw [h] at h2
    exact (Option.some.inj h2).symm
  have hlo : 8 + (n + 11) + 40 * d2 ≤ 40 * d := by omega
  rcases k.1 with h | ⟨host, h⟩
  · exact va_runS ⟨hx, hb, hml, hown, hts⟩ hM ⟨⟨rfl, rfl, hd, hlo, hpay, List.mem_cons_self, hts _ k.2.2.1, hts _ k.2.1, ⟨k.2.2.2.1, k.2.2.2.2.1⟩, hpar, hts _ h⟩, hts _ k2⟩ ⟨hv_blind, hp⟩ rfl hna hsz hst (by show 2 * 0 + _ ≤ 8; omega) hdg hf
  · exact va_runSN ⟨hx, hb, hml, hown, hts⟩ hM ⟨⟨⟨rfl, rfl, hd, hlo, hpay, List.mem_cons_self⟩, hts _ k.2.2.1, hts _ k.2.1, ⟨k.2.2.2.1, k.2.2.2.2.1⟩, hpar, va_Nw.use rfl (hE.2.1 _ h)⟩, hts _ k2, trivial⟩ ⟨hv_blind, hp⟩ rfl hna hsz hst (by show 2 * 0 + _ ≤ 8; omega) hdg hf
theorem hv_runI {Qc : Array Value → State → Outcome → State → Prop} {c2 s2 : Nat} (C0 : hv_C X p s m args c cc nL own) (w : hv_w X s V H locs) (k : hv_L own idx y b n none na) (k2 : y.name = "<init>" ∧ Cond.instanceMethod y ∈ hv_g) (hM : Met l y (Cond.code y b n none :: hv_g) (hv_rm d2 c2 s2) (hv_Pre X V (.ref a :: As)) Qc c2 s2 X.2.2.1)
    (hd : d2 + 1 ≤ d) (hn : n ≤ 21) (hna : As.length = na) (hsz : ls.size = nL) (hst : st = As.reverse ++ .ref a :: rest) (hW : (rest.map fun v => v.category).sum ≤ 8) (hdg : decode cc pc = .ok (.invokespecial idx, 3)) (hf : cells + c2 ≤ mc ∧ slots + s2 ≤ ms) :
    va_Run p l e (hv_rm d mc ms) s m args below meth c H locs cells slots c2 s2 (F0 m pc ls st) rest (Qc (Value.ref a :: As).toArray) X.2.2.1 := by
  have hp := hv_pre C0 w (.ref a :: As)
  have hpay := hv_pay C0 k
  obtain ⟨hx, hb, hml, hown, hts, hE⟩ := C0
  have hpar : ∀ sig, parseMethodDescriptor y.desc = some sig → na = sig.parameters.length := fun sig h => by
    have h2 := k.2.2.2.2.2
    rw [h] at h2
    exact (Option.some.inj h2).symm
  have hlo : 8 + (n + 11) + 40 * d2 ≤ 40 * d := by omega
  rcases k.1 with h | ⟨host, h⟩
  · exact va_runI ⟨hx, hb, hml, hown, hts⟩ hM ⟨⟨rfl, rfl, hd, hlo, hpay, List.mem_cons_self, hts _ k.2.2.1, hts _ k.2.1, ⟨k.2.2.2.1, k.2.2.2.2.1⟩, hpar, hts _ h⟩, k2.1, hts _ k2.2⟩ ⟨hv_blind, hp⟩ rfl hna hsz hst (by show 2 * 0 + _ ≤ 8; omega) hdg hf
  · exact va_runIN ⟨hx, hb, hml, hown, hts⟩ hM ⟨⟨⟨rfl, rfl, hd, hlo, hpay, List.mem_cons_self⟩, hts _ k.2.2.1, hts _ k.2.1, ⟨k.2.2.2.1, k.2.2.2.2.1⟩, hpar, va_Nw.use rfl (hE.2.1 _ h)⟩, k2.1, hts _ k2.2⟩ ⟨hv_blind, hp⟩ rfl hna hsz hst (by show 2 * 0 + _ ≤ 8; omega) hdg hf
variable {r : FieldType} {pi : Int32 → hv_V → Prop} {pl : Int64 → hv_V → Prop} {pv : hv_V → Prop} {pr : Nat → hv_V → Prop} {ci N : Nat} {T : u_T} {fs : List Value}
theorem hv_cVi (C0 : hv_C X p s m args c cc nL own) (w : hv_w X s V H locs) (k : hv_L own idx y b n (some r) na) (k2 : Cond.instanceMethod y ∈ hv_g ∧ Cond.selects y.cls y y ∈ hv_g) (hc : vwCl[ci]? = some (y.cls, T, N)) (hV : V a = some (.inr (ci, fs))) (hM : hv_Mi l X d2 y b n r V (.ref a :: As) pi) (hd : d2 + 1 ≤ d) (hn : n ≤ 21) (hna : As.length = na) (hsz : ls.size = nL) (hst : st = As.reverse ++ .ref a :: rest) (hW : (rest.map fun v => v.category).sum ≤ 8) (hdg : decode cc pc = .ok (.invokevirtual idx, 3)) (hf : cells ≤ mc ∧ slots ≤ ms)
    (kk : ∀ (x : Int32) (V1 : hv_V) (H1 : Heap) (locs1 : List Loc), pi x V1 → hv_w X s V1 H1 locs1 → W p l e (hv_rm d mc ms) s m args below meth c H1 locs1 cells slots Q (F0 m (pc + 3) ls (.int x :: rest))) : W p l e (hv_rm d mc ms) s m args below meth c H locs cells slots Q (F0 m pc ls st) :=
  va_calli (hv_runV C0 w k k2 hc hV hM hd hn hna hsz hst hW hdg hf) w.2 (fun _ _ h => h) (fun _ h => h) (fun x u t H1 locs1 ht _ hp hB _ _ hS1 => kk x u H1 locs1 hp ⟨by rw [← ht]; exact hB, hS1⟩)
theorem hv_cVl (C0 : hv_C X p s m args c cc nL own) (w : hv_w X s V H locs) (k : hv_L own idx y b n (some .long) na) (k2 : Cond.instanceMethod y ∈ hv_g ∧ Cond.selects y.cls y y ∈ hv_g) (hc : vwCl[ci]? = some (y.cls, T, N)) (hV : V a = some (.inr (ci, fs))) (hM : hv_Ml l X d2 y b n V (.ref a :: As) pl) (hd : d2 + 1 ≤ d) (hn : n ≤ 21) (hna : As.length = na) (hsz : ls.size = nL) (hst : st = As.reverse ++ .ref a :: rest) (hW : (rest.map fun v => v.category).sum ≤ 8) (hdg : decode cc pc = .ok (.invokevirtual idx, 3)) (hf : cells ≤ mc ∧ slots ≤ ms)
    (kk : ∀ (x : Int64) (V1 : hv_V) (H1 : Heap) (locs1 : List Loc), pl x V1 → hv_w X s V1 H1 locs1 → W p l e (hv_rm d mc ms) s m args below meth c H1 locs1 cells slots Q (F0 m (pc + 3) ls (.long x :: rest))) : W p l e (hv_rm d mc ms) s m args below meth c H locs cells slots Q (F0 m pc ls st) :=
  va_calll (hv_runV C0 w k k2 hc hV hM hd hn hna hsz hst hW hdg hf) w.2 (fun _ _ h => h) (fun _ h => h) (fun x u t H1 locs1 ht _ hp hB _ _ hS1 => kk x u H1 locs1 hp ⟨by rw [← ht]; exact hB, hS1⟩)
theorem hv_cVv (C0 : hv_C X p s m args c cc nL own) (w : hv_w X s V H locs) (k : hv_L own idx y b n none na) (k2 : Cond.instanceMethod y ∈ hv_g ∧ Cond.selects y.cls y y ∈ hv_g) (hc : vwCl[ci]? = some (y.cls, T, N)) (hV : V a = some (.inr (ci, fs))) (hM : hv_Mv l X d2 y b n V (.ref a :: As) pv) (hd : d2 + 1 ≤ d) (hn : n ≤ 21) (hna : As.length = na) (hsz : ls.size = nL) (hst : st = As.reverse ++ .ref a :: rest) (hW : (rest.map fun v => v.category).sum ≤ 8) (hdg : decode cc pc = .ok (.invokevirtual idx, 3)) (hf : cells ≤ mc ∧ slots ≤ ms)
    (kk : ∀ (V1 : hv_V) (H1 : Heap) (locs1 : List Loc), pv V1 → hv_w X s V1 H1 locs1 → W p l e (hv_rm d mc ms) s m args below meth c H1 locs1 cells slots Q (F0 m (pc + 3) ls rest)) : W p l e (hv_rm d mc ms) s m args below meth c H locs cells slots Q (F0 m pc ls st) :=
  va_callv (hv_runV C0 w k k2 hc hV hM hd hn hna hsz hst hW hdg hf) w.2 (fun _ _ h => h) (fun _ h => h) (fun u t H1 locs1 ht _ hp hB _ _ hS1 => kk u H1 locs1 hp ⟨by rw [← ht]; exact hB, hS1⟩)
theorem hv_cVr (C0 : hv_C X p s m args c cc nL own) (w : hv_w X s V H locs) (k : hv_L own idx y b n (some r) na) (k2 : Cond.instanceMethod y ∈ hv_g ∧ Cond.selects y.cls y y ∈ hv_g) (hc : vwCl[ci]? = some (y.cls, T, N)) (hV : V a = some (.inr (ci, fs))) (hM : hv_Mr l X d2 y b n r V (.ref a :: As) pr) (hd : d2 + 1 ≤ d) (hn : n ≤ 21) (hna : As.length = na) (hsz : ls.size = nL) (hst : st = As.reverse ++ .ref a :: rest) (hW : (rest.map fun v => v.category).sum ≤ 8) (hdg : decode cc pc = .ok (.invokevirtual idx, 3)) (hf : cells ≤ mc ∧ slots ≤ ms)
    (kk : ∀ (x : Nat) (V1 : hv_V) (H1 : Heap) (locs1 : List Loc), pr x V1 → hv_w X s V1 H1 locs1 → W p l e (hv_rm d mc ms) s m args below meth c H1 locs1 cells slots Q (F0 m (pc + 3) ls (.ref x :: rest))) : W p l e (hv_rm d mc ms) s m args below meth c H locs cells slots Q (F0 m pc ls st) :=
  va_callr (hv_runV C0 w k k2 hc hV hM hd hn hna hsz hst hW hdg hf) w.2 (fun _ _ h => h) (fun _ h => h) (fun u x t H1 locs1 ht _ _ hB _ _ hS1 => kk x u H1 locs1 hB.2 ⟨by rw [← ht]; exact hB.1, hS1⟩)
theorem hv_cSi (C0 : hv_C X p s m args c cc nL own) (w : hv_w X s V H locs) (k : hv_L own idx y b n (some r) na) (k2 : Cond.static y ∈ hv_g) (hM : hv_Mi l X d2 y b n r V As pi) (hd : d2 + 1 ≤ d) (hn : n ≤ 21) (hna : As.length = na) (hsz : ls.size = nL) (hst : st = As.reverse ++ rest) (hW : (rest.map fun v => v.category).sum ≤ 8) (hdg : decode cc pc = .ok (.invokestatic idx, 3)) (hf : cells ≤ mc ∧ slots ≤ ms)
    (kk : ∀ (x : Int32) (V1 : hv_V) (H1 : Heap) (locs1 : List Loc), pi x V1 → hv_w X s V1 H1 locs1 → W p l e (hv_rm d mc ms) s m args below meth c H1 locs1 cells slots Q (F0 m (pc + 3) ls (.int x :: rest))) : W p l e (hv_rm d mc ms) s m args below meth c H locs cells slots Q (F0 m pc ls st) :=
  va_calli (hv_runS C0 w k k2 hM hd hn hna hsz hst hW hdg hf) w.2 (fun _ _ h => h) (fun _ h => h) (fun x u t H1 locs1 ht _ hp hB _ _ hS1 => kk x u H1 locs1 hp ⟨by rw [← ht]; exact hB, hS1⟩)
theorem hv_cSl (C0 : hv_C X p s m args c cc nL own) (w : hv_w X s V H locs) (k : hv_L own idx y b n (some .long) na) (k2 : Cond.static y ∈ hv_g) (hM : hv_Ml l X d2 y b n V As pl) (hd : d2 + 1 ≤ d) (hn : n ≤ 21) (hna : As.length = na) (hsz : ls.size = nL) (hst : st = As.reverse ++ rest) (hW : (rest.map fun v => v.category).sum ≤ 8) (hdg : decode cc pc = .ok (.invokestatic idx, 3)) (hf : cells ≤ mc ∧ slots ≤ ms)
    (kk : ∀ (x : Int64) (V1 : hv_V) (H1 : Heap) (locs1 : List Loc), pl x V1 → hv_w X s V1 H1 locs1 → W p l e (hv_rm d mc ms) s m args below meth c H1 locs1 cells slots Q (F0 m (pc + 3) ls (.long x :: rest))) : W p l e (hv_rm d mc ms) s m args below meth c H locs cells slots Q (F0 m pc ls st) :=
  va_calll (hv_runS C0 w k k2 hM hd hn hna hsz hst hW hdg hf) w.2 (fun _ _ h => h) (fun _ h => h) (fun x u t H1 locs1 ht _ hp hB _ _ hS1 => kk x u H1 locs1 hp ⟨by rw [← ht]; exact hB, hS1⟩)
theorem hv_cSr (C0 : hv_C X p s m args c cc nL own) (w : hv_w X s V H locs) (k : hv_L own idx y b n (some r) na) (k2 : Cond.static y ∈ hv_g) (hM : hv_Mr l X d2 y b n r V As pr) (hd : d2 + 1 ≤ d) (hn : n ≤ 21) (hna : As.length = na) (hsz : ls.size = nL) (hst : st = As.reverse ++ rest) (hW : (rest.map fun v => v.category).sum ≤ 8) (hdg : decode cc pc = .ok (.invokestatic idx, 3)) (hf : cells ≤ mc ∧ slots ≤ ms)
    (kk : ∀ (x : Nat) (V1 : hv_V) (H1 : Heap) (locs1 : List Loc), pr x V1 → hv_w X s V1 H1 locs1 → W p l e (hv_rm d mc ms) s m args below meth c H1 locs1 cells slots Q (F0 m (pc + 3) ls (.ref x :: rest))) : W p l e (hv_rm d mc ms) s m args below meth c H locs cells slots Q (F0 m pc ls st) :=
  va_callr (hv_runS C0 w k k2 hM hd hn hna hsz hst hW hdg hf) w.2 (fun _ _ h => h) (fun _ h => h) (fun u x t H1 locs1 ht _ _ hB _ _ hS1 => kk x u H1 locs1 hB.2 ⟨by rw [← ht]; exact hB.1, hS1⟩)
/-- ends -/
theorem hv_iret {R : Room} (C0 : hv_C X p s m args c cc nL own) (w : hv_w X s V H locs) (hr : meth.sig.returnType = some .int) (hlk : meth.locks = false) {v : Int32} (hp : pi v V) (hdg : decode cc pc = .ok (.ireturn, 1)) : W p l e R s m args below meth c H locs cells slots (MQ below (hv_Qi X pi) args s cells slots X.2.2.1) (F0 m pc ls [.int v]) :=
  W.iret C0.1 C0.2.1 hr (fun t ht _ => ⟨⟨v, V, rfl, hp, show hv_ok X V t.heap by rw [ht]; exact w.1⟩, w.2.F ht⟩) w.2.2.2 hdg hlk
theorem hv_zret {R : Room} {ty : FieldType} (C0 : hv_C X p s m args c cc nL own) (w : hv_w X s V H locs) (hr : meth.sig.returnType = some ty) (hlk : meth.locks = false) {v : Int32} (hn : narrow ty (.int v) = .int v) (hp : pi v V) (hdg : decode cc pc = .ok (.ireturn, 1)) : W p l e R s m args below meth c H locs cells slots (MQ below (hv_Qi X pi) args s cells slots X.2.2.1) (F0 m pc ls [.int v]) :=
  W.zret C0.1 C0.2.1 hr hn (fun t ht _ => ⟨⟨v, V, rfl, hp, show hv_ok X V t.heap by rw [ht]; exact w.1⟩, w.2.F ht⟩) w.2.2.2 hdg hlk
theorem hv_lret {R : Room} (C0 : hv_C X p s m args c cc nL own) (w : hv_w X s V H locs) (hr : meth.sig.returnType = some .long) (hlk : meth.locks = false) {v : Int64} (hp : pl v V) (hdg : decode cc pc = .ok (.lreturn, 1)) : W p l e R s m args below meth c H locs cells slots (MQ below (hv_Ql X pl) args s cells slots X.2.2.1) (F0 m pc ls [.long v]) :=
  W.lret C0.1 C0.2.1 hr (fun t ht _ => ⟨⟨v, V, rfl, hp, show hv_ok X V t.heap by rw [ht]; exact w.1⟩, w.2.F ht⟩) w.2.2.2 hdg hlk
theorem hv_vret {R : Room} (C0 : hv_C X p s m args c cc nL own) (w : hv_w X s V H locs) (hr : meth.sig.returnType = none) (hlk : meth.locks = false) (hp : pv V) (hdg : decode cc pc = .ok (.return_, 1)) : W p l e R s m args below meth c H locs cells slots (MQ below (hv_Qv X pv) args s cells slots X.2.2.1) (F0 m pc ls []) :=
  W.vret C0.1 C0.2.1 hr (fun t ht _ => ⟨⟨V, rfl, hp, show hv_ok X V t.heap by rw [ht]; exact w.1⟩, w.2.F ht⟩) w.2.2.2 hdg hlk
end HV3
