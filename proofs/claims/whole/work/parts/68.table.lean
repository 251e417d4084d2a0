/-! A TABLE OF ROWS: multianewarray with two counts -/
/-- the rows laid so far: refs to the cells behind h -/
def hw_f (h i : Nat) : Nat → Value := fun j => if j < i then .ref (h + 1 + j) else .null
theorem hw_fs (h i : Nat) : updV (hw_f h i) i (.ref (h + 1 + i)) = hw_f h (i + 1) := by
  funext j
  unfold updV hw_f
  by_cases q : j = i
  · rw [if_pos q, if_pos (by omega), q]
  · rw [if_neg q]
    by_cases q2 : j < i
    · rw [if_pos q2, if_pos (by omega)]
    · rw [if_neg q2, if_neg (by omega)]
/-- the state with i rows laid -/
def hw_T (T : State) (cA cB : ClassId) (N K : Nat) (v : Value) : Nat → State
  | 0 => T.pushCell (arrV cA N (hw_f T.heap.size 0))
  | i + 1 => ((hw_T T cA cB N K v i).pushCell (arrV cB K (fun _ => v))).setCell T.heap.size ((arrV cA N (hw_f T.heap.size i)).setSlot i (.ref (T.heap.size + 1 + i)))
theorem hw_top (T : State) (g : JFrame) (cA cB : ClassId) (N K : Nat) (v : Value) : ∀ i, hw_T (T.setTop g) cA cB N K v i = (hw_T T cA cB N K v i).setTop g
  | 0 => rfl
  | i + 1 => by
    rw [hw_T, hw_top T g cA cB N K v i, hw_T, State.pushCell_setTop, State.setCell_setTop, State.heap_setTop]
/-- what the heap holds then -/
theorem hw_heap (T : State) (cA cB : ClassId) (N K : Nat) (v : Value) : ∀ i, (hw_T T cA cB N K v i).vm = T.vm ∧ (hw_T T cA cB N K v i).heap.size = T.heap.size + 1 + i ∧ (hw_T T cA cB N K v i).heap[T.heap.size]? = some (arrV cA N (hw_f T.heap.size i)) ∧ (∀ j, j < i → (hw_T T cA cB N K v i).heap[T.heap.size + 1 + j]? = some (arrV cB K (fun _ => v))) ∧ ∀ q, q < T.heap.size → (hw_T T cA cB N K v i).heap[q]? = T.heap[q]?
  | 0 => ⟨rfl, by simp [hw_T], State.heap_pushCell_size _ _, fun j hj => absurd hj (Nat.not_lt_zero j), fun q hq => State.heap_pushCell_of_lt _ _ hq⟩
  | i + 1 => by
    obtain ⟨h1, h2, h3, h4, h5⟩ := hw_heap T cA cB N K v i
    have k1 : ∀ q, q < T.heap.size + 1 + i → ((hw_T T cA cB N K v i).pushCell (arrV cB K (fun _ => v))).heap[q]? = (hw_T T cA cB N K v i).heap[q]? := fun q hq => State.heap_pushCell_of_lt _ _ (by rw [h2]; exact hq)
    refine ⟨h1, ?_, ?_, fun j hj => ?_, fun q hq => ?_⟩
    · simp [hw_T, State.setCell, h2]; omega
    · rw [← hw_fs, ← arrV_store]
      exact State.heap_setCell_self ((k1 _ (by omega)).trans h3)
    · rw [hw_T, State.heap_setCell_other (show T.heap.size ≠ T.heap.size + 1 + j by omega)]
      by_cases q : j = i
      · rw [q, ← h2]; exact State.heap_pushCell_size _ _
      · rw [k1 _ (by omega)]; exact h4 j (by omega)
    · rw [hw_T, State.heap_setCell_other (show T.heap.size ≠ q by omega), k1 _ (by omega)]; exact h5 q hq
section HW1
variable {p : Program} {l : Launch} {e : Env} {R : Room} {s : State} {m : MethodId} {args : Array Value} {below : List Frame} {meth : Method} {c : Code} {locs : List Loc} {cells slots : Nat} {T : State}
/-- and the machine stands there -/
theorem hw_stand (X : Stand p l e R s m args below meth c T locs cells slots) (hs : s.heap.size ≤ T.heap.size) (cA cB : ClassId) (N K : Nat) (v : Value) : ∀ i, Stand p l e R s m args below meth c (hw_T T cA cB N K v i) locs (cells + 1 + i) (slots + (N + i * K))
  | 0 => by
    have h := X.pushed (arrV cA N (hw_f T.heap.size 0))
    rw [arrV_size] at h
    rw [Nat.zero_mul, Nat.add_zero, Nat.add_zero]
    exact h
  | i + 1 => by
    have Xi := hw_stand X hs cA cB N K v i
    obtain ⟨-, h2, h3, -, -⟩ := hw_heap T cA cB N K v i
    have h := Xi.pushed (arrV cB K (fun _ => v))
    rw [arrV_size] at h
    have h9 := (h.stored (a := T.heap.size) (cell := arrV cA N (hw_f T.heap.size i)) (by rw [State.heap_pushCell_of_lt _ _ (show T.heap.size < (hw_T T cA cB N K v i).heap.size by omega)]; exact h3) i (.ref (T.heap.size + 1 + i))).forget (fun y hy => by rw [List.mem_singleton.mp hy]; exact hs)
    rw [show slots + (N + (i + 1) * K) = slots + (N + i * K) + K by rw [Nat.succ_mul]; omega]
    exact h9
end HW1
section HW2
variable {E : CtlPost} {e : Env} {d : Bool} {acts : List Action} {s : State}
theorem hw_one {cC cD : ClassId} {k : Class} {ty : FieldType} {n : Nat} {v : Value} (hk : s.vm.classes[cC]? = some k) (hkd : k.kind = .array cD ty) (h1 : n ≤ e.platform.arrayLengthLimit) (h2 : n * componentBytes ty ≤ e.platform.maxHeapBytes) (hf : fits ty v = true) (h3 : s.heap.size < e.platform.maxCells) (h4 : s.slotsUsed + n ≤ e.platform.maxSlots) {Q : Addr → Pre} (hq : ∀ acts', Q s.heap.size d acts' (s.pushCell (arrV cC n (fun _ => v)))) : wp (Jvm.newArray cC n v) Q E e d acts s := by
  have g1 : ¬ n > e.platform.arrayLengthLimit := Nat.not_lt.mpr h1
  have g2 : ¬ n * componentBytes ty > e.platform.maxHeapBytes := Nat.not_lt.mpr h2
  have g3 : ¬ n > e.platform.maxSlots := by omega
  have hin : ∀ (i : Nat) (x : Value), (Array.replicate n v)[i]? = some x → s.fitsSlot cC .none i x = true := fun i x hx => by
    rw [Array.getElem?_replicate] at hx
    by_cases hi : i < n
    · rw [if_pos hi] at hx; cases hx; simp [State.fitsSlot, State.slotType?, hk, hkd, hf]
    · rw [if_neg hi] at hx; cases hx
  simp only [← arrV_new] at hq
  simp only [Jvm.newArray, Jvm.arrayFits, wp_bind', W.ask, W.ite, W.theClass, W.alloc, W.stop, wp_pure', hk, hkd, g1, g2, g3, if_false, Option.some.injEq, exists_eq_left', Array.size_replicate]
  exact ⟨h3, h4, hin, hq _⟩
theorem hw_null {t : FieldType} (h : t.isReference = true) : fits t .null = true ∧ ∀ a : Addr, fits t (.ref a) = true := by
  cases t <;> first | (simp [FieldType.isReference] at h; done) | exact ⟨rfl, fun _ => rfl⟩
theorem hw_make {cA cB cD : ClassId} {kA kB : Class} {tA ty : FieldType} {n k : Int32} {N K : Nat} (hA : s.vm.classes[cA]? = some kA) (hAd : kA.kind = .array cB tA) (hr : tA.isReference = true) (hB : s.vm.classes[cB]? = some kB) (hBd : kB.kind = .array cD ty) (hn : ¬ n < 0) (hk : ¬ k < 0) (hN : n.toNatClampNeg = N) (hK : k.toNatClampNeg = K)
    (h1 : N ≤ e.platform.arrayLengthLimit) (h2 : N * componentBytes tA ≤ e.platform.maxHeapBytes) (h3 : K ≤ e.platform.arrayLengthLimit) (h4 : K * componentBytes ty ≤ e.platform.maxHeapBytes) (hf : fits ty (defaultValue ty) = true)
    (h5 : s.heap.size + 1 + N ≤ e.platform.maxCells) (h6 : s.slotsUsed + (N + N * K) ≤ e.platform.maxSlots) (hu : ∀ i, (hw_T s cA cB N K (defaultValue ty) i).slotsUsed = s.slotsUsed + (N + i * K))
    {Q : Addr → Pre} (hq : ∀ d' acts', Q s.heap.size d' acts' (hw_T s cA cB N K (defaultValue ty) N)) : wp (multianewarray.make cA [n, k]) Q E e d acts s := by
  have hz := (hw_null hr).1
  rw [multianewarray.make]
  simp only [wp_bind', W.ite, hn, if_false, wp_pure', W.theClass, hA, hAd, Option.some.injEq, exists_eq_left', hN]
  refine hw_one hA hAd h1 h2 hz (by omega) (by omega) (fun acts1 => ?_)
  have hno : ([k].find? (· < 0)) = none := by simp [hk]
  simp only [hno]
  rw [ite_self, wp_bind', Std.Legacy.Range.forIn_eq_forIn_range', show ([:N] : Std.Legacy.Range).size = N by simp [Std.Legacy.Range.size]]
  refine wp_forIn_inv (fun rest t => ∃ i, i ≤ N ∧ rest = List.range' i (N - i) ∧ t = hw_T s cA cB N K (defaultValue ty) i) _ _ ⟨0, Nat.zero_le _, rfl, by rw [hw_T]; congr 2⟩ ?_ ?_
  · intro x rest t d1 acts2 Q1 hI hgo
    obtain ⟨i, hi, hl, rfl⟩ := hI
    have hlt : i < N := by
      rcases Nat.lt_or_ge i N with q | q
      · exact q
      · rw [show N - i = 0 by omega] at hl; cases hl
    rw [show N - i = N - (i + 1) + 1 by omega, List.range'_succ] at hl
    obtain ⟨rfl, hl2⟩ := List.cons.inj hl
    obtain ⟨f1, f2, f3, -, -⟩ := hw_heap s cA cB N K (defaultValue ty) x
    have hm : x * K + K ≤ N * K := by rw [← Nat.succ_mul]; exact Nat.mul_le_mul_right K hlt
    simp only [wp_bind']
    rw [multianewarray.make]
    simp only [wp_bind', W.ite, hk, if_false, wp_pure', W.theClass, f1, hB, hBd, Option.some.injEq, exists_eq_left', hK]
    refine hw_one (by rw [f1]; exact hB) hBd h3 h4 hf (by rw [f2]; omega) (by rw [hu]; omega) (fun acts3 => ?_)
    simp only [wp_bind', W.writeLoc, wp_pure']
    refine ⟨arrV cA N (hw_f s.heap.size x), by rw [State.heap_pushCell_of_lt _ _ (show s.heap.size < (hw_T s cA cB N K (defaultValue ty) x).heap.size by omega)]; exact f3, by simp [arrV], by rw [arrV_size]; exact hlt, ?_, hgo _ _ _ ⟨x + 1, hlt, hl2, by rw [hw_T, f2]⟩⟩
    show State.fitsSlot _ cA .none x _ = true
    simp [State.fitsSlot, State.slotType?, f1, hA, hAd, (hw_null hr).2]
  · intro t d1 acts2 hI
    obtain ⟨i, hi, hl, rfl⟩ := hI
    have he : i = N := by
      rcases Nat.lt_or_ge i N with q | q
      · rw [show N - i = N - (i + 1) + 1 by omega, List.range'_succ] at hl; cases hl
      · omega
    rw [he]
    simp only [wp_pure']
    exact hq _ _
end HW2
theorem hw_used (T : State) (cA cB : ClassId) (N K : Nat) (v : Value) : ∀ i, (hw_T T cA cB N K v i).slotsUsed = T.slotsUsed + (N + i * K)
  | 0 => by rw [hw_T, State.slotsUsed_pushCell, arrV_size, Nat.zero_mul, Nat.add_zero]
  | i + 1 => by rw [hw_T, State.slotsUsed_setCell, State.slotsUsed_pushCell, arrV_size, hw_used T cA cB N K v i, Nat.succ_mul]; omega
/-- classes over classes, that the tables' words of a state don't keep -/
def hw_AR (ty : FieldType) (U : State) : Prop := ∃ (cB cA : ClassId) (kA : Class), U.vm.findClass (FieldType.array ty).toString = some cB ∧ U.vm.classes[cA]? = some kA ∧ kA.kind = .array cB (.array ty) ∧ U.vm.findClass ("[" ++ (FieldType.array ty).toString) = some cA
theorem hw_AR.of {args : Array Value} {U : State} {ty : FieldType} (h : (Cond.arrayOver (.array ty)).before args U = true) : hw_AR ty U := by
  obtain ⟨cB, cA, kA, h1, -, h2, h3, h4⟩ := arrayOverA_spec h
  exact ⟨cB, cA, kA, h1, h2, h3, h4⟩
theorem hw_AR.moved {u U : State} {ty : FieldType} (hvm : u.vm.Alike U.vm) (h : hw_AR ty u) : hw_AR ty U := by
  obtain ⟨cB, cA, kA, h1, h2, h3, h4⟩ := h
  obtain ⟨k2, hk2, he⟩ := hvm.2.2 _ _ h2
  exact ⟨cB, cA, k2, by rw [hvm.findClass]; exact h1, hk2, by rw [he]; exact h3, by rw [hvm.findClass]; exact h4⟩
section HW3
variable {p : Program} {l : Launch} {e : Env} {R : Room} {s : State} {m : MethodId} {args : Array Value} {below : List Frame} {meth : Method} {c : Code} {H : Heap} {locs : List Loc} {cells slots : Nat} {Q : State → Prop}
variable {cc : ByteArray} {pc : Nat} {ls : Array Slot} {rest : List Value}
theorem hw_multi (hexec : p.tables.exec = Jvm.exec) (hb : c.code = cc) {own : String} {index : Nat} {ty : FieldType} (hown : s.vm.findClass own = some m.cls) (hclink : (Cond.classLink own index ("[" ++ (FieldType.array ty).toString)).before args s = true) (hover : hw_AR ty s) (harr : (Cond.arrayClass ty).before args s = true)
    {n k : Int32} {N K : Nat} (hn : ¬ n < 0) (hk : ¬ k < 0) (hN : n.toNatClampNeg = N) (hK : k.toNatClampNeg = K) (hb1 : N * 4 ≤ 536870912) (hb2 : K * componentBytes ty ≤ 536870912) (hb3 : K ≤ 536870912) (hf : fits ty (defaultValue ty) = true) (hH : s.heap.size ≤ H.size) (hcells : cells + (1 + N) ≤ R.cells) (hslots : slots + (N + N * K) ≤ R.slots) (hdg : decode cc pc = .ok (.multianewarray index 2, 4))
    (kk : ∀ (H1 : Heap) (cA cB : ClassId), s.vm.findClass ("[" ++ (FieldType.array ty).toString) = some cA → s.vm.findClass (FieldType.array ty).toString = some cB → H1.size = H.size + 1 + N → H1[H.size]? = some (arrV cA N (hw_f H.size N)) → (∀ j, j < N → H1[H.size + 1 + j]? = some (arrV cB K (fun _ => defaultValue ty))) → (∀ q, q < H.size → H1[q]? = H[q]?) →
      W p l e R s m args below meth c H1 locs (cells + 1 + N) (slots + (N + N * K)) Q (F0 m (pc + 4) ls (.ref H.size :: rest))) : W p l e R s m args below meth c H locs cells slots Q (F0 m pc ls (.int k :: .int n :: rest)) := by
  intro T hT X
  subst hT; subst hb
  have hpl : e.platform.magicAccessors = ({} : Platform).magicAccessors := by rw [X.admits.platform]
  obtain ⟨cB, cA, kA, hnB, hkA, hdA, hnA⟩ := hover
  obtain ⟨cB', kB, cD, hnB', hkB, hdB⟩ := Cond.arrayClass_spec harr
  obtain rfl : cB' = cB := Option.some.inj (hnB'.symm.trans hnB)
  obtain ⟨c0, hc0, hcl⟩ := Cond.classLink_spec hown hclink e.platform hpl
  obtain rfl : cA = c0 := Option.some.inj (hnA.symm.trans hc0)
  obtain ⟨hg1, hwarm, -⟩ := State.classEntry (e := e) X.warmed hcl
  generalize T.vm.noted m.cls index (.cls cA) = vm1 at hg1 hwarm
  have hal : s.vm.Alike vm1 := hwarm.alike
  obtain ⟨kA1, hkA1, eA⟩ := hal.2.2 _ _ hkA
  obtain ⟨kB1, hkB1, eB⟩ := hal.2.2 _ _ hkB
  have X1 := X.noted hwarm
  have XN := hw_stand X1 (show s.heap.size ≤ (T.setVm vm1).heap.size from hH) cA cB' N K (defaultValue ty) N
  obtain ⟨-, f2, f3, f4, f5⟩ := hw_heap (T.setVm vm1) cA cB' N K (defaultValue ty) N
  obtain ⟨t, st, hQ⟩ := kk _ cA cB' hnA hnB f2 f3 f4 f5 (hw_T (T.setVm vm1) cA cB' N K (defaultValue ty) N) rfl XN
  refine ⟨t, ?_, hQ⟩
  obtain ⟨r1, r2⟩ := X.roomAbove hcells hslots
  jvm_step X.here [hexec, hdg]
  simp only [multianewarray.sem, wp_bind', W.resolveClassAt_links (State.method?_setTop (F0 m pc ls (.int k :: .int n :: rest)) X.here.top) hg1]
  rw [W.popN, if_neg (by decide)]
  refine ⟨_, State.topJava?_setTop' (s := T.setVm vm1) _ X.here.top, [.int n, .int k], rest, rfl, rfl, ?_⟩
  simp only [List.mapM_cons, List.mapM_nil, wp_bind', wp_pure']
  rw [show ((T.setTop (F0 m pc ls (.int k :: .int n :: rest))).setVm vm1).setTop { F0 m pc ls (.int k :: .int n :: rest) with stack := rest } = (T.setVm vm1).setTop { F0 m pc ls (.int k :: .int n :: rest) with stack := rest } from State.setTop_setTop (s := T.setVm vm1) ..]
  generalize hgg : ({ F0 m pc ls (.int k :: .int n :: rest) with stack := rest } : JFrame) = gg
  have hA9 : ((T.setVm vm1).setTop gg).vm.classes[cA]? = some kA1 := hkA1
  have hB9 : ((T.setVm vm1).setTop gg).vm.classes[cB']? = some kB1 := hkB1
  refine hw_make (N := N) (K := K) (s := (T.setVm vm1).setTop gg) (tA := .array ty) (ty := ty) hA9 (by rw [eA]; exact hdA) rfl hB9 (by rw [eB]; exact hdB) hn hk hN hK (by rw [Launch.admits_arrayLengthLimit X.admits]; omega) (by rw [Launch.admits_maxHeapBytes X.admits]; exact hb1) (by rw [Launch.admits_arrayLengthLimit X.admits]; omega) (by rw [Launch.admits_maxHeapBytes X.admits]; exact hb2) hf (by show T.heap.size + 1 + N ≤ _; omega) r2 (hw_used _ _ _ _ _ _) (fun d1 acts1 => ?_)
  rw [← hgg]
  rw [hw_top]
  simp only [wp_bind', W.mark, W.pushRef, State.topJava?_setTop' _ XN.here.top, Option.some.injEq, exists_eq_left', State.setTop_setTop, State.heap_setTop]
  intro acts2
  simp [jvm, XN.here.top]
  exact st
end HW3
