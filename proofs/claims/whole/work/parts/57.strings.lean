theorem kt_9 : Cond.fieldLink RJ0 9 "java/lang/String" "value" "[B" ∈ hv_g := hv_mem 1166 (by decide +kernel) (by decide +kernel)
theorem kt_15 : Cond.fieldLink RJ0 15 "java/lang/String" "coder" "B" ∈ hv_g := hv_mem 1167 (by decide +kernel) (by decide +kernel)
theorem kt_38 : Cond.fieldLink RJ0 38 "java/lang/String" "COMPACT_STRINGS" "Z" ∈ hv_g := hv_mem 458 (by decide +kernel) (by decide +kernel)
theorem kt_1053 : Cond.fieldLink RJ0 1053 "jdk/internal/util/Preconditions" "SIOOBE_FORMATTER" "Ljava/util/function/BiFunction;" ∈ hv_g := hv_mem 474 (by decide +kernel) (by decide +kernel)
section HV7
variable {p : Program} {l : Launch} {e : Env} {s : State} {m : MethodId} {args : Array Value} {below : List Frame} {meth : Method} {c : Code} {H : Heap} {locs : List Loc} {cells slots : Nat} {Q : State → Prop}
variable {cc : ByteArray} {pc nL d d2 mc ms n na idx : Nat} {ls : Array Slot} {rest st As : List Value} {X : hv_X} {V : hv_V} {own : String} {y : MethodName} {b : ByteArray} {r : FieldType} {pi : Int32 → hv_V → Prop} {R : Room}
/-- a virtual call of a text's own method -/
theorem hv_cTi {i : Nat} (C0 : hv_C X p s m args c cc nL own) (w : hv_w X s V H locs) (k : hv_L own idx y b n (some r) na) (k2 : Cond.instanceMethod y ∈ hv_g ∧ Cond.selects y.cls y y ∈ hv_g) (hcl : y.cls = "java/lang/String") (hi6 : i < 6) (hM : hv_Mi l X d2 y b n r V (.ref (X.2.2.2.1 i) :: As) pi) (hd : d2 + 1 ≤ d) (hn : n ≤ 21) (hna : As.length = na) (hsz : ls.size = nL) (hst : st = As.reverse ++ .ref (X.2.2.2.1 i) :: rest) (hW : (rest.map fun v => v.category).sum ≤ 8) (hdg : decode cc pc = .ok (.invokevirtual idx, 3)) (hf : cells ≤ mc ∧ slots ≤ ms)
    (kk : ∀ (x : Int32) (V1 : hv_V) (H1 : Heap) (locs1 : List Loc), pi x V1 → hv_w X s V1 H1 locs1 → W p l e (hv_rm d mc ms) s m args below meth c H1 locs1 cells slots Q (F0 m (pc + 3) ls (.int x :: rest))) : W p l e (hv_rm d mc ms) s m args below meth c H locs cells slots Q (F0 m pc ls st) := by
  have hp := hv_pre C0 w (.ref (X.2.2.2.1 i) :: As)
  have hpay := hv_pay C0 k
  have hw2 := w.2
  have hrec : ∃ cell : Cell, H[X.2.2.2.1 i]? = some cell ∧ cell.vm.isStatics = false ∧ s.vm.findClass y.cls = some cell.cls := by rw [hcl]; exact vk_recv C0.2.2.2.2.2.2.2.1 hi6 w.2
  obtain ⟨hx, hb, hml, hown, hts, hE⟩ := C0
  have hpar : ∀ sig, parseMethodDescriptor y.desc = some sig → na = sig.parameters.length := fun sig h => by
    have h2 := k.2.2.2.2.2
    rw [h] at h2
    exact (Option.some.inj h2).symm
  have hlo : 8 + (n + 11) + 40 * d2 ≤ 40 * d := by omega
  have hrun : va_Run p l e (hv_rm d mc ms) s m args below meth c H locs cells slots 0 0 (F0 m pc ls st) rest ((hv_Qi X pi) (Value.ref (X.2.2.2.1 i) :: As).toArray) X.2.2.1 := by
    rcases k.1 with h | ⟨host, h⟩
    · exact va_runV (C := y.cls) ⟨hx, hb, hml, hown, hts⟩ hM ⟨⟨rfl, rfl, hd, hlo, hpay, List.mem_cons_self, hts _ k.2.2.1, hts _ k.2.1, ⟨k.2.2.2.1, k.2.2.2.2.1⟩, hpar, hts _ h⟩, hts _ k2.1, hts _ k2.2⟩ ⟨hv_blind, hrec, hp⟩ rfl hna hsz hst (by show 2 * 0 + _ ≤ 8; omega) hdg hf
    · exact va_runVN (C := y.cls) ⟨hx, hb, hml, hown, hts⟩ hM ⟨⟨⟨rfl, rfl, hd, hlo, hpay, List.mem_cons_self⟩, hts _ k.2.2.1, hts _ k.2.1, ⟨k.2.2.2.1, k.2.2.2.2.1⟩, hpar, va_Nw.use rfl (hE.2.1 _ h)⟩, hts _ k2.1, hts _ k2.2⟩ ⟨hv_blind, hrec, hp⟩ rfl hna hsz hst (by show 2 * 0 + _ ≤ 8; omega) hdg hf
  exact va_calli hrun hw2 (fun _ _ h => h) (fun _ h => h) (fun x u t H1 locs1 ht _ hp hB _ _ hS1 => kk x u H1 locs1 hp ⟨by rw [← ht]; exact hB, hS1⟩)
theorem hv_coder {i : Nat} (C0 : hv_C X p s m args c cc nL RJ0) (w : hv_w X s V H locs) (hi6 : i < 6) (hdg : decode cc pc = .ok (.getfield 15, 3))
    (kk : W p l e R s m args below meth c H locs cells slots Q (F0 m (pc + 3) ls (.int 0 :: rest))) : W p l e R s m args below meth c H locs cells slots Q (F0 m pc ls (.ref (X.2.2.2.1 i) :: rest)) :=
  vk_getf C0.1 C0.2.1 (C0.2.2.2.2.2.2.2.1.1 i hi6).2.1 w.2 C0.2.2.2.1 (C0.2.2.2.2.1 _ kt_15) (fun _ h => h) hdg kk
theorem hv_value {i : Nat} (C0 : hv_C X p s m args c cc nL RJ0) (w : hv_w X s V H locs) (hi6 : i < 6) (hdg : decode cc pc = .ok (.getfield 9, 3))
    (kk : W p l e R s m args below meth c H locs cells slots Q (F0 m (pc + 3) ls (.ref (X.2.2.2.2 i) :: rest))) : W p l e R s m args below meth c H locs cells slots Q (F0 m pc ls (.ref (X.2.2.2.1 i) :: rest)) :=
  vk_getf C0.1 C0.2.1 (C0.2.2.2.2.2.2.2.1.1 i hi6).2.2.1 w.2 C0.2.2.2.1 (C0.2.2.2.2.1 _ kt_9) (fun _ h => h) hdg kk
theorem hv_compact (C0 : hv_C X p s m args c cc nL RJ0) (w : hv_w X s V H locs) (hdg : decode cc pc = .ok (.getstatic 38, 3))
    (kk : W p l e R s m args below meth c H locs cells slots Q (F0 m (pc + 3) ls (.int 1 :: rest))) : W p l e R s m args below meth c H locs cells slots Q (F0 m pc ls rest) :=
  va_gets C0.1 C0.2.1 C0.2.2.2.2.2.2.2.2.2.1 w.2 C0.2.2.2.1 (C0.2.2.2.2.1 _ kt_38) (fun _ h => h) hdg kk
theorem hv_sio (C0 : hv_C X p s m args c cc nL RJ0) (w : hv_w X s V H locs) (hdg : decode cc pc = .ok (.getstatic 1053, 3))
    (kk : ∀ v : Value, (v = .null ∨ ∃ t : Nat, v = .ref t) → W p l e R s m args below meth c H locs cells slots Q (F0 m (pc + 3) ls (v :: rest))) : W p l e R s m args below meth c H locs cells slots Q (F0 m pc ls rest) := by
  rcases C0.2.2.2.2.2.2.2.2.2.2 with h | ⟨t, h⟩
  · exact va_gets C0.1 C0.2.1 h w.2 C0.2.2.2.1 (C0.2.2.2.2.1 _ kt_1053) (fun _ h => h) hdg (kk _ (Or.inl rfl))
  · exact va_gets C0.1 C0.2.1 h w.2 C0.2.2.2.1 (C0.2.2.2.2.1 _ kt_1053) (fun _ h => h) hdg (kk _ (Or.inr ⟨t, rfl⟩))
theorem hv_ldcS {i index : Nat} {tx : String} (C0 : hv_C X p s m args c cc nL own) (hq : (own, index, tx, i) ∈ hv_strs) (hdg : decode cc pc = .ok (.ldc index, 2))
    (kk : W p l e R s m args below meth c H locs cells slots Q (F0 m (pc + 2) ls (.ref (X.2.2.2.1 i) :: rest))) : W p l e R s m args below meth c H locs cells slots Q (F0 m pc ls rest) :=
  va_ldcS C0.1 C0.2.1 C0.2.2.2.1 (C0.2.2.2.2.2.2.2.2.1 _ hq) hdg kk
theorem hv_ldcSw {i index : Nat} {tx : String} (C0 : hv_C X p s m args c cc nL own) (hq : (own, index, tx, i) ∈ hv_strs) (hdg : decode cc pc = .ok (.ldc_w index, 3))
    (kk : W p l e R s m args below meth c H locs cells slots Q (F0 m (pc + 3) ls (.ref (X.2.2.2.1 i) :: rest))) : W p l e R s m args below meth c H locs cells slots Q (F0 m pc ls rest) := by
  have hR : vk_R own index tx (X.2.2.2.1 i) s := C0.2.2.2.2.2.2.2.2.1 _ hq
  intro T hT X9
  obtain ⟨t, a1, b1⟩ := kk T hT X9
  exact ⟨t, X9.ldcStringW C0.1 C0.2.2.2.1 (text := tx) (a := X.2.2.2.1 i) hR.1 hR.2 (g := F0 m pc ls rest) rfl (by rw [C0.2.1]; exact hdg) t a1, b1⟩
end HV7
theorem hv_ch : ∀ i, i < 6 → ∀ k, k < hv_len.getD i 0 → (((hv_byt.getD i []).getD k 0 &&& 255).toUInt32 % 65536).toInt32 = (hv_byt.getD i []).getD k 0 := by decide +kernel
theorem hv_chn : ∀ i, i < 6 → ∀ k, k < hv_len.getD i 0 → narrow .char (.int ((hv_byt.getD i []).getD k 0)) = .int ((hv_byt.getD i []).getD k 0) := by decide +kernel
theorem hv_lens : ∀ i, i < 6 → hv_len.getD i 0 ≤ 6 := by decide
set_option maxHeartbeats 4000000 in
set_option maxRecDepth 100000 in
theorem c_J0_isLatin1 {l : Launch} {X : hv_X} {V : hv_V} {i : Nat} (hi6 : i < 6) : hv_Mi l X 0 yJ0_isLatin1_aae02 cJ0_isLatin1_aae02 1 .boolean V [.ref (X.2.2.2.1 i)] (fun y V1 => V1 = V ∧ y = 1) := by
  refine hv_enter (by decide) (Nat.le_of_ble_eq_true rfl) ?_
  intro p e s m below meth c ls C0 hr hlk hnm w hl
  have hl : lv_has ls 1 [(0, .ref (X.2.2.2.1 i))] := hl
  refine hv_compact C0 w dJ0_isLatin1_aae02_0 ?_
  refine lv_if_eq (tgt := 17) C0.1 C0.2.1 dJ0_isLatin1_aae02_3 (by decide) (fun h9 => absurd h9 (by decide)) (fun _ => ?_)
  refine lv_aload_n C0.1 C0.2.1 dJ0_isLatin1_aae02_6 rfl (lv_at hl 0 rfl) ?_
  refine hv_coder C0 w hi6 dJ0_isLatin1_aae02_7 ?_
  refine lv_if_ne (tgt := 17) C0.1 C0.2.1 dJ0_isLatin1_aae02_10 (by decide) (fun h9 => absurd h9 (by decide)) (fun _ => ?_)
  refine lv_iconst (v := 1) C0.1 C0.2.1 dJ0_isLatin1_aae02_13 (by decide) ?_
  refine lv_goto (tgt := 18) C0.1 C0.2.1 dJ0_isLatin1_aae02_14 (by decide) ?_
  exact hv_zret C0 w hr hlk (by decide) (⟨rfl, rfl⟩) dJ0_isLatin1_aae02_18

set_option maxHeartbeats 4000000 in
set_option maxRecDepth 100000 in
theorem c_J0_coder {l : Launch} {X : hv_X} {V : hv_V} {i : Nat} (hi6 : i < 6) : hv_Mi l X 0 yJ0_coder_7d493 cJ0_coder_7d493 1 .byte V [.ref (X.2.2.2.1 i)] (fun y V1 => V1 = V ∧ y = 0) := by
  refine hv_enter (by decide) (Nat.le_of_ble_eq_true rfl) ?_
  intro p e s m below meth c ls C0 hr hlk hnm w hl
  have hl : lv_has ls 1 [(0, .ref (X.2.2.2.1 i))] := hl
  refine hv_compact C0 w dJ0_coder_7d493_0 ?_
  refine lv_if_eq (tgt := 13) C0.1 C0.2.1 dJ0_coder_7d493_3 (by decide) (fun h9 => absurd h9 (by decide)) (fun _ => ?_)
  refine lv_aload_n C0.1 C0.2.1 dJ0_coder_7d493_6 rfl (lv_at hl 0 rfl) ?_
  refine hv_coder C0 w hi6 dJ0_coder_7d493_7 ?_
  refine lv_goto (tgt := 14) C0.1 C0.2.1 dJ0_coder_7d493_10 (by decide) ?_
  exact hv_zret C0 w hr hlk (by decide) (⟨rfl, rfl⟩) dJ0_coder_7d493_14

set_option maxHeartbeats 4000000 in
set_option maxRecDepth 100000 in
theorem c_J0_length {l : Launch} {X : hv_X} {V : hv_V} {i : Nat} (hi6 : i < 6) : hv_Mi l X 1 yJ0_length_8abf5 cJ0_length_8abf5 1 .int V [.ref (X.2.2.2.1 i)] (fun y V1 => V1 = V ∧ y = nI (hv_len.getD i 0)) := by
  refine hv_enter (by decide) (Nat.le_of_ble_eq_true rfl) ?_
  intro p e s m below meth c ls C0 hr hlk hnm w hl
  have hl : lv_has ls 1 [(0, .ref (X.2.2.2.1 i))] := hl
  refine lv_aload_n C0.1 C0.2.1 dJ0_length_8abf5_0 rfl (lv_at hl 0 rfl) ?_
  refine hv_value C0 w hi6 dJ0_length_8abf5_1 ?_
  refine va_tlen (v := nI (hv_len.getD i 0)) C0.1 C0.2.1 (C0.2.2.2.2.2.2.2.1.1 i hi6).2.2.2 w.2 rfl dJ0_length_8abf5_4 ?_
  refine lv_aload_n C0.1 C0.2.1 dJ0_length_8abf5_5 rfl (lv_at hl 0 rfl) ?_
  refine hv_cTi (i := i) C0 w kl_J0_335 kv_J0_coder_7d493 rfl hi6 (c_J0_coder hi6) (by decide) (by decide) rfl hl.1 rfl (Nat.le_of_ble_eq_true rfl) dJ0_length_8abf5_6 ⟨Nat.le_refl _, Nat.le_refl _⟩ (fun x1 V2 Hq lq hp3 w => ?_)
  obtain ⟨e9, e8⟩ := hp3
  rw [e9] at w; rw [e8]; clear e9 e8
  refine lv_ishr C0.1 C0.2.1 dJ0_length_8abf5_9 ?_
  rw [show nI (hv_len.getD i 0) >>> ((0 : Int32) &&& 31) = nI (hv_len.getD i 0) from by rw [show (0 : Int32) &&& 31 = 0 from by decide]; exact Int32.shiftRight_zero]
  exact hv_iret C0 w hr hlk (⟨rfl, rfl⟩) dJ0_length_8abf5_10

set_option maxHeartbeats 4000000 in
set_option maxRecDepth 100000 in
theorem c_J3_checkIndexN {l : Launch} {X : hv_X} {V : hv_V} {k n : Int32} (h0 : 0 ≤ k) (h1 : k < n) : hv_Mi l X 0 yJ3_checkIndex_8e157 cJ3_checkIndex_8e157 3 .int V [.int k, .int n, .null] (fun y V1 => V1 = V ∧ y = k) := by
  refine hv_enter (by decide) (Nat.le_of_ble_eq_true rfl) ?_
  intro p e s m below meth c ls C0 hr hlk hnm w hl
  have hl : lv_has ls 3 [(0, .int k), (1, .int n), (2, .null)] := hl
  refine lv_iload_n C0.1 C0.2.1 dJ3_checkIndex_8e157_0 rfl (lv_at hl 0 rfl) ?_
  refine lv_if_lt (tgt := 9) C0.1 C0.2.1 dJ3_checkIndex_8e157_1 (by decide) (fun c_1 => absurd c_1 (Int32.not_lt.mpr h0)) (fun c_1 => ?_)
  refine lv_iload_n C0.1 C0.2.1 dJ3_checkIndex_8e157_4 rfl (lv_at hl 0 rfl) ?_
  refine lv_iload_n C0.1 C0.2.1 dJ3_checkIndex_8e157_5 rfl (lv_at hl 1 rfl) ?_
  refine lv_icmp_lt (tgt := 16) C0.1 C0.2.1 dJ3_checkIndex_8e157_6 (by decide) (fun c_6 => ?_) (fun c_6 => absurd (h1) c_6)
  refine lv_iload_n C0.1 C0.2.1 dJ3_checkIndex_8e157_16 rfl (lv_at hl 0 rfl) ?_
  exact hv_iret C0 w hr hlk (⟨rfl, rfl⟩) dJ3_checkIndex_8e157_17

set_option maxHeartbeats 4000000 in
set_option maxRecDepth 100000 in
theorem c_J3_checkIndexR {l : Launch} {X : hv_X} {V : hv_V} {k n : Int32} {t : Nat} (h0 : 0 ≤ k) (h1 : k < n) : hv_Mi l X 0 yJ3_checkIndex_8e157 cJ3_checkIndex_8e157 3 .int V [.int k, .int n, .ref t] (fun y V1 => V1 = V ∧ y = k) := by
  refine hv_enter (by decide) (Nat.le_of_ble_eq_true rfl) ?_
  intro p e s m below meth c ls C0 hr hlk hnm w hl
  have hl : lv_has ls 3 [(0, .int k), (1, .int n), (2, .ref t)] := hl
  refine lv_iload_n C0.1 C0.2.1 dJ3_checkIndex_8e157_0 rfl (lv_at hl 0 rfl) ?_
  refine lv_if_lt (tgt := 9) C0.1 C0.2.1 dJ3_checkIndex_8e157_1 (by decide) (fun c_1 => absurd c_1 (Int32.not_lt.mpr h0)) (fun c_1 => ?_)
  refine lv_iload_n C0.1 C0.2.1 dJ3_checkIndex_8e157_4 rfl (lv_at hl 0 rfl) ?_
  refine lv_iload_n C0.1 C0.2.1 dJ3_checkIndex_8e157_5 rfl (lv_at hl 1 rfl) ?_
  refine lv_icmp_lt (tgt := 16) C0.1 C0.2.1 dJ3_checkIndex_8e157_6 (by decide) (fun c_6 => ?_) (fun c_6 => absurd (h1) c_6)
  refine lv_iload_n C0.1 C0.2.1 dJ3_checkIndex_8e157_16 rfl (lv_at hl 0 rfl) ?_
  exact hv_iret C0 w hr hlk (⟨rfl, rfl⟩) dJ3_checkIndex_8e157_17

theorem c_J3_checkIndex {l : Launch} {X : hv_X} {V : hv_V} {k n : Int32} {v : Value} (hv : v = .null ∨ ∃ t : Nat, v = .ref t) (h0 : 0 ≤ k) (h1 : k < n) : hv_Mi l X 0 yJ3_checkIndex_8e157 cJ3_checkIndex_8e157 3 .int V [.int k, .int n, v] (fun y V1 => V1 = V ∧ y = k) := by
  rcases hv with rfl | ⟨t, rfl⟩
  · exact c_J3_checkIndexN h0 h1
  · exact c_J3_checkIndexR h0 h1
set_option maxHeartbeats 4000000 in
set_option maxRecDepth 100000 in
theorem c_J0_checkIndex {l : Launch} {X : hv_X} {V : hv_V} {k n : Int32} (h0 : 0 ≤ k) (h1 : k < n) : hv_Mv l X 1 yJ0_checkIndex_df160 cJ0_checkIndex_df160 2 V [.int k, .int n] (fun V1 => V1 = V) := by
  refine hv_enter (by decide) (Nat.le_of_ble_eq_true rfl) ?_
  intro p e s m below meth c ls C0 hr hlk hnm w hl
  have hl : lv_has ls 2 [(0, .int k), (1, .int n)] := hl
  refine lv_iload_n C0.1 C0.2.1 dJ0_checkIndex_df160_0 rfl (lv_at hl 0 rfl) ?_
  refine lv_iload_n C0.1 C0.2.1 dJ0_checkIndex_df160_1 rfl (lv_at hl 1 rfl) ?_
  refine hv_sio C0 w dJ0_checkIndex_df160_2 (fun v9 hv9 => ?_)
  refine hv_cSi (As := [.int k, .int n, v9]) C0 w kl_J0_1059 ks_J3_checkIndex_8e157 (c_J3_checkIndex hv9 h0 h1) (by decide) (by decide) rfl hl.1 rfl (Nat.le_of_ble_eq_true rfl) dJ0_checkIndex_df160_5 ⟨Nat.le_refl _, Nat.le_refl _⟩ (fun x1 V2 Hq lq hp3 w => ?_)
  obtain ⟨e9, e8⟩ := hp3
  rw [e9] at w; rw [e8]; clear e9 e8
  refine lv_pop C0.1 C0.2.1 dJ0_checkIndex_df160_8 rfl ?_
  exact hv_vret C0 w hr hlk (rfl) dJ0_checkIndex_df160_9

theorem hv_cSv {p : Program} {l : Launch} {e : Env} {s : State} {m : MethodId} {args : Array Value} {below : List Frame} {meth : Method} {c : Code} {H : Heap} {locs : List Loc} {cells slots : Nat} {Q : State → Prop} {cc : ByteArray} {pc nL d d2 mc ms n na idx : Nat} {ls : Array Slot} {rest st As : List Value} {X : hv_X} {V : hv_V} {own : String} {y : MethodName} {b : ByteArray} {pv : hv_V → Prop} (C0 : hv_C X p s m args c cc nL own) (w : hv_w X s V H locs) (k : hv_L own idx y b n none na) (k2 : Cond.static y ∈ hv_g) (hM : hv_Mv l X d2 y b n V As pv) (hd : d2 + 1 ≤ d) (hn : n ≤ 21) (hna : As.length = na) (hsz : ls.size = nL) (hst : st = As.reverse ++ rest) (hW : (rest.map fun v => v.category).sum ≤ 8) (hdg : decode cc pc = .ok (.invokestatic idx, 3)) (hf : cells ≤ mc ∧ slots ≤ ms)
    (kk : ∀ (V1 : hv_V) (H1 : Heap) (locs1 : List Loc), pv V1 → hv_w X s V1 H1 locs1 → W p l e (hv_rm d mc ms) s m args below meth c H1 locs1 cells slots Q (F0 m (pc + 3) ls rest)) : W p l e (hv_rm d mc ms) s m args below meth c H locs cells slots Q (F0 m pc ls st) :=
  va_callv (hv_runS C0 w k k2 hM hd hn hna hsz hst hW hdg hf) w.2 (fun _ _ h => h) (fun _ h => h) (fun u t H1 locs1 ht _ hp hB _ _ hS1 => kk u H1 locs1 hp ⟨by rw [← ht]; exact hB, hS1⟩)
set_option maxHeartbeats 4000000 in
set_option maxRecDepth 100000 in
theorem c_J1_charAt {l : Launch} {X : hv_X} {V : hv_V} {i k : Nat} (hi6 : i < 6) (hk : k < hv_len.getD i 0) : hv_Mi l X 2 yJ1_charAt_3b067 cJ1_charAt_3b067 2 .char V [.ref (X.2.2.2.2 i), .int (nI k)] (fun y V1 => V1 = V ∧ y = (hv_byt.getD i []).getD k 0) := by
  refine hv_enter (by decide) (Nat.le_of_ble_eq_true rfl) ?_
  intro p e s m below meth c ls C0 hr hlk hnm w hl
  have hl : lv_has ls 2 [(0, .ref (X.2.2.2.2 i)), (1, .int (nI k))] := hl
  have hl6 := hv_lens i hi6
  refine lv_iload_n C0.1 C0.2.1 dJ1_charAt_3b067_0 rfl (lv_at hl 1 rfl) ?_
  refine lv_aload_n C0.1 C0.2.1 dJ1_charAt_3b067_1 rfl (lv_at hl 0 rfl) ?_
  refine va_tlen (v := nI (hv_len.getD i 0)) C0.1 C0.2.1 (C0.2.2.2.2.2.2.2.1.1 i hi6).2.2.2 w.2 rfl dJ1_charAt_3b067_2 ?_
  refine hv_cSv (As := [.int (nI k), .int (nI (hv_len.getD i 0))]) C0 w kl_J1_9 ks_J0_checkIndex_df160 (c_J0_checkIndex (nI_pos' (by omega)) (nI_lt hk (by omega))) (by decide) (by decide) rfl hl.1 rfl (Nat.le_of_ble_eq_true rfl) dJ1_charAt_3b067_3 ⟨Nat.le_refl _, Nat.le_refl _⟩ (fun V1 Hq lq hp2 w => ?_)
  rw [hp2] at w
  refine lv_aload_n C0.1 C0.2.1 dJ1_charAt_3b067_6 rfl (lv_at hl 0 rfl) ?_
  refine lv_iload_n C0.1 C0.2.1 dJ1_charAt_3b067_7 rfl (lv_at hl 1 rfl) ?_
  refine va_tb (v := .int ((hv_byt.getD i []).getD k 0)) C0.1 C0.2.1 (C0.2.2.2.2.2.2.2.1.1 i hi6).2.2.2 w.2 (hn_in hk (by omega)) (by rw [nI_clamp (by omega)]) dJ1_charAt_3b067_8 ?_
  refine lv_sipush (v := 255) C0.1 C0.2.1 dJ1_charAt_3b067_9 (by decide) ?_
  refine lv_iand C0.1 C0.2.1 dJ1_charAt_3b067_12 ?_
  refine lv_i2c C0.1 C0.2.1 dJ1_charAt_3b067_13 (hv_ch i hi6 k hk) ?_
  exact hv_zret C0 w hr hlk (hv_chn i hi6 k hk) ⟨rfl, rfl⟩ dJ1_charAt_3b067_14

set_option maxHeartbeats 4000000 in
set_option maxRecDepth 100000 in
theorem c_J0_charAt {l : Launch} {X : hv_X} {V : hv_V} {i k : Nat} (hi6 : i < 6) (hk : k < hv_len.getD i 0) : hv_Mi l X 3 yJ0_charAt_5068e cJ0_charAt_5068e 2 .char V [.ref (X.2.2.2.1 i), .int (nI k)] (fun y V1 => V1 = V ∧ y = (hv_byt.getD i []).getD k 0) := by
  refine hv_enter (by decide) (Nat.le_of_ble_eq_true rfl) ?_
  intro p e s m below meth c ls C0 hr hlk hnm w hl
  have hl : lv_has ls 2 [(0, .ref (X.2.2.2.1 i)), (1, .int (nI k))] := hl
  refine lv_aload_n C0.1 C0.2.1 dJ0_charAt_5068e_0 rfl (lv_at hl 0 rfl) ?_
  refine hv_cTi (i := i) C0 w kl_J0_492 kv_J0_isLatin1_aae02 rfl hi6 (c_J0_isLatin1 hi6) (by decide) (by decide) rfl hl.1 rfl (Nat.le_of_ble_eq_true rfl) dJ0_charAt_5068e_1 ⟨Nat.le_refl _, Nat.le_refl _⟩ (fun x1 V2 Hq lq hp3 w => ?_)
  obtain ⟨e9, e8⟩ := hp3
  rw [e9] at w; rw [e8]; clear e9 e8
  refine lv_if_eq (tgt := 16) C0.1 C0.2.1 dJ0_charAt_5068e_4 (by decide) (fun h9 => absurd h9 (by decide)) (fun _ => ?_)
  refine lv_aload_n C0.1 C0.2.1 dJ0_charAt_5068e_7 rfl (lv_at hl 0 rfl) ?_
  refine hv_value C0 w hi6 dJ0_charAt_5068e_8 ?_
  refine lv_iload_n C0.1 C0.2.1 dJ0_charAt_5068e_11 rfl (lv_at hl 1 rfl) ?_
  refine hv_cSi (As := [.ref (X.2.2.2.2 i), .int (nI k)]) C0 w kl_J0_495 ks_J1_charAt_3b067 (c_J1_charAt hi6 hk) (by decide) (by decide) rfl hl.1 rfl (Nat.le_of_ble_eq_true rfl) dJ0_charAt_5068e_12 ⟨Nat.le_refl _, Nat.le_refl _⟩ (fun x4 V5 Hq lq hp6 w => ?_)
  obtain ⟨e9, e8⟩ := hp6
  rw [e9] at w; rw [e8]; clear e9 e8
  exact hv_zret C0 w hr hlk (hv_chn i hi6 k hk) ⟨rfl, rfl⟩ dJ0_charAt_5068e_15

