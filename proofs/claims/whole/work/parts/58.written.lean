/-! WRITTEN: the signs of a row -/
theorem nI_div10 {v : Nat} (h : v < 2 ^ 31) : nI v / 10 = nI (v / 10) := by
  apply Int32.toInt_inj.mp
  have e : (10 : Int32).toInt = 10 := by decide
  rw [Int32.toInt_div, e, nI_toInt h, nI_toInt (by omega), Int.tdiv_eq_ediv_of_nonneg (by omega), Int.bmod_eq_of_le (by omega) (by omega)]
  omega
theorem nI_sub {a b : Nat} (h : b ≤ a) : nI a - nI b = nI (a - b) := by
  have e : nI a = nI (a - b) + nI b := by rw [nI_add, Nat.sub_add_cancel h]
  rw [e]; exact Int32.add_sub_cancel _ _
theorem nI_mul (a b : Nat) : nI a * nI b = nI (a * b) := (Int32.ofNat_mul a b).symm
theorem nI_mod10 {v : Nat} (h : v < 2 ^ 31) : nI v - nI v / 10 * 10 = nI (v % 10) := by
  rw [nI_div10 h, show (10 : Int32) = nI 10 from rfl, nI_mul, nI_sub (by omega)]
  congr 1
  omega
theorem nI_bk {x : Int32} (h : 0 ≤ x) : ∃ v : Nat, v < 2 ^ 31 ∧ x = nI v ∧ x.toNatClampNeg = v := by
  obtain ⟨v, hv, rfl⟩ := nI_of (Int32.not_lt.mpr h)
  exact ⟨v, hv, rfl, nI_clamp hv⟩
def wr_d : Nat → Nat → List Int32
  | 0, v => [nI (48 + v % 10)]
  | n + 1, v => (if 9 < v then wr_d n (v / 10) else []) ++ [nI (48 + v % 10)]
def wr_rest (f : Nat → Int32) : Nat → Nat → List Int32
  | 0, _ => []
  | m + 1, k => wr_d 9 (f k).toNatClampNeg ++ (if m = 0 then [] else 44 :: wr_rest f m (k + 1))
def wr_all (kd : Int32) (n : Nat) (f : Nat → Int32) : List Int32 := (hv_byt.getD 5 []).getD kd.toNatClampNeg 0 :: 58 :: wr_rest f n 0
def sp_written (σ : hs_S) (r i : Int32) : Int32 := if sp_in r 0 5 ∧ 0 ≤ i then (wr_all (σ.1.1.1 r.toNatClampNeg) (σ.1.1.2.1 r.toNatClampNeg) (σ.1.1.2.2 r.toNatClampNeg)).getD i.toNatClampNeg (-5) else -1
def wr_c : Nat → Nat → Nat
  | 0, _ => 0
  | m + 1, r => if 0 < r then wr_c m (r / 10) + 1 else 0
theorem wr_len (n v : Nat) : (wr_d n v).length = wr_c n (v / 10) + 1 := by
  induction n generalizing v with
  | zero => rfl
  | succ n ih =>
    rw [wr_d, List.length_append]
    by_cases h : 9 < v
    · rw [if_pos h, ih, wr_c, if_pos (by omega)]; rfl
    · rw [if_neg h, wr_c, if_neg (by omega)]; rfl
theorem wr_cl : ∀ n r : Nat, wr_c n r ≤ n
  | 0, _ => Nat.le_refl _
  | n + 1, r => by
    rw [wr_c]
    by_cases h : 0 < r
    · rw [if_pos h]; have := wr_cl n (r / 10); omega
    · rw [if_neg h]; omega
theorem wr_app {α : Type} (a b : List α) (i : Nat) (d : α) : (a ++ b).getD i d = if i < a.length then a.getD i d else b.getD (i - a.length) d := by
  by_cases h : i < a.length
  · rw [if_pos h, List.getD_eq_getElem?_getD, List.getD_eq_getElem?_getD, List.getElem?_append_left h]
  · rw [if_neg h, List.getD_eq_getElem?_getD, List.getD_eq_getElem?_getD, List.getElem?_append_right (Nat.not_lt.mp h)]
theorem wr_at (n v p : Nat) (hp : p < (wr_d n v).length) : (wr_d n v).getD p (-5) = nI (48 + v / 10 ^ ((wr_d n v).length - 1 - p) % 10) := by
  induction n generalizing v p with
  | zero =>
    have h0 : p = 0 := by
      have : (wr_d 0 v).length = 1 := rfl
      omega
    subst h0
    show nI (48 + v % 10) = nI (48 + v / 10 ^ 0 % 10)
    rw [Nat.pow_zero, Nat.div_one]
  | succ n ih =>
    have hl : (wr_d (n + 1) v).length = (if 9 < v then wr_d n (v / 10) else []).length + 1 := by rw [wr_d, List.length_append]; rfl
    rw [hl] at hp ⊢
    rw [wr_d, wr_app]
    by_cases h : p < (if 9 < v then wr_d n (v / 10) else []).length
    · rw [if_pos h]
      by_cases h9 : 9 < v
      · rw [if_pos h9] at h ⊢
        rw [ih _ _ h, show (wr_d n (v / 10)).length + 1 - 1 - p = ((wr_d n (v / 10)).length - 1 - p) + 1 by omega, Nat.pow_succ, Nat.mul_comm (10 ^ _) 10, Nat.div_div_eq_div_mul]
      · rw [if_neg h9] at h
        exact absurd h (Nat.not_lt_zero _)
    · rw [if_neg h]
      rw [show p - (if 9 < v then wr_d n (v / 10) else []).length = 0 by omega, show (if 9 < v then wr_d n (v / 10) else []).length + 1 - 1 - p = 0 by omega, Nat.pow_zero, Nat.div_one]
      rfl
set_option maxHeartbeats 4000000 in
set_option maxRecDepth 100000 in
theorem c_X3_digitsIn0 {l : Launch} {X : hv_X} {V : hv_V} {v : Nat} (hv : v < 2 ^ 31) : hv_Mi l X 0 yX3_digitsIn cX3_digitsIn 3 .int V [.int (nI v)] (fun y V1 => V1 = V ∧ y = nI (wr_d 9 v).length) := by
  refine hv_enter (by decide) (Nat.le_of_ble_eq_true rfl) ?_
  intro p e s m below meth c ls C0 hr hlk hnm w hl
  have hl : lv_has ls 3 [(0, .int (nI v))] := hl
  have loop : ∀ (m9 c9 r9 : Nat) (Hq : Heap) (lq : List Loc) (ls : Array Slot), (c9 + wr_c m9 r9 = (wr_d 9 v).length) → (r9 < 10 ^ m9) → (r9 < 2 ^ 31) → (c9 + m9 = 10) → hv_w X s (V) Hq lq → lv_has ls 3 [(1, .int (nI c9)), (2, .int (nI r9))] → W p l e (hv_rm 0 0 0) s m ([.int (nI v)] : List Value).toArray below meth c Hq lq 0 0 (MQ below (hv_Qi X (fun y V1 => V1 = V ∧ y = nI (wr_d 9 v).length)) ([.int (nI v)] : List Value).toArray s 0 0 X.2.2.1) (F0 m 7 ls []) := by
    intro m9
    induction m9 with
    | zero =>
      intro c9 r9 Hq lq ls he hq1 hr2 hc w hl
      have he : c9 = (wr_d 9 v).length := he
      have hq1 : r9 < 1 := hq1
      skip
      refine lv_iload_n C0.1 C0.2.1 dX3_digitsIn_7 rfl (lv_at hl 0 rfl) ?_
      refine lv_bipush (v := 10) C0.1 C0.2.1 dX3_digitsIn_8 (by decide) ?_
      refine lv_icmp_ge (tgt := 28) C0.1 C0.2.1 dX3_digitsIn_10 (by decide) (fun c_10 => ?_) (fun c_10 => absurd (show nI 10 ≤ nI c9 from nI_le (by omega) (by omega)) c_10)
      refine lv_iload_n C0.1 C0.2.1 dX3_digitsIn_28 rfl (lv_at hl 0 rfl) ?_
      exact hv_iret C0 w hr hlk (⟨rfl, by rw [← he]⟩) dX3_digitsIn_29
    | succ m9 ih =>
      intro c9 r9 Hq lq ls he hq1 hr2 hc w hl
      rw [Nat.pow_succ] at hq1
      rcases Nat.eq_zero_or_pos r9 with h0 | h0
      · have he : c9 = (wr_d 9 v).length := by rw [← he, h0]; rfl
        refine lv_iload_n C0.1 C0.2.1 dX3_digitsIn_7 rfl (lv_at hl 0 rfl) ?_
        refine lv_bipush (v := 10) C0.1 C0.2.1 dX3_digitsIn_8 (by decide) ?_
        refine lv_icmp_ge (tgt := 28) C0.1 C0.2.1 dX3_digitsIn_10 (by decide) (fun c_10 => absurd c_10 (show ¬ nI 10 ≤ nI c9 from nI_ge (by omega) (by omega))) (fun c_10 => ?_)
        refine lv_iload_n C0.1 C0.2.1 dX3_digitsIn_13 rfl (lv_at hl 1 rfl) ?_
        refine lv_if_le (tgt := 28) C0.1 C0.2.1 dX3_digitsIn_14 (by decide) (fun c_14 => ?_) (fun c_14 => absurd (show nI r9 ≤ nI 0 from nI_le (by omega) (by omega)) c_14)
        refine lv_iload_n C0.1 C0.2.1 dX3_digitsIn_28 rfl (lv_at hl 0 rfl) ?_
        exact hv_iret C0 w hr hlk (⟨rfl, by rw [← he]⟩) dX3_digitsIn_29
      · skip
        refine lv_iload_n C0.1 C0.2.1 dX3_digitsIn_7 rfl (lv_at hl 0 rfl) ?_
        refine lv_bipush (v := 10) C0.1 C0.2.1 dX3_digitsIn_8 (by decide) ?_
        refine lv_icmp_ge (tgt := 28) C0.1 C0.2.1 dX3_digitsIn_10 (by decide) (fun c_10 => absurd c_10 (show ¬ nI 10 ≤ nI c9 from nI_ge (by omega) (by omega))) (fun c_10 => ?_)
        refine lv_iload_n C0.1 C0.2.1 dX3_digitsIn_13 rfl (lv_at hl 1 rfl) ?_
        refine lv_if_le (tgt := 28) C0.1 C0.2.1 dX3_digitsIn_14 (by decide) (fun c_14 => absurd c_14 (nI_nle h0 (by omega))) (fun c_14 => ?_)
        refine lv_iinc (v := (nI c9) + 1) (lv' := [(1, .int ((nI c9) + 1)), (2, .int (nI r9))]) C0.1 C0.2.1 dX3_digitsIn_17 hl (k := 0) rfl rfl (by decide) rfl (fun ls hl => ?_)
        refine lv_iload_n C0.1 C0.2.1 dX3_digitsIn_20 rfl (lv_at hl 1 rfl) ?_
        refine lv_bipush (v := 10) C0.1 C0.2.1 dX3_digitsIn_21 (by decide) ?_
        refine lv_idiv C0.1 C0.2.1 dX3_digitsIn_23 (by decide) ?_
        rw [nI_div10 (by omega)]
        refine lv_istore_n (lv' := [(2, .int (nI (r9 / 10))), (1, .int ((nI c9) + 1))]) C0.1 C0.2.1 dX3_digitsIn_24 rfl hl (by decide) rfl (fun ls hl => ?_)
        refine lv_goto (tgt := 7) C0.1 C0.2.1 dX3_digitsIn_25 (by decide) ?_
        exact ih (c9 + 1) (r9 / 10) _ _ ls (by rw [← he, wr_c, if_pos h0]; omega) (by omega) (by omega) (by omega) w (by have h9 := (lv_sub (l' := [(1, .int (nI c9 + 1)), (2, .int (nI (r9 / 10)))]) hl [1, 0] rfl); rw [nI_1] at h9; exact h9)
  refine lv_iconst (v := 1) C0.1 C0.2.1 dX3_digitsIn_0 (by decide) ?_
  refine lv_istore_n (lv' := [(1, .int 1), (0, .int (nI v))]) C0.1 C0.2.1 dX3_digitsIn_1 rfl hl (by decide) rfl (fun ls hl => ?_)
  refine lv_iload_n C0.1 C0.2.1 dX3_digitsIn_2 rfl (lv_at hl 1 rfl) ?_
  refine lv_bipush (v := 10) C0.1 C0.2.1 dX3_digitsIn_3 (by decide) ?_
  refine lv_idiv C0.1 C0.2.1 dX3_digitsIn_5 (by decide) ?_
  rw [nI_div10 (by omega)]
  refine lv_istore_n (lv' := [(2, .int (nI (v / 10))), (1, .int 1), (0, .int (nI v))]) C0.1 C0.2.1 dX3_digitsIn_6 rfl hl (by decide) rfl (fun ls hl => ?_)
  have hl : lv_has ls 3 [(2, .int (nI (v / 10))), (1, .int (nI 1)), (0, .int (nI v))] := by rw [show ((nI 1)) = (1) from rfl]; exact hl
  exact loop 9 1 (v / 10) _ _ ls (by rw [wr_len]; omega) (by omega) (by omega) (by omega) w (lv_sub hl [1, 0] rfl)

theorem c_X3_digitsIn {l : Launch} {X : hv_X} {V : hv_V} {x : Int32} (h : 0 ≤ x) : hv_Mi l X 0 yX3_digitsIn cX3_digitsIn 3 .int V [.int x] (fun y V1 => V1 = V ∧ y = nI (wr_d 9 x.toNatClampNeg).length) := by
  obtain ⟨v, hv, rfl, e⟩ := nI_bk h
  rw [e]
  exact c_X3_digitsIn0 hv
set_option maxHeartbeats 4000000 in
set_option maxRecDepth 100000 in
theorem c_X3_digitAt0 {l : Launch} {X : hv_X} {V : hv_V} {v q : Nat} (hv : v < 2 ^ 31) (hq : q < 100) : hv_Mi l X 0 yX3_digitAt cX3_digitAt 4 .int V [.int (nI v), .int (nI q)] (fun y V1 => V1 = V ∧ y = nI (48 + v / 10 ^ q % 10)) := by
  refine hv_enter (by decide) (Nat.le_of_ble_eq_true rfl) ?_
  intro p e s m below meth c ls C0 hr hlk hnm w hl
  have hl : lv_has ls 4 [(0, .int (nI v)), (1, .int (nI q))] := hl
  have loop : ∀ (m9 r9 i9 : Nat) (Hq : Heap) (lq : List Loc) (ls : Array Slot), (i9 + m9 = q) → (r9 / 10 ^ m9 = v / 10 ^ q) → (r9 < 2 ^ 31) → hv_w X s (V) Hq lq → lv_has ls 4 [(1, .int (nI q)), (2, .int (nI r9)), (3, .int (nI i9))] → W p l e (hv_rm 0 0 0) s m ([.int (nI v), .int (nI q)] : List Value).toArray below meth c Hq lq 0 0 (MQ below (hv_Qi X (fun y V1 => V1 = V ∧ y = nI (48 + v / 10 ^ q % 10))) ([.int (nI v), .int (nI q)] : List Value).toArray s 0 0 X.2.2.1) (F0 m 4 ls []) := by
    intro m9
    induction m9 with
    | zero =>
      intro r9 i9 Hq lq ls hi he hr2 w hl
      have he : r9 = v / 10 ^ q := by rw [← he, Nat.pow_zero, Nat.div_one]
      refine lv_iload_n C0.1 C0.2.1 dX3_digitAt_4 rfl (lv_at hl 2 rfl) ?_
      refine lv_iload_n C0.1 C0.2.1 dX3_digitAt_5 rfl (lv_at hl 0 rfl) ?_
      refine lv_icmp_ge (tgt := 20) C0.1 C0.2.1 dX3_digitAt_6 (by decide) (fun c_6 => ?_) (fun c_6 => absurd (show nI q ≤ nI i9 from nI_le (by omega) (by omega)) c_6)
      refine lv_bipush (v := 48) C0.1 C0.2.1 dX3_digitAt_20 (by decide) ?_
      refine lv_iload_n C0.1 C0.2.1 dX3_digitAt_22 rfl (lv_at hl 1 rfl) ?_
      refine lv_bipush (v := 10) C0.1 C0.2.1 dX3_digitAt_23 (by decide) ?_
      refine lv_irem C0.1 C0.2.1 dX3_digitAt_25 (by decide) ?_
      refine lv_iadd C0.1 C0.2.1 dX3_digitAt_26 ?_
      exact hv_iret C0 w hr hlk (⟨rfl, by rw [nI_mod10 hr2, show (48 : Int32) = nI 48 from rfl, nI_add, he]⟩) dX3_digitAt_27
    | succ m9 ih =>
      intro r9 i9 Hq lq ls hi he hr2 w hl
      refine lv_iload_n C0.1 C0.2.1 dX3_digitAt_4 rfl (lv_at hl 2 rfl) ?_
      refine lv_iload_n C0.1 C0.2.1 dX3_digitAt_5 rfl (lv_at hl 0 rfl) ?_
      refine lv_icmp_ge (tgt := 20) C0.1 C0.2.1 dX3_digitAt_6 (by decide) (fun c_6 => absurd c_6 (show ¬ nI q ≤ nI i9 from nI_ge (by omega) (by omega))) (fun c_6 => ?_)
      refine lv_iload_n C0.1 C0.2.1 dX3_digitAt_9 rfl (lv_at hl 1 rfl) ?_
      refine lv_bipush (v := 10) C0.1 C0.2.1 dX3_digitAt_10 (by decide) ?_
      refine lv_idiv C0.1 C0.2.1 dX3_digitAt_12 (by decide) ?_
      rw [nI_div10 (by omega)]
      refine lv_istore_n (lv' := [(2, .int (nI (r9 / 10))), (1, .int (nI q)), (3, .int (nI i9))]) C0.1 C0.2.1 dX3_digitAt_13 rfl hl (by decide) rfl (fun ls hl => ?_)
      refine lv_iinc (v := (nI i9) + 1) (lv' := [(3, .int ((nI i9) + 1)), (2, .int (nI (r9 / 10))), (1, .int (nI q))]) C0.1 C0.2.1 dX3_digitAt_14 hl (k := 2) rfl rfl (by decide) rfl (fun ls hl => ?_)
      refine lv_goto (tgt := 4) C0.1 C0.2.1 dX3_digitAt_17 (by decide) ?_
      exact ih (r9 / 10) (i9 + 1) _ _ ls (by omega) (by rw [← he, Nat.div_div_eq_div_mul, Nat.pow_succ, Nat.mul_comm 10]) (by omega) w (by have h9 := (lv_sub (l' := [(1, .int (nI q)), (2, .int (nI (r9 / 10))), (3, .int (nI i9 + 1))]) hl [2, 1, 0] rfl); rw [nI_1] at h9; exact h9)
  refine lv_iload_n C0.1 C0.2.1 dX3_digitAt_0 rfl (lv_at hl 0 rfl) ?_
  refine lv_istore_n (lv' := [(2, .int (nI v)), (0, .int (nI v)), (1, .int (nI q))]) C0.1 C0.2.1 dX3_digitAt_1 rfl hl (by decide) rfl (fun ls hl => ?_)
  refine lv_iconst (v := 0) C0.1 C0.2.1 dX3_digitAt_2 (by decide) ?_
  refine lv_istore_n (lv' := [(3, .int 0), (2, .int (nI v)), (0, .int (nI v)), (1, .int (nI q))]) C0.1 C0.2.1 dX3_digitAt_3 rfl hl (by decide) rfl (fun ls hl => ?_)
  have hl : lv_has ls 4 [(3, .int (nI 0)), (2, .int (nI v)), (0, .int (nI v)), (1, .int (nI q))] := by rw [show ((nI 0)) = (0) from rfl]; exact hl
  exact loop q v 0 _ _ ls (by omega) rfl hv w (lv_sub hl [3, 1, 0] rfl)

theorem c_X3_digitAt {l : Launch} {X : hv_X} {V : hv_V} {x : Int32} {q : Nat} (h : 0 ≤ x) (hq : q < 100) : hv_Mi l X 0 yX3_digitAt cX3_digitAt 4 .int V [.int x, .int (nI q)] (fun y V1 => V1 = V ∧ y = nI (48 + x.toNatClampNeg / 10 ^ q % 10)) := by
  obtain ⟨v, hv, rfl, e⟩ := nI_bk h
  rw [e]
  exact c_X3_digitAt0 hv hq
theorem wr_nx {f : Nat → Int32} {m k q D : Nat} (h : D + 1 ≤ q) : (wr_rest f m (k + 1)).getD (q - (D + 1)) (-5) = (if m = 0 then [] else 44 :: wr_rest f m (k + 1)).getD (q - D) (-5) := by
  by_cases h0 : m = 0
  · subst h0; rfl
  · rw [if_neg h0, show q - D = (q - (D + 1)) + 1 by omega]; rfl
theorem wr_tl {kd : Int32} {f : Nat → Int32} {n I : Nat} (h : 2 ≤ I) : (wr_rest f n 0).getD (I - 2) (-5) = (wr_all kd n f).getD I (-5) := by
  obtain ⟨J, rfl⟩ : ∃ J, I = J + 2 := ⟨I - 2, by omega⟩
  rfl
set_option maxHeartbeats 4000000 in
set_option maxRecDepth 100000 in
theorem c_X3_signAt0 {l : Launch} {X : hv_X} {V : hv_V} {r b n kk I : Nat} {f : Nat → Int32} (hR : V r = some (rE (nI kk) n b)) (hB : V b = some (nE X f)) (hn : n ≤ 16) (hkk : kk < 4) (hI : I < 2 ^ 31) (hf : ∀ j, 0 ≤ f j) : hv_Mi l X 4 yX3_signAt cX3_signAt 5 .int V [.ref r, .int (nI I)] (fun y V1 => V1 = V ∧ y = (wr_all (nI kk) n f).getD I (-5)) := by
  refine hv_enter (by decide) (Nat.le_of_ble_eq_true rfl) ?_
  intro p e s m below meth c ls C0 hr hlk hnm w hl
  have hl : lv_has ls 5 [(0, .ref r), (1, .int (nI I))] := hl
  have loop : ∀ (m9 q9 k9 : Nat) (Hq : Heap) (lq : List Loc) (ls : Array Slot), (k9 + m9 = n) → ((wr_rest f m9 k9).getD q9 (-5) = (wr_all (nI kk) n f).getD I (-5)) → (q9 < 2 ^ 31) → hv_w X s (V) Hq lq → lv_has ls 5 [(0, .ref r), (2, .int (nI q9)), (3, .int (nI k9))] → W p l e (hv_rm 4 0 0) s m ([.ref r, .int (nI I)] : List Value).toArray below meth c Hq lq 0 0 (MQ below (hv_Qi X (fun y V1 => V1 = V ∧ y = (wr_all (nI kk) n f).getD I (-5))) ([.ref r, .int (nI I)] : List Value).toArray s 0 0 X.2.2.1) (F0 m 28 ls []) := by
    intro m9
    induction m9 with
    | zero =>
      intro q9 k9 Hq lq ls hi he hq w hl
      have he : -5 = (wr_all (nI kk) n f).getD I (-5) := he
      refine lv_iload_n C0.1 C0.2.1 dX3_signAt_28 rfl (lv_at hl 2 rfl) ?_
      refine lv_aload_n C0.1 C0.2.1 dX3_signAt_29 rfl (lv_at hl 0 rfl) ?_
      refine gf_X3_19 C0 w hR rfl dX3_signAt_30 ?_
      refine lv_icmp_ge (tgt := 106) C0.1 C0.2.1 dX3_signAt_33 (by decide) (fun c_33 => ?_) (fun c_33 => absurd (show nI n ≤ nI k9 from nI_le (by omega) (by omega)) c_33)
      refine lv_bipush (v := -5) C0.1 C0.2.1 dX3_signAt_106 (by decide) ?_
      exact hv_iret C0 w hr hlk (⟨rfl, he⟩) dX3_signAt_108
    | succ m9 ih =>
      intro q9 k9 Hq lq ls hi he hq w hl
      refine lv_iload_n C0.1 C0.2.1 dX3_signAt_28 rfl (lv_at hl 2 rfl) ?_
      refine lv_aload_n C0.1 C0.2.1 dX3_signAt_29 rfl (lv_at hl 0 rfl) ?_
      refine gf_X3_19 C0 w hR rfl dX3_signAt_30 ?_
      refine lv_icmp_ge (tgt := 106) C0.1 C0.2.1 dX3_signAt_33 (by decide) (fun c_33 => absurd c_33 (show ¬ nI n ≤ nI k9 from nI_ge (by omega) (by omega))) (fun c_33 => ?_)
      refine lv_aload_n C0.1 C0.2.1 dX3_signAt_36 rfl (lv_at hl 0 rfl) ?_
      refine gf_X3_9 C0 w hR rfl dX3_signAt_37 ?_
      refine lv_iload_n C0.1 C0.2.1 dX3_signAt_40 rfl (lv_at hl 2 rfl) ?_
      refine hv_iald C0 w hB (hn_in (by omega) (by decide)) dX3_signAt_41 ?_
      have hc1 : (nI k9).toNatClampNeg = k9 := nI_clamp (by omega)
      rw [hc1]
      refine hv_cSi (As := [.int (f k9)]) C0 w kl_X3_105 ks_X3_digitsIn (c_X3_digitsIn (hf k9)) (by decide) (by decide) rfl hl.1 rfl (Nat.le_of_ble_eq_true rfl) dX3_signAt_42 ⟨Nat.le_refl _, Nat.le_refl _⟩ (fun x2 V3 Hq lq hp4 w => ?_)
      obtain ⟨e9, e8⟩ := hp4
      rw [e9] at w; rw [e8]; clear e9 e8
      obtain ⟨D9, hD9⟩ : ∃ D9, D9 = (wr_d 9 (f k9).toNatClampNeg).length := ⟨_, rfl⟩
      have hD1 : D9 ≤ 10 := by rw [hD9, wr_len]; have := wr_cl 9 ((f k9).toNatClampNeg / 10); omega
      rw [← hD9]
      refine lv_istore (lv' := [(4, .int (nI D9)), (0, .ref r), (2, .int (nI q9)), (3, .int (nI k9))]) C0.1 C0.2.1 dX3_signAt_45 hl (by decide) rfl (fun ls hl => ?_)
      refine lv_iload_n C0.1 C0.2.1 dX3_signAt_47 rfl (lv_at hl 2 rfl) ?_
      refine lv_iload C0.1 C0.2.1 dX3_signAt_48 (lv_at hl 0 rfl) ?_
      refine lv_icmp_ge (tgt := 69) C0.1 C0.2.1 dX3_signAt_50 (by decide) (fun c_50 => ?_) (fun c_50 => ?_)
      · skip
        have hge : D9 ≤ q9 := (nI_leI (by omega) (by omega)).mp c_50
        refine lv_iload_n C0.1 C0.2.1 dX3_signAt_69 rfl (lv_at hl 2 rfl) ?_
        refine lv_iload C0.1 C0.2.1 dX3_signAt_70 (lv_at hl 0 rfl) ?_
        refine lv_icmp_ne (tgt := 93) C0.1 C0.2.1 dX3_signAt_72 (by decide) (fun c_72 => ?_) (fun c_72 => ?_)
        · skip
          have hne : q9 ≠ D9 := fun h9 => c_72 (by rw [h9])
          refine lv_iload_n C0.1 C0.2.1 dX3_signAt_93 rfl (lv_at hl 2 rfl) ?_
          refine lv_iload C0.1 C0.2.1 dX3_signAt_94 (lv_at hl 0 rfl) ?_
          refine lv_iconst (v := 1) C0.1 C0.2.1 dX3_signAt_96 (by decide) ?_
          refine lv_iadd C0.1 C0.2.1 dX3_signAt_97 ?_
          refine lv_isub C0.1 C0.2.1 dX3_signAt_98 ?_
          rw [show nI q9 - (nI D9 + 1) = nI (q9 - (D9 + 1)) from by rw [nI_1, nI_sub (by omega)]]
          refine lv_istore_n (lv' := [(2, .int (nI (q9 - (D9 + 1)))), (4, .int (nI D9)), (0, .ref r), (3, .int (nI k9))]) C0.1 C0.2.1 dX3_signAt_99 rfl hl (by decide) rfl (fun ls hl => ?_)
          refine lv_iinc (v := (nI k9) + 1) (lv' := [(3, .int ((nI k9) + 1)), (2, .int (nI (q9 - (D9 + 1)))), (4, .int (nI D9)), (0, .ref r)]) C0.1 C0.2.1 dX3_signAt_100 hl (k := 3) rfl rfl (by decide) rfl (fun ls hl => ?_)
          refine lv_goto (tgt := 28) C0.1 C0.2.1 dX3_signAt_103 (by decide) ?_
          exact ih (q9 - (D9 + 1)) (k9 + 1) _ _ ls (by omega) (by rw [← he, wr_rest, wr_app, ← hD9, if_neg (by omega)]; exact wr_nx (by omega)) (by omega) w (by have h9 := (lv_sub (l' := [(0, .ref r), (2, .int (nI (q9 - (D9 + 1)))), (3, .int (nI k9 + 1))]) hl [3, 1, 0] rfl); rw [nI_1] at h9; exact h9)
        · skip
          have heq : q9 = D9 := (nI_eq (by omega) (by omega)).mp c_72
          refine lv_iload_n C0.1 C0.2.1 dX3_signAt_75 rfl (lv_at hl 3 rfl) ?_
          refine lv_aload_n C0.1 C0.2.1 dX3_signAt_76 rfl (lv_at hl 1 rfl) ?_
          refine gf_X3_19 C0 w hR rfl dX3_signAt_77 ?_
          refine lv_iconst (v := 1) C0.1 C0.2.1 dX3_signAt_80 (by decide) ?_
          refine lv_isub C0.1 C0.2.1 dX3_signAt_81 ?_
          rw [show nI n - 1 = nI (n - 1) from by rw [show (1 : Int32) = nI 1 from rfl, nI_sub (by omega)]]
          refine lv_icmp_ge (tgt := 90) C0.1 C0.2.1 dX3_signAt_82 (by decide) (fun c_82 => ?_) (fun c_82 => ?_)
          · skip
            refine lv_bipush (v := -5) C0.1 C0.2.1 dX3_signAt_90 (by decide) ?_
            exact hv_iret C0 w hr hlk (⟨rfl, by rw [← he, wr_rest, wr_app, ← hD9, if_neg (by omega), if_pos (by have h8 := (nI_leI (a := n - 1) (b := k9) (by omega) (by omega)).mp c_82; omega), show q9 - D9 = 0 by omega]; rfl⟩) dX3_signAt_92
          · skip
            refine lv_bipush (v := 44) C0.1 C0.2.1 dX3_signAt_85 (by decide) ?_
            refine lv_goto (tgt := 92) C0.1 C0.2.1 dX3_signAt_87 (by decide) ?_
            exact hv_iret C0 w hr hlk (⟨rfl, by rw [← he, wr_rest, wr_app, ← hD9, if_neg (by omega), if_neg (fun h7 => c_82 (nI_le (a := n - 1) (b := k9) (by omega) (by omega))), show q9 - D9 = 0 by omega]; rfl⟩) dX3_signAt_92
      · skip
        have hlt : q9 < D9 := (nI_ltI (by omega) (by omega)).mp (Int32.not_le.mp c_50)
        refine lv_aload_n C0.1 C0.2.1 dX3_signAt_53 rfl (lv_at hl 1 rfl) ?_
        refine gf_X3_9 C0 w hR rfl dX3_signAt_54 ?_
        refine lv_iload_n C0.1 C0.2.1 dX3_signAt_57 rfl (lv_at hl 3 rfl) ?_
        refine hv_iald C0 w hB (hn_in (by omega) (by decide)) dX3_signAt_58 ?_
        have hc5 : (nI k9).toNatClampNeg = k9 := nI_clamp (by omega)
        rw [hc5]
        refine lv_iload C0.1 C0.2.1 dX3_signAt_59 (lv_at hl 0 rfl) ?_
        refine lv_iconst (v := 1) C0.1 C0.2.1 dX3_signAt_61 (by decide) ?_
        refine lv_isub C0.1 C0.2.1 dX3_signAt_62 ?_
        refine lv_iload_n C0.1 C0.2.1 dX3_signAt_63 rfl (lv_at hl 2 rfl) ?_
        refine lv_isub C0.1 C0.2.1 dX3_signAt_64 ?_
        rw [show nI D9 - 1 - nI q9 = nI (D9 - 1 - q9) from by rw [show (1 : Int32) = nI 1 from rfl, nI_sub (by omega), nI_sub (by omega)]]
        refine hv_cSi (As := [.int (f k9), .int (nI (D9 - 1 - q9))]) C0 w kl_X3_109 ks_X3_digitAt (c_X3_digitAt (q := D9 - 1 - q9) (hf k9) (by omega)) (by decide) (by decide) rfl hl.1 rfl (Nat.le_of_ble_eq_true rfl) dX3_signAt_65 ⟨Nat.le_refl _, Nat.le_refl _⟩ (fun x6 V7 Hq lq hp8 w => ?_)
        obtain ⟨e9, e8⟩ := hp8
        rw [e9] at w; rw [e8]; clear e9 e8
        exact hv_iret C0 w hr hlk (⟨rfl, by rw [← he, wr_rest, wr_app, ← hD9, if_pos hlt, wr_at _ _ _ (by rw [← hD9]; exact hlt), ← hD9]⟩) dX3_signAt_68
  refine lv_iload_n C0.1 C0.2.1 dX3_signAt_0 rfl (lv_at hl 1 rfl) ?_
  refine lv_if_ne (tgt := 14) C0.1 C0.2.1 dX3_signAt_1 (by decide) (fun c_1 => ?_) (fun c_1 => ?_)
  · skip
    refine lv_iload_n C0.1 C0.2.1 dX3_signAt_14 rfl (lv_at hl 1 rfl) ?_
    refine lv_iconst (v := 1) C0.1 C0.2.1 dX3_signAt_15 (by decide) ?_
    refine lv_icmp_ne (tgt := 22) C0.1 C0.2.1 dX3_signAt_16 (by decide) (fun c_16 => ?_) (fun c_16 => ?_)
    · skip
      have h2 : 2 ≤ I := by
          rcases Nat.lt_or_ge I 2 with h9 | h9
          · rcases (show I = 0 ∨ I = 1 by omega) with h8 | h8
            · exact absurd (show nI I = 0 by rw [h8]; rfl) c_1
            · exact absurd (show nI I = 1 by rw [h8]; rfl) c_16
          · exact h9
      refine lv_iload_n C0.1 C0.2.1 dX3_signAt_22 rfl (lv_at hl 1 rfl) ?_
      refine lv_iconst (v := 2) C0.1 C0.2.1 dX3_signAt_23 (by decide) ?_
      refine lv_isub C0.1 C0.2.1 dX3_signAt_24 ?_
      rw [show nI I - 2 = nI (I - 2) from by rw [show (2 : Int32) = nI 2 from rfl, nI_sub h2]]
      refine lv_istore_n (lv' := [(2, .int (nI (I - 2))), (0, .ref r), (1, .int (nI I))]) C0.1 C0.2.1 dX3_signAt_25 rfl hl (by decide) rfl (fun ls hl => ?_)
      refine lv_iconst (v := 0) C0.1 C0.2.1 dX3_signAt_26 (by decide) ?_
      refine lv_istore_n (lv' := [(3, .int 0), (2, .int (nI (I - 2))), (0, .ref r), (1, .int (nI I))]) C0.1 C0.2.1 dX3_signAt_27 rfl hl (by decide) rfl (fun ls hl => ?_)
      have hl : lv_has ls 5 [(3, .int (nI 0)), (2, .int (nI (I - 2))), (0, .ref r), (1, .int (nI I))] := by rw [show ((nI 0)) = (0) from rfl]; exact hl
      exact loop n (I - 2) 0 _ _ ls (by omega) (wr_tl h2) (by omega) w (lv_sub hl [2, 1, 0] rfl)
    · skip
      refine lv_bipush (v := 58) C0.1 C0.2.1 dX3_signAt_19 (by decide) ?_
      exact hv_iret C0 w hr hlk (⟨rfl, by rw [show I = 1 from (nI_eq (b := 1) (by omega) (by omega)).mp c_16]; rfl⟩) dX3_signAt_21
  · skip
    refine hv_ldcS (i := 5) (tx := "sepc") C0 (by decide) dX3_signAt_4 ?_
    refine lv_aload_n C0.1 C0.2.1 dX3_signAt_6 rfl (lv_at hl 0 rfl) ?_
    refine gf_X3_15 C0 w hR rfl dX3_signAt_7 ?_
    refine hv_cTi (i := 5) C0 w kl_X3_99 kv_J0_charAt_5068e rfl (by decide) (c_J0_charAt (by decide) hkk) (by decide) (by decide) rfl hl.1 rfl (Nat.le_of_ble_eq_true rfl) dX3_signAt_10 ⟨Nat.le_refl _, Nat.le_refl _⟩ (fun x1 V2 Hq lq hp3 w => ?_)
    obtain ⟨e9, e8⟩ := hp3
    rw [e9] at w; rw [e8]; clear e9 e8
    exact hv_iret C0 w hr hlk (⟨rfl, by rw [show I = 0 from (nI_eq (by omega) (by omega)).mp (c_1.trans nI_0.symm)]; show _ = (hv_byt.getD 5 []).getD (nI kk).toNatClampNeg 0; rw [nI_clamp (by omega)]⟩) dX3_signAt_13

theorem c_X3_signAt {l : Launch} {X : hv_X} {V : hv_V} {r b n : Nat} {kd i : Int32} {f : Nat → Int32} (hR : V r = some (rE kd n b)) (hB : V b = some (nE X f)) (hn : n ≤ 16) (hk : 0 ≤ kd ∧ kd ≤ 3) (hi : 0 ≤ i) (hf : ∀ j, 0 ≤ f j) : hv_Mi l X 4 yX3_signAt cX3_signAt 5 .int V [.ref r, .int i] (fun y V1 => V1 = V ∧ y = (wr_all kd n f).getD i.toNatClampNeg (-5)) := by
  obtain ⟨I, hI, rfl, e⟩ := nI_bk hi
  obtain ⟨kk, hkk, rfl⟩ := sp_inN (k := 3) (by decide) hk
  rw [e]
  exact c_X3_signAt0 hR hB hn hkk hI hf
set_option maxHeartbeats 4000000 in
set_option maxRecDepth 100000 in
theorem m_X6_written {l : Launch} {X : hv_X} {V : hv_V} {x : Nat} {σ : hs_S} (hX : okX X V x σ) (hB : hs_b σ) {r i : Int32} : hv_Mi l X 6 yX6_written cX6_written 3 .int V [.ref x, .int r, .int i] (fun y V1 => y = sp_written σ r i ∧ okX X V1 x σ ∧ hv_out V V1 x (x + 92)) := by
  refine hv_enter (by decide) (Nat.le_of_ble_eq_true rfl) ?_
  intro p e s m below meth c ls C0 hr hlk hnm w hl
  have hl : lv_has ls 3 [(0, .ref x), (1, .int r), (2, .int i)] := hl
  obtain ⟨kk0, hX0, hPg, hKp, hTx, hTp, hSc⟩ := id hX
  obtain ⟨hP0, ⟨rf, hP1, hP2⟩, hP3, hP4, hP5, hP6⟩ := id hPg
  obtain ⟨⟨tf, hT1, hT2⟩, hT3⟩ := id hTp
  obtain ⟨⟨tk, tn, tg, hS1, hS2⟩, ⟨LF, hS3⟩, ⟨RF, hS4⟩, ⟨bf, hS5, hS6⟩, hS7, uf, hS8⟩ := id hSc
  have hbR := hB.1.1
  refine lv_iload_n C0.1 C0.2.1 dX6_written_0 rfl (lv_at hl 1 rfl) ?_
  refine hv_cSi (As := [.int r]) C0 w kl_X6_60 ks_X6_isRow (c_X6_isRow) (by decide) (by decide) rfl hl.1 rfl (Nat.le_of_ble_eq_true rfl) dX6_written_1 ⟨Nat.le_refl _, Nat.le_refl _⟩ (fun x1 V2 Hq lq hp3 w => ?_)
  obtain ⟨e9, hz9⟩ := hp3
  rw [e9] at w; clear e9
  rcases hz9 with ⟨rfl, hb4⟩ | ⟨rfl, hb4⟩
  · skip
    have ihb4 := hb4
    obtain ⟨j1, hj1, rfl⟩ := sp_inN (k := 5) (by decide) hb4
    have kj1 : (nI j1).toNatClampNeg = j1 := nI_clamp (by omega)
    have hR_j1 : V (x + 1 + 14 + 2 * j1) = some (rE (σ.1.1.1 j1) (σ.1.1.2.1 j1) (x + 1 + 14 + 2 * j1 + 1)) := (hP3 j1 hj1).1
    have hN_j1 : V (x + 1 + 14 + 2 * j1 + 1) = some (nE X (σ.1.1.2.2 j1)) := (hP3 j1 hj1).2
    have hn_j1 : σ.1.1.2.1 j1 ≤ 16 := (hbR j1 hj1).2.1
    refine lv_if_eq (tgt := 11) C0.1 C0.2.1 dX6_written_4 (by decide) (fun h9 => absurd h9 (by decide)) (fun _ => ?_)
    refine lv_iload_n C0.1 C0.2.1 dX6_written_7 rfl (lv_at hl 2 rfl) ?_
    refine lv_if_ge (tgt := 13) C0.1 C0.2.1 dX6_written_8 (by decide) (fun c_8 => ?_) (fun c_8 => ?_)
    · skip
      refine lv_aload_n C0.1 C0.2.1 dX6_written_13 rfl (lv_at hl 0 rfl) ?_
      refine gf_X6_12 C0 w hX0 rfl dX6_written_14 ?_
      refine gf_X6_76 C0 w hP0 rfl dX6_written_17 ?_
      refine lv_iload_n C0.1 C0.2.1 dX6_written_20 rfl (lv_at hl 1 rfl) ?_
      refine hv_aald 3 C0 w rfl hP1 (hn_in hj1 (by decide)) (by rw [kj1]; exact hP2 j1 hj1) dX6_written_21 ?_
      refine lv_iload_n C0.1 C0.2.1 dX6_written_22 rfl (lv_at hl 2 rfl) ?_
      refine hv_cVi C0 w kl_X6_154 kv_X3_signAt rfl hR_j1 (c_X3_signAt hR_j1 hN_j1 hn_j1 (hbR j1 hj1).1 c_8 (fun q9 => ((hbR j1 hj1).2.2 q9).1)) (by decide) (by decide) rfl hl.1 rfl (Nat.le_of_ble_eq_true rfl) dX6_written_23 ⟨Nat.le_refl _, Nat.le_refl _⟩ (fun x5 V6 Hq lq hp7 w => ?_)
      obtain ⟨e9, e8⟩ := hp7
      rw [e9] at w; rw [e8]; clear e9 e8
      exact hv_iret C0 w hr hlk (by rw [sp_written, if_pos ⟨ihb4, c_8⟩, kj1]; exact ⟨rfl, hX, hv_out.rf⟩) dX6_written_26
    · skip
      refine lv_iconst (v := -1) C0.1 C0.2.1 dX6_written_11 (by decide) ?_
      exact hv_iret C0 w hr hlk (by rw [sp_written, if_neg (fun h9 => c_8 h9.2)]; exact ⟨rfl, hX, hv_out.rf⟩) dX6_written_12
  · skip
    refine lv_if_eq (tgt := 11) C0.1 C0.2.1 dX6_written_4 (by decide) (fun _ => ?_) (fun h9 => absurd h9 (by decide))
    refine lv_iconst (v := -1) C0.1 C0.2.1 dX6_written_11 (by decide) ?_
    exact hv_iret C0 w hr hlk (by rw [sp_written, if_neg (fun h9 => hb4 h9.1)]; exact ⟨rfl, hX, hv_out.rf⟩) dX6_written_12

