/-- the signs laid so far -/
def wr_h (f : Nat → Int32) (L : List Int32) : Prop := ∀ i, i < L.length → f i = L.getD i (-5)
theorem wr_h.push {f : Nat → Int32} {L : List Int32} {v : Int32} (h : wr_h f L) : wr_h (upd f L.length v) (L ++ [v]) := by
  intro i hi
  rw [List.length_append] at hi
  have hi : i < L.length + 1 := hi
  rw [wr_app]
  by_cases q : i < L.length
  · rw [if_pos q, show upd f L.length v i = f i from if_neg (by omega)]; exact h i q
  · rw [if_neg q, show i = L.length by omega, Nat.sub_self]; exact if_pos rfl
theorem wr_byte : ∀ v : Nat, v < 128 → vp_nar .byte (nI v).toInt8.toInt32 = nI v := by decide +kernel
theorem wr_chb : ∀ k, k < 4 → ∃ v : Nat, v < 128 ∧ (hv_byt.getD 5 []).getD k 0 = nI v := by
  intro k hk
  match k, hk with
  | 0, _ => exact ⟨115, by decide, rfl⟩
  | 1, _ => exact ⟨101, by decide, rfl⟩
  | 2, _ => exact ⟨112, by decide, rfl⟩
  | 3, _ => exact ⟨99, by decide, rfl⟩
set_option maxHeartbeats 4000000 in
set_option maxRecDepth 100000 in
theorem c_X7_says {l : Launch} {X : hv_X} {V : hv_V} {mo : Nat} {ab be : Int64} {tx se ev bk : Nat} {pl cl ik : Int32} {L : List Int32} {sf : Nat → Int32} (hO : V mo = some (mE mo ab be tx pl cl (nI L.length) se ev bk ik)) (hS : V (mo + 13) = some (bE X 178 sf)) {v : Nat} (hg : L.length < 178) (hv : v < 128) : hv_Mv l X 0 yX7_says cX7_says 2 V [.ref mo, .int (nI v)] (fun V1 => V1 = hv_up (hv_up V mo (mE mo ab be tx pl cl (nI (L ++ [nI v]).length) se ev bk ik)) (mo + 13) (bE X 178 (upd sf L.length (nI v)))) := by
  refine hv_enter (by decide) (Nat.le_of_ble_eq_true rfl) ?_
  intro p e s m below meth c ls C0 hr hlk hnm w hl
  have hl : lv_has ls 2 [(0, .ref mo), (1, .int (nI v))] := hl
  refine lv_aload_n C0.1 C0.2.1 dX7_says_0 rfl (lv_at hl 0 rfl) ?_
  refine gf_X7_33 C0 w hO rfl dX7_says_1 ?_
  refine lv_aload_n C0.1 C0.2.1 dX7_says_4 rfl (lv_at hl 0 rfl) ?_
  refine gf_X7_252 C0 w hO rfl dX7_says_5 ?_
  refine lv_iload_n C0.1 C0.2.1 dX7_says_8 rfl (lv_at hl 1 rfl) ?_
  refine lv_i2b (v := (nI v).toInt8.toInt32) C0.1 C0.2.1 dX7_says_9 rfl ?_
  refine hv_bast C0 w hS (hn_in hg (by decide)) dX7_says_10 (fun Hq lq w => ?_)
  have hc1 : (nI L.length).toNatClampNeg = L.length := nI_clamp (by omega)
  rw [hc1] at w
  obtain ⟨V2, eV3⟩ : ∃ W9, W9 = hv_up V (mo + 13) (.inl (X.2.1 2, 178, .inl (upd sf L.length (vp_nar .byte ((nI v).toInt8.toInt32))))) := ⟨_, rfl⟩
  have w : hv_w X s V2 Hq lq := by rw [eV3]; exact w
  have hV4 : V2 mo = some (.inr (7, [.ref (mo + 1), .ref (mo + 2), .ref (mo + 3), .long ab, .long be, .ref (mo + 10), .int (nI tx), .int pl, .int cl, .ref (mo + 11), .ref (mo + 12), .ref (mo + 13), .int (nI L.length), .ref (mo + 14), .ref (mo + 15), .ref (mo + 16), .ref (mo + 17), .int (nI se), .ref (mo + 18), .ref (mo + 19), .int (nI ev), .ref (mo + 20), .ref (mo + 21), .ref (mo + 22), .int (nI bk), .int ik, .ref (mo + 23), .ref (mo + 24), .ref (mo + 25), .ref (mo + 26), .ref (mo + 33), .ref (mo + 41), .ref (mo + 42), .ref (mo + 43)])) := by rw [eV3, hv_un (by omega)]; exact hO
  have hV6 : V2 (mo + 13) = some (.inl (X.2.1 2, 178, .inl (upd sf L.length (vp_nar .byte ((nI v).toInt8.toInt32))))) := by rw [eV3]; exact hv_us
  refine lv_aload_n C0.1 C0.2.1 dX7_says_11 rfl (lv_at hl 0 rfl) ?_
  refine lv_dup C0.1 C0.2.1 dX7_says_12 rfl ?_
  refine gf_X7_252 C0 w hV4 rfl dX7_says_13 ?_
  refine lv_iconst (v := 1) C0.1 C0.2.1 dX7_says_16 (by decide) ?_
  refine lv_iadd C0.1 C0.2.1 dX7_says_17 ?_
  rw [nI_1]
  refine pf_X7_252 C0 w hV4 (by simp) dX7_says_18 (fun Hq lq w => ?_)
  obtain ⟨V7, eV8⟩ : ∃ W9, W9 = hv_up V2 mo (.inr (7, [.ref (mo + 1), .ref (mo + 2), .ref (mo + 3), .long ab, .long be, .ref (mo + 10), .int (nI tx), .int pl, .int cl, .ref (mo + 11), .ref (mo + 12), .ref (mo + 13), .int (nI (L.length + 1)), .ref (mo + 14), .ref (mo + 15), .ref (mo + 16), .ref (mo + 17), .int (nI se), .ref (mo + 18), .ref (mo + 19), .int (nI ev), .ref (mo + 20), .ref (mo + 21), .ref (mo + 22), .int (nI bk), .int ik, .ref (mo + 23), .ref (mo + 24), .ref (mo + 25), .ref (mo + 26), .ref (mo + 33), .ref (mo + 41), .ref (mo + 42), .ref (mo + 43)])) := ⟨_, rfl⟩
  have w : hv_w X s V7 Hq lq := by rw [eV8]; exact w
  have hV10 : V7 (mo + 13) = some (.inl (X.2.1 2, 178, .inl (upd sf L.length (vp_nar .byte ((nI v).toInt8.toInt32))))) := by rw [eV8, hv_un (by omega)]; exact hV6
  have hV11 : V7 mo = some (.inr (7, [.ref (mo + 1), .ref (mo + 2), .ref (mo + 3), .long ab, .long be, .ref (mo + 10), .int (nI tx), .int pl, .int cl, .ref (mo + 11), .ref (mo + 12), .ref (mo + 13), .int (nI (L.length + 1)), .ref (mo + 14), .ref (mo + 15), .ref (mo + 16), .ref (mo + 17), .int (nI se), .ref (mo + 18), .ref (mo + 19), .int (nI ev), .ref (mo + 20), .ref (mo + 21), .ref (mo + 22), .int (nI bk), .int ik, .ref (mo + 23), .ref (mo + 24), .ref (mo + 25), .ref (mo + 26), .ref (mo + 33), .ref (mo + 41), .ref (mo + 42), .ref (mo + 43)])) := by rw [eV8]; exact hv_us
  exact hv_vret C0 w hr hlk (by rw [eV8, eV3, wr_byte v hv, List.length_append, hv_uc (by omega)]; rfl) dX7_says_21

set_option maxHeartbeats 4000000 in
set_option maxRecDepth 100000 in
theorem c_X7_saysNs {l : Launch} {X : hv_X} {V : hv_V} {mo : Nat} {ab be : Int64} {tx se ev bk : Nat} {pl cl ik : Int32} {L : List Int32} {sf : Nat → Int32} (hO : V mo = some (mE mo ab be tx pl cl (nI L.length) se ev bk ik)) (hS : V (mo + 13) = some (bE X 178 sf)) {v d : Nat} (hh : wr_h sf L) (hg : L.length < 178) (h9 : v ≤ 9) : hv_Mv l X (d + 1) yX7_saysNumber cX7_saysNumber 2 V [.ref mo, .int (nI v)] (fun V1 => ∃ sf1 : Nat → Int32, wr_h sf1 (L ++ wr_d d v) ∧ V1 = hv_up (hv_up V mo (mE mo ab be tx pl cl (nI (L ++ wr_d d v).length) se ev bk ik)) (mo + 13) (bE X 178 sf1)) := by
  refine hv_enter (by decide) (Nat.le_of_ble_eq_true rfl) ?_
  intro p e s m below meth c ls C0 hr hlk hnm w hl
  have hl : lv_has ls 2 [(0, .ref mo), (1, .int (nI v))] := hl
  have hv : v < 2 ^ 31 := by omega
  have he9 : wr_d d v = [nI (48 + v % 10)] := by
    cases d with
    | zero => rfl
    | succ d => rw [wr_d, if_neg (by omega)]; rfl
  refine lv_iload_n C0.1 C0.2.1 dX7_saysNumber_0 rfl (lv_at hl 1 rfl) ?_
  refine lv_bipush (v := 9) C0.1 C0.2.1 dX7_saysNumber_1 (by decide) ?_
  refine lv_icmp_le (tgt := 14) C0.1 C0.2.1 dX7_saysNumber_3 (by decide) (fun c_3 => ?_) (fun c_3 => absurd (show nI v ≤ nI 9 from nI_le (by omega) (by omega)) c_3)
  refine lv_aload_n C0.1 C0.2.1 dX7_saysNumber_14 rfl (lv_at hl 0 rfl) ?_
  refine lv_bipush (v := 48) C0.1 C0.2.1 dX7_saysNumber_15 (by decide) ?_
  refine lv_iload_n C0.1 C0.2.1 dX7_saysNumber_17 rfl (lv_at hl 1 rfl) ?_
  refine lv_bipush (v := 10) C0.1 C0.2.1 dX7_saysNumber_18 (by decide) ?_
  refine lv_irem C0.1 C0.2.1 dX7_saysNumber_20 (by decide) ?_
  refine lv_iadd C0.1 C0.2.1 dX7_saysNumber_21 ?_
  rw [show (48 : Int32) + (nI v - nI v / 10 * 10) = nI (48 + v % 10) from by rw [nI_mod10 hv, show (48 : Int32) = nI 48 from rfl, nI_add]]
  refine hv_cVv C0 w kl_X7_259 kv_X7_says rfl hO (c_X7_says (L := L) hO hS (by omega) (by omega)) (by omega) (by decide) rfl hl.1 rfl (Nat.le_of_ble_eq_true rfl) dX7_saysNumber_22 ⟨Nat.le_refl _, Nat.le_refl _⟩ (fun V2 Hq lq hp3 w => ?_)
  have hV4 : V2 mo = some (.inr (7, [.ref (mo + 1), .ref (mo + 2), .ref (mo + 3), .long ab, .long be, .ref (mo + 10), .int (nI tx), .int pl, .int cl, .ref (mo + 11), .ref (mo + 12), .ref (mo + 13), .int (nI (L ++ [nI (48 + v % 10)]).length), .ref (mo + 14), .ref (mo + 15), .ref (mo + 16), .ref (mo + 17), .int (nI se), .ref (mo + 18), .ref (mo + 19), .int (nI ev), .ref (mo + 20), .ref (mo + 21), .ref (mo + 22), .int (nI bk), .int ik, .ref (mo + 23), .ref (mo + 24), .ref (mo + 25), .ref (mo + 26), .ref (mo + 33), .ref (mo + 41), .ref (mo + 42), .ref (mo + 43)])) := by rw [hp3, hv_un (by omega)]; exact hv_us
  have hV5 : V2 (mo + 13) = some (.inl (X.2.1 2, 178, .inl (upd sf L.length (nI (48 + v % 10))))) := by rw [hp3]; exact hv_us
  exact hv_vret C0 w hr hlk (⟨_, by rw [he9]; exact hh.push, by rw [he9]; exact hp3⟩) dX7_saysNumber_25

theorem wr_p4 {V : hv_V} {a b : Nat} {e1 e2 g1 g2 : va_E} (hab : a ≠ b) : hv_up (hv_up (hv_up (hv_up V a e1) b e2) a g1) b g2 = hv_up (hv_up V a g1) b g2 := by
  rw [hv_uc (V := hv_up V a e1) (a := b) (b := a) (Ne.symm hab), hv_uu, hv_uu]
set_option maxHeartbeats 4000000 in
set_option maxRecDepth 100000 in
theorem c_X7_saysNl {l : Launch} {X : hv_X} {V : hv_V} {mo : Nat} {ab be : Int64} {tx se ev bk : Nat} {pl cl ik : Int32} {L : List Int32} {sf : Nat → Int32} (hO : V mo = some (mE mo ab be tx pl cl (nI L.length) se ev bk ik)) (hS : V (mo + 13) = some (bE X 178 sf)) {v d : Nat} (hh : wr_h sf L) (hg : L.length + (d + 1) < 178) (hv : v < 2 ^ 31) (hv2 : v < 10 ^ (d + 1 + 1)) (h9 : 9 < v) (ih : ∀ {V : hv_V} {L : List Int32} {sf : Nat → Int32} {v : Nat}, V mo = some (mE mo ab be tx pl cl (nI L.length) se ev bk ik) → V (mo + 13) = some (bE X 178 sf) → wr_h sf L → L.length + d < 178 → v < 2 ^ 31 → v < 10 ^ (d + 1) → hv_Mv l X (d + 1) yX7_saysNumber cX7_saysNumber 2 V [.ref mo, .int (nI v)] (fun V1 => ∃ sf1 : Nat → Int32, wr_h sf1 (L ++ wr_d d v) ∧ V1 = hv_up (hv_up V mo (mE mo ab be tx pl cl (nI (L ++ wr_d d v).length) se ev bk ik)) (mo + 13) (bE X 178 sf1))) : hv_Mv l X (d + 1 + 1) yX7_saysNumber cX7_saysNumber 2 V [.ref mo, .int (nI v)] (fun V1 => ∃ sf1 : Nat → Int32, wr_h sf1 (L ++ wr_d (d + 1) v) ∧ V1 = hv_up (hv_up V mo (mE mo ab be tx pl cl (nI (L ++ wr_d (d + 1) v).length) se ev bk ik)) (mo + 13) (bE X 178 sf1)) := by
  refine hv_enter (by decide) (Nat.le_of_ble_eq_true rfl) ?_
  intro p e s m below meth c ls C0 hr hlk hnm w hl
  have hl : lv_has ls 2 [(0, .ref mo), (1, .int (nI v))] := hl
  have he9 : wr_d (d + 1) v = wr_d d (v / 10) ++ [nI (48 + v % 10)] := by rw [wr_d, if_pos h9]
  refine lv_iload_n C0.1 C0.2.1 dX7_saysNumber_0 rfl (lv_at hl 1 rfl) ?_
  refine lv_bipush (v := 9) C0.1 C0.2.1 dX7_saysNumber_1 (by decide) ?_
  refine lv_icmp_le (tgt := 14) C0.1 C0.2.1 dX7_saysNumber_3 (by decide) (fun c_3 => absurd c_3 (show ¬ nI v ≤ nI 9 from nI_ge (by omega) (by omega))) (fun c_3 => ?_)
  refine lv_aload_n C0.1 C0.2.1 dX7_saysNumber_6 rfl (lv_at hl 0 rfl) ?_
  refine lv_iload_n C0.1 C0.2.1 dX7_saysNumber_7 rfl (lv_at hl 1 rfl) ?_
  refine lv_bipush (v := 10) C0.1 C0.2.1 dX7_saysNumber_8 (by decide) ?_
  refine lv_idiv C0.1 C0.2.1 dX7_saysNumber_10 (by decide) ?_
  rw [nI_div10 hv]
  refine hv_cVv C0 w kl_X7_255 kv_X7_saysNumber rfl hO (ih (v := v / 10) hO hS hh (by omega) (by omega) (by rw [Nat.pow_succ] at hv2; omega)) (Nat.le_refl _) (by decide) rfl hl.1 rfl (Nat.le_of_ble_eq_true rfl) dX7_saysNumber_11 ⟨Nat.le_refl _, Nat.le_refl _⟩ (fun V2 Hq lq hp3 w => ?_)
  obtain ⟨sf2, hh2, e2⟩ := hp3
  have hL2 : (L ++ wr_d d (v / 10)).length ≤ L.length + (d + 1) := by rw [List.length_append, wr_len]; have := wr_cl d (v / 10 / 10); omega
  obtain ⟨L2, hLe⟩ : ∃ L2, L2 = L ++ wr_d d (v / 10) := ⟨_, rfl⟩
  rw [← hLe] at hh2 e2 hL2
  have hV4 : V2 mo = some (.inr (7, [.ref (mo + 1), .ref (mo + 2), .ref (mo + 3), .long ab, .long be, .ref (mo + 10), .int (nI tx), .int pl, .int cl, .ref (mo + 11), .ref (mo + 12), .ref (mo + 13), .int (nI L2.length), .ref (mo + 14), .ref (mo + 15), .ref (mo + 16), .ref (mo + 17), .int (nI se), .ref (mo + 18), .ref (mo + 19), .int (nI ev), .ref (mo + 20), .ref (mo + 21), .ref (mo + 22), .int (nI bk), .int ik, .ref (mo + 23), .ref (mo + 24), .ref (mo + 25), .ref (mo + 26), .ref (mo + 33), .ref (mo + 41), .ref (mo + 42), .ref (mo + 43)])) := by rw [e2, hv_un (by omega)]; exact hv_us
  have hV5 : V2 (mo + 13) = some (.inl (X.2.1 2, 178, .inl sf2)) := by rw [e2]; exact hv_us
  refine lv_aload_n C0.1 C0.2.1 dX7_saysNumber_14 rfl (lv_at hl 0 rfl) ?_
  refine lv_bipush (v := 48) C0.1 C0.2.1 dX7_saysNumber_15 (by decide) ?_
  refine lv_iload_n C0.1 C0.2.1 dX7_saysNumber_17 rfl (lv_at hl 1 rfl) ?_
  refine lv_bipush (v := 10) C0.1 C0.2.1 dX7_saysNumber_18 (by decide) ?_
  refine lv_irem C0.1 C0.2.1 dX7_saysNumber_20 (by decide) ?_
  refine lv_iadd C0.1 C0.2.1 dX7_saysNumber_21 ?_
  rw [show (48 : Int32) + (nI v - nI v / 10 * 10) = nI (48 + v % 10) from by rw [nI_mod10 hv, show (48 : Int32) = nI 48 from rfl, nI_add]]
  refine hv_cVv C0 w kl_X7_259 kv_X7_says rfl hV4 (c_X7_says (L := L2) hV4 hV5 (by omega) (by omega)) (by omega) (by decide) rfl hl.1 rfl (Nat.le_of_ble_eq_true rfl) dX7_saysNumber_22 ⟨Nat.le_refl _, Nat.le_refl _⟩ (fun V7 Hq lq hp8 w => ?_)
  have hV9 : V7 mo = some (.inr (7, [.ref (mo + 1), .ref (mo + 2), .ref (mo + 3), .long ab, .long be, .ref (mo + 10), .int (nI tx), .int pl, .int cl, .ref (mo + 11), .ref (mo + 12), .ref (mo + 13), .int (nI (L2 ++ [nI (48 + v % 10)]).length), .ref (mo + 14), .ref (mo + 15), .ref (mo + 16), .ref (mo + 17), .int (nI se), .ref (mo + 18), .ref (mo + 19), .int (nI ev), .ref (mo + 20), .ref (mo + 21), .ref (mo + 22), .int (nI bk), .int ik, .ref (mo + 23), .ref (mo + 24), .ref (mo + 25), .ref (mo + 26), .ref (mo + 33), .ref (mo + 41), .ref (mo + 42), .ref (mo + 43)])) := by rw [hp8, hv_un (by omega)]; exact hv_us
  have hV10 : V7 (mo + 13) = some (.inl (X.2.1 2, 178, .inl (upd sf2 L2.length (nI (48 + v % 10))))) := by rw [hp8]; exact hv_us
  exact hv_vret C0 w hr hlk (⟨_, by rw [he9, ← List.append_assoc, ← hLe]; exact hh2.push, by rw [he9, ← List.append_assoc, ← hLe, hp8, e2, wr_p4 (by omega)]⟩) dX7_saysNumber_25

theorem c_X7_saysNumber {l : Launch} {X : hv_X} {mo : Nat} {ab be : Int64} {tx se ev bk : Nat} {pl cl ik : Int32} : ∀ (d : Nat) {V : hv_V} {L : List Int32} {sf : Nat → Int32} {v : Nat}, V mo = some (mE mo ab be tx pl cl (nI L.length) se ev bk ik) → V (mo + 13) = some (bE X 178 sf) → wr_h sf L → L.length + d < 178 → v < 2 ^ 31 → v < 10 ^ (d + 1) → hv_Mv l X (d + 1) yX7_saysNumber cX7_saysNumber 2 V [.ref mo, .int (nI v)] (fun V1 => ∃ sf1 : Nat → Int32, wr_h sf1 (L ++ wr_d d v) ∧ V1 = hv_up (hv_up V mo (mE mo ab be tx pl cl (nI (L ++ wr_d d v).length) se ev bk ik)) (mo + 13) (bE X 178 sf1))
  | 0, V, L, sf, v, h1, h2, h3, h4, h5, h6 => c_X7_saysNs h1 h2 h3 h4 (by omega)
  | d + 1, V, L, sf, v, h1, h2, h3, h4, h5, h6 => by
    rcases Nat.lt_or_ge 9 v with h9 | h9
    · exact c_X7_saysNl h1 h2 h3 h4 h5 h6 h9 (fun a b c e f g => c_X7_saysNumber d a b c e f g)
    · exact c_X7_saysNs h1 h2 h3 (by omega) h9
