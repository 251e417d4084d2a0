/-! THE CLASS's constructor -/
theorem hw_ne {o a b : Nat} (h : a ≠ b) : o + a ≠ o + b := fun e => h (Nat.add_left_cancel e)
theorem hw_n0 {o a : Nat} (h : 0 < a) : o ≠ o + a := by omega
theorem hw_0n {o a : Nat} (h : 0 < a) : o + a ≠ o := by omega
theorem hw_lt {o a b : Nat} (h : a < b) : o + a < o + b := Nat.add_lt_add_left h o
theorem hw_l0 {o a : Nat} (h : 0 < a) : o < o + a := by omega
theorem hw_rne {o q lo hi a : Nat} (h7 : o + lo ≤ q) (h8 : q < o + hi) (h : a < lo ∨ hi ≤ a) : q ≠ o + a := by omega
theorem hw_r0 {o q lo : Nat} (h7 : o + lo ≤ q) (h : 0 < lo) : q ≠ o := by omega
theorem hw_rlt {o q hi a : Nat} (h8 : q < o + hi) (h : hi ≤ a) : q < o + a := by omega
theorem hw_q1 {o q a : Nat} (h : q < o) : q ≠ o + a := by omega
theorem hw_q2 {o q a : Nat} (h : q < o) : q < o + a := by omega
theorem hw_sz0 {a c o : Nat} (h1 : c ≤ a + 0) (h2 : a = o + 1) (h3 : a ≤ c) : c = o + 1 := by omega
theorem hw_szk {a c o k k1 : Nat} (h1 : c ≤ a + k) (h2 : a = o + 1) (h3 : o + k < c) (h4 : k1 = k + 1) : c = o + k1 := by omega
theorem hw_A1 {X : hv_X} {o a : Nat} (hA : ∀ q, o < q → X.2.2.1 q) : ∀ q, o + a < q → X.2.2.1 q := fun q h => hA q (by omega)
set_option maxHeartbeats 8000000 in
set_option maxRecDepth 100000 in
theorem n_X6_l1 {p : Program} {l : Launch} {e : Env} {s : State} {m : MethodId} {args : Array Value} {below : List Frame} {meth : Method} {c : Code} {X : hv_X} {Vs : hv_V} {o : Nat} {fs : List Value} {Q : State → Prop} (C0 : hv_C X p s m args c cX6_init 2 RX6) (hOO : hv_O s) (hz0 : s.heap.size = o + 1) (hA : ∀ q, o < q → X.2.2.1 q) (hfs : fs[4]? = some (.ref (o + 57))) (kk : ∀ (V9 : hv_V) (rf9 : Nat → Option Nat) (Hq : Heap) (lq : List Loc) (ls : Array Slot), (V9 o = some (.inr (6, fs))) → (V9 (o + 57) = some (qE X 4 6 rf9)) → (∀ j, j < 6 → rf9 j = some (o + 64 + 2 * j)) → (∀ j, j < 6 → V9 (o + 64 + 2 * j) = some (tE (o + 64 + 2 * j) (-1) 0) ∧ V9 (o + 64 + 2 * j + 1) = some (jE X (fun _ => 0))) → (∀ q : Nat, (q < o + 64 ∧ q ≠ o + 57) → V9 q = Vs q) → hv_w X s V9 Hq lq → lv_has ls 2 [(0, .ref o), (1, .int (nI 6))] → W p l e (hv_rm 3 91 1034) s m args below meth c Hq lq (75) (986) Q (F0 m 122 ls [])) : ∀ (m9 i9 : Nat) (V8 : hv_V) (rf8 : Nat → Option Nat) (Hq : Heap) (lq : List Loc) (ls : Array Slot), i9 + m9 = 6 → (V8 o = some (.inr (6, fs))) → (V8 (o + 57) = some (qE X 4 6 rf8)) → (∀ j, j < i9 → rf8 j = some (o + 64 + 2 * j)) → (∀ j, j < i9 → V8 (o + 64 + 2 * j) = some (tE (o + 64 + 2 * j) (-1) 0) ∧ V8 (o + 64 + 2 * j + 1) = some (jE X (fun _ => 0))) → (∀ q : Nat, (q < o + 64 ∧ q ≠ o + 57) → V8 q = Vs q) → Hq.size = o + 64 + 2 * i9 → hv_w X s V8 Hq lq → lv_has ls 2 [(0, .ref o), (1, .int (nI i9))] → W p l e (hv_rm 3 91 1034) s m args below meth c Hq lq (63 + 2 * i9) (608 + 63 * i9) Q (F0 m 97 ls []) := by
  have hAA : ∀ q, s.heap.size ≤ q → X.2.2.1 q := fun q h => hA q (by omega)
  intro m9
  induction m9 with
  | zero =>
    intro i9 V8 rf8 Hq lq ls hi q0 ha8 hrf8 hel8 hf8 hz8 w hl
    obtain rfl : i9 = 6 := by omega
    refine lv_iload_n C0.1 C0.2.1 dX6_init_97 rfl (lv_at hl 1 rfl) ?_
    refine lv_bipush (v := 6) C0.1 C0.2.1 dX6_init_98 (by decide) ?_
    refine lv_icmp_ge (tgt := 122) C0.1 C0.2.1 dX6_init_100 (by decide) (fun c_100 => ?_) (fun c_100 => absurd (show nI 6 ≤ nI 6 from nI_le (Nat.le_refl _) (by decide)) c_100)
    exact kk V8 rf8 _ _ ls q0 ha8 hrf8 hel8 hf8 w (lv_sub hl [0, 1] rfl)
  | succ m9 ih =>
    intro i9 V8 rf8 Hq lq ls hi q0 ha8 hrf8 hel8 hf8 hz8 w hl
    refine lv_iload_n C0.1 C0.2.1 dX6_init_97 rfl (lv_at hl 1 rfl) ?_
    refine lv_bipush (v := 6) C0.1 C0.2.1 dX6_init_98 (by decide) ?_
    refine lv_icmp_ge (tgt := 122) C0.1 C0.2.1 dX6_init_100 (by decide) (fun c_100 => absurd c_100 (show ¬ nI 6 ≤ nI i9 from nI_ge (by omega) (by omega))) (fun c_100 => ?_)
    refine lv_aload_n C0.1 C0.2.1 dX6_init_103 rfl (lv_at hl 0 rfl) ?_
    refine gf_X6_30 C0 w q0 hfs dX6_init_104 ?_
    refine lv_iload_n C0.1 C0.2.1 dX6_init_107 rfl (lv_at hl 1 rfl) ?_
    refine hw_sz (fun hzz => ?_)
    refine hv_new (fs := [.int 0, .int 0, .null]) C0 w hAA kc_X5 kx_X6_28 kn_X5 kz_X5 (fun j hj => by rcases (show j = 0 ∨ j = 1 ∨ j = 2 by omega) with rfl | rfl | rfl <;> rfl) (show 63 + 2 * i9 + 1 ≤ 91 by omega) (show 608 + 63 * i9 + 3 ≤ 1034 by omega) (sz := o + 64 + 2 * i9) (by have h7 := w.2.1; omega) dX6_init_108 (fun Hq w _ => ?_)
    refine W.widen (k := 63 + 2 * i9 + 1) (n := 608 + 63 * i9 + 3) (by omega) (by omega) ?_
    obtain ⟨V1, eV2⟩ : ∃ W9, W9 = hv_up V8 (o + 64 + 2 * i9) (.inr (5, [.int 0, .int 0, .null])) := ⟨_, rfl⟩
    rw [← eV2] at w
    have hN3 : V1 (o + 64 + 2 * i9) = some (.inr (5, [.int 0, .int 0, .null])) := by rw [eV2]; exact hv_us
    have fr4 : ∀ q : Nat, q ≠ o + 64 + 2 * i9 → V1 q = V8 q := fun q h => by rw [eV2]; exact hv_un h
    have hV5 : V1 o = some (.inr (6, fs)) := (fr4 _ (by omega)).trans q0
    have hV6 : V1 (o + 57) = some (.inl (X.2.1 4, 6, .inr (.inr (.inr (.inr rf8))))) := (fr4 _ (by omega)).trans ha8
    refine lv_dup C0.1 C0.2.1 dX6_init_111 rfl ?_
    refine hw_sz (fun hzz => ?_)
    refine hv_cI C0 hOO w kl_X6_59 ki_X5_init (n_X5_init (o := o + 64 + 2 * i9) (fun q h => hA q (by omega)) hN3) (by have h7 := w.2.1; have h6 := w.1.lt hN3; omega) (by decide) (by decide) rfl hl.1 rfl (Nat.le_of_ble_eq_true rfl) dX6_init_112 ⟨(show 63 + 2 * i9 + 1 + 1 ≤ 91 by omega), (show 608 + 63 * i9 + 3 + 60 ≤ 1034 by omega)⟩ (fun V7 Hq lq hp8 w _ => ?_)
    refine W.widen (k := 63 + 2 * i9 + 1 + 1) (n := 608 + 63 * i9 + 3 + 60) (by omega) (by omega) ?_
    obtain ⟨p0, p1, pf9⟩ := hp8
    have fr10 : ∀ q : Nat, q < o + 64 + 2 * i9 → V7 q = V1 q := pf9
    have hV11 : V7 o = some (.inr (6, fs)) := (fr10 _ (by omega)).trans hV5
    have hV12 : V7 (o + 57) = some (.inl (X.2.1 4, 6, .inr (.inr (.inr (.inr rf8))))) := (fr10 _ (by omega)).trans hV6
    have hT13 : V7 (o + 64 + 2 * i9) = some (tE (o + 64 + 2 * i9) (-1) 0) ∧ V7 (o + 64 + 2 * i9 + 1) = some (jE X (fun _ => 0)) := ⟨p0, p1⟩
    have hN14 := p1
    refine hv_astq 4 C0 w rfl (r := (RX5, TX5, 3)) rfl hV12 hT13.1 (hn_in (by omega) (by decide)) dX6_init_115 (fun Hq lq w => ?_)
    rw [nI_clamp (by omega)] at w
    obtain ⟨V15, eV16⟩ : ∃ W9, W9 = hv_up V7 (o + 57) (.inl (X.2.1 4, 6, .inr (.inr (.inr (.inr (va_up rf8 i9 (some (o + 64 + 2 * i9)))))))) := ⟨_, rfl⟩
    have w : hv_w X s V15 Hq lq := by rw [eV16]; exact w
    have fr17 : ∀ q : Nat, q ≠ o + 57 → V15 q = V7 q := fun q h => by rw [eV16]; exact hv_un h
    have hV18 : V15 o = some (.inr (6, fs)) := (fr17 _ (by omega)).trans hV11
    have hT19 : V15 (o + 64 + 2 * i9) = some (tE (o + 64 + 2 * i9) (-1) 0) ∧ V15 (o + 64 + 2 * i9 + 1) = some (jE X (fun _ => 0)) := ⟨(fr17 _ (by omega)).trans hT13.1, (fr17 _ (by omega)).trans hT13.2⟩
    have hV20 : V15 (o + 57) = some (.inl (X.2.1 4, 6, .inr (.inr (.inr (.inr (va_up rf8 i9 (some (o + 64 + 2 * i9)))))))) := by rw [eV16]; exact hv_us
    have hN21 := (fr17 _ (by omega)).trans hN14
    refine lv_iinc (v := (nI i9) + 1) (lv' := [(1, .int ((nI i9) + 1)), (0, .ref o)]) C0.1 C0.2.1 dX6_init_116 hl (k := 1) rfl rfl (by decide) rfl (fun ls hl => ?_)
    refine lv_goto (tgt := 97) C0.1 C0.2.1 dX6_init_119 (by decide) ?_
    have hel9 : ∀ j, j < i9 + 1 → V15 (o + 64 + 2 * j) = some (tE (o + 64 + 2 * j) (-1) 0) ∧ V15 (o + 64 + 2 * j + 1) = some (jE X (fun _ => 0)) := by
      intro j hj
      rcases Nat.lt_or_ge j i9 with r9 | r9
      · exact ⟨((fr17 _ (by omega)).trans ((fr10 _ (by omega)).trans (fr4 _ (by omega)))).trans (hel8 j r9).1, ((fr17 _ (by omega)).trans ((fr10 _ (by omega)).trans (fr4 _ (by omega)))).trans (hel8 j r9).2⟩
      · rw [show j = i9 by omega]; exact hT19
    refine hw_sz (fun hzz => ?_)
    refine W.widen (k := 63 + 2 * (i9 + 1)) (n := 608 + 63 * (i9 + 1)) (by omega) (by omega) ?_
    exact ih (i9 + 1) V15 _ _ _ ls (by omega) hV18 hV20 (hw_rf (f := fun j => o + 64 + 2 * j) hrf8) hel9 (fun q9 h9 => ((fr17 q9 (by omega)).trans ((fr10 q9 (by omega)).trans (fr4 q9 (by omega)))).trans (hf8 q9 h9)) (by have h7 := w.2.1; have h6 := w.1.lt hN21; omega) w (by have h9 := (lv_sub (l' := [(0, .ref o), (1, .int (nI i9 + 1))]) hl [1, 0] rfl); rw [nI_1] at h9; exact h9)

set_option maxHeartbeats 8000000 in
set_option maxRecDepth 100000 in
theorem n_X6_l2 {p : Program} {l : Launch} {e : Env} {s : State} {m : MethodId} {args : Array Value} {below : List Frame} {meth : Method} {c : Code} {X : hv_X} {Vs : hv_V} {o : Nat} {fs : List Value} {Q : State → Prop} (C0 : hv_C X p s m args c cX6_init 2 RX6) (hOO : hv_O s) (hz0 : s.heap.size = o + 1) (hA : ∀ q, o < q → X.2.2.1 q) (hfs : fs[8]? = some (.ref (o + 62))) (kk : ∀ (V9 : hv_V) (rf9 : Nat → Option Nat) (Hq : Heap) (lq : List Loc) (ls : Array Slot), (V9 o = some (.inr (6, fs))) → (V9 (o + 62) = some (qE X 5 16 rf9)) → (∀ j, j < 16 → rf9 j = some (o + 76 + j)) → (∀ j, j < 16 → V9 (o + 76 + j) = some (fE (0, 1, 1))) → (∀ q : Nat, (q < o + 76 ∧ q ≠ o + 62) → V9 q = Vs q) → hv_w X s V9 Hq lq → lv_has ls 2 [(0, .ref o), (1, .int (nI 16))] → W p l e (hv_rm 3 91 1034) s m args below meth c Hq lq (91) (1034) Q (F0 m 149 ls [])) : ∀ (m9 i9 : Nat) (V8 : hv_V) (rf8 : Nat → Option Nat) (Hq : Heap) (lq : List Loc) (ls : Array Slot), i9 + m9 = 16 → (V8 o = some (.inr (6, fs))) → (V8 (o + 62) = some (qE X 5 16 rf8)) → (∀ j, j < i9 → rf8 j = some (o + 76 + j)) → (∀ j, j < i9 → V8 (o + 76 + j) = some (fE (0, 1, 1))) → (∀ q : Nat, (q < o + 76 ∧ q ≠ o + 62) → V8 q = Vs q) → Hq.size = o + 76 + i9 → hv_w X s V8 Hq lq → lv_has ls 2 [(0, .ref o), (1, .int (nI i9))] → W p l e (hv_rm 3 91 1034) s m args below meth c Hq lq (75 + 1 * i9) (986 + 3 * i9) Q (F0 m 124 ls []) := by
  have hAA : ∀ q, s.heap.size ≤ q → X.2.2.1 q := fun q h => hA q (by omega)
  intro m9
  induction m9 with
  | zero =>
    intro i9 V8 rf8 Hq lq ls hi q0 ha8 hrf8 hel8 hf8 hz8 w hl
    obtain rfl : i9 = 16 := by omega
    refine lv_iload_n C0.1 C0.2.1 dX6_init_124 rfl (lv_at hl 1 rfl) ?_
    refine lv_bipush (v := 16) C0.1 C0.2.1 dX6_init_125 (by decide) ?_
    refine lv_icmp_ge (tgt := 149) C0.1 C0.2.1 dX6_init_127 (by decide) (fun c_127 => ?_) (fun c_127 => absurd (show nI 16 ≤ nI 16 from nI_le (Nat.le_refl _) (by decide)) c_127)
    exact kk V8 rf8 _ _ ls q0 ha8 hrf8 hel8 hf8 w (lv_sub hl [0, 1] rfl)
  | succ m9 ih =>
    intro i9 V8 rf8 Hq lq ls hi q0 ha8 hrf8 hel8 hf8 hz8 w hl
    refine lv_iload_n C0.1 C0.2.1 dX6_init_124 rfl (lv_at hl 1 rfl) ?_
    refine lv_bipush (v := 16) C0.1 C0.2.1 dX6_init_125 (by decide) ?_
    refine lv_icmp_ge (tgt := 149) C0.1 C0.2.1 dX6_init_127 (by decide) (fun c_127 => absurd c_127 (show ¬ nI 16 ≤ nI i9 from nI_ge (by omega) (by omega))) (fun c_127 => ?_)
    refine lv_aload_n C0.1 C0.2.1 dX6_init_130 rfl (lv_at hl 0 rfl) ?_
    refine gf_X6_51 C0 w q0 hfs dX6_init_131 ?_
    refine lv_iload_n C0.1 C0.2.1 dX6_init_134 rfl (lv_at hl 1 rfl) ?_
    refine hw_sz (fun hzz => ?_)
    refine hv_new (fs := [.long 0, .long 0, .int 0]) C0 w hAA kc_X0 kx_X6_41 kn_X0 kz_X0 (fun j hj => by rcases (show j = 0 ∨ j = 1 ∨ j = 2 by omega) with rfl | rfl | rfl <;> rfl) (show 75 + 1 * i9 + 1 ≤ 91 by omega) (show 986 + 3 * i9 + 3 ≤ 1034 by omega) (sz := o + 76 + i9) (by have h7 := w.2.1; omega) dX6_init_135 (fun Hq w _ => ?_)
    refine W.widen (k := 75 + 1 * i9 + 1) (n := 986 + 3 * i9 + 3) (by omega) (by omega) ?_
    obtain ⟨V1, eV2⟩ : ∃ W9, W9 = hv_up V8 (o + 76 + i9) (.inr (0, [.long 0, .long 0, .int 0])) := ⟨_, rfl⟩
    rw [← eV2] at w
    have hN3 : V1 (o + 76 + i9) = some (.inr (0, [.long 0, .long 0, .int 0])) := by rw [eV2]; exact hv_us
    have fr4 : ∀ q : Nat, q ≠ o + 76 + i9 → V1 q = V8 q := fun q h => by rw [eV2]; exact hv_un h
    have hV5 : V1 o = some (.inr (6, fs)) := (fr4 _ (by omega)).trans q0
    have hV6 : V1 (o + 62) = some (.inl (X.2.1 5, 16, .inr (.inr (.inr (.inr rf8))))) := (fr4 _ (by omega)).trans ha8
    refine lv_dup C0.1 C0.2.1 dX6_init_138 rfl ?_
    refine hw_sz (fun hzz => ?_)
    refine hv_cI C0 hOO w kl_X6_43 ki_X0_init (n_X0_init (o := o + 76 + i9) (fun q h => hA q (by omega)) hN3) (by have h7 := w.2.1; have h6 := w.1.lt hN3; omega) (by decide) (by decide) rfl hl.1 rfl (Nat.le_of_ble_eq_true rfl) dX6_init_139 ⟨(show 75 + 1 * i9 + 1 + 0 ≤ 91 by omega), (show 986 + 3 * i9 + 3 + 0 ≤ 1034 by omega)⟩ (fun V7 Hq lq hp8 w _ => ?_)
    refine W.widen (k := 75 + 1 * i9 + 1 + 0) (n := 986 + 3 * i9 + 3 + 0) (by omega) (by omega) ?_
    obtain ⟨p0, pf9⟩ := hp8
    have fr10 : ∀ q : Nat, q < o + 76 + i9 → V7 q = V1 q := pf9
    have hV11 : V7 o = some (.inr (6, fs)) := (fr10 _ (by omega)).trans hV5
    have hV12 : V7 (o + 62) = some (.inl (X.2.1 5, 16, .inr (.inr (.inr (.inr rf8))))) := (fr10 _ (by omega)).trans hV6
    have hT13 : V7 (o + 76 + i9) = some (fE (0, 1, 1)) := p0
    have hN14 := p0
    refine hv_astq 5 C0 w rfl (r := (RX0, TX0, 3)) rfl hV12 hT13 (hn_in (by omega) (by decide)) dX6_init_142 (fun Hq lq w => ?_)
    rw [nI_clamp (by omega)] at w
    obtain ⟨V15, eV16⟩ : ∃ W9, W9 = hv_up V7 (o + 62) (.inl (X.2.1 5, 16, .inr (.inr (.inr (.inr (va_up rf8 i9 (some (o + 76 + i9)))))))) := ⟨_, rfl⟩
    have w : hv_w X s V15 Hq lq := by rw [eV16]; exact w
    have fr17 : ∀ q : Nat, q ≠ o + 62 → V15 q = V7 q := fun q h => by rw [eV16]; exact hv_un h
    have hV18 : V15 o = some (.inr (6, fs)) := (fr17 _ (by omega)).trans hV11
    have hT19 : V15 (o + 76 + i9) = some (fE (0, 1, 1)) := (fr17 _ (by omega)).trans hT13
    have hV20 : V15 (o + 62) = some (.inl (X.2.1 5, 16, .inr (.inr (.inr (.inr (va_up rf8 i9 (some (o + 76 + i9)))))))) := by rw [eV16]; exact hv_us
    have hN21 := (fr17 _ (by omega)).trans hN14
    refine lv_iinc (v := (nI i9) + 1) (lv' := [(1, .int ((nI i9) + 1)), (0, .ref o)]) C0.1 C0.2.1 dX6_init_143 hl (k := 1) rfl rfl (by decide) rfl (fun ls hl => ?_)
    refine lv_goto (tgt := 124) C0.1 C0.2.1 dX6_init_146 (by decide) ?_
    have hel9 : ∀ j, j < i9 + 1 → V15 (o + 76 + j) = some (fE (0, 1, 1)) := by
      intro j hj
      rcases Nat.lt_or_ge j i9 with r9 | r9
      · exact ((fr17 _ (by omega)).trans ((fr10 _ (by omega)).trans (fr4 _ (by omega)))).trans (hel8 j r9)
      · rw [show j = i9 by omega]; exact hT19
    refine hw_sz (fun hzz => ?_)
    refine W.widen (k := 75 + 1 * (i9 + 1)) (n := 986 + 3 * (i9 + 1)) (by omega) (by omega) ?_
    exact ih (i9 + 1) V15 _ _ _ ls (by omega) hV18 hV20 (hw_rf (f := fun j => o + 76 + j) hrf8) hel9 (fun q9 h9 => ((fr17 q9 (by omega)).trans ((fr10 q9 (by omega)).trans (fr4 q9 (by omega)))).trans (hf8 q9 h9)) (by have h7 := w.2.1; have h6 := w.1.lt hN21; omega) w (by have h9 := (lv_sub (l' := [(0, .ref o), (1, .int (nI i9 + 1))]) hl [1, 0] rfl); rw [nI_1] at h9; exact h9)

theorem hw_t0 {o j : Nat} (h : j < 6) : o + 64 + 2 * j < o + 76 ∧ o + 64 + 2 * j ≠ o + 62 := by omega
theorem hw_t1 {o j : Nat} (h : j < 6) : o + 64 + 2 * j + 1 < o + 76 ∧ o + 64 + 2 * j + 1 ≠ o + 62 := by omega
theorem hw_fin91 {a b c : Nat} (h1 : c ≤ a + 91) (h2 : a = b + 1) (h3 : b + 76 + 15 < c) : c = b + 1 + 91 := by omega
set_option maxHeartbeats 8000000 in
set_option maxRecDepth 100000 in
theorem n_X6_init {l : Launch} {X : hv_X} {V : hv_V} {o : Nat} (hA : ∀ q, o < q → X.2.2.1 q) (hO : V o = some (.inr (6, [.null, .null, .int 0, .null, .null, .null, .null, .null, .null, .null]))) : hv_Mc l X 3 yX6_init cX6_init 2 (o + 1) 91 1034 V [.ref o] (fun V1 => okX X V1 o hs_0 ∧ ∀ q : Nat, q < o → V1 q = V q) := by
  refine hv_enterC (by decide) (Nat.le_of_ble_eq_true rfl) ?_
  intro p e s m below meth c ls C0 hOO hz0 hr hlk hnm w hl
  have hAA : ∀ q, s.heap.size ≤ q → X.2.2.1 q := fun q h => hA q (by omega)
  have hl : lv_has ls 2 [(0, .ref o)] := hl
  refine lv_aload_n C0.1 C0.2.1 dX6_init_0 rfl (lv_at hl 0 rfl) ?_
  refine hv_objI C0 ko_X6 hl.1 dX6_init_1 (by decide) ?_
  refine lv_aload_n C0.1 C0.2.1 dX6_init_4 rfl (lv_at hl 0 rfl) ?_
  refine hw_sz (fun hzz => ?_)
  refine hv_new (fs := [.null, .null, .null, .null]) C0 w hAA kc_X2 kx_X6_9 kn_X2 kz_X2 (fun j hj => by rcases (show j = 0 ∨ j = 1 ∨ j = 2 ∨ j = 3 by omega) with rfl | rfl | rfl | rfl <;> rfl) (Nat.le_of_ble_eq_true rfl) (Nat.le_of_ble_eq_true rfl) (sz := o + 1) (hw_sz0 hzz hz0 w.2.1) dX6_init_5 (fun Hq w _ => ?_)
  clear hzz
  refine W.widen (k := 1) (n := 4) (Nat.le_of_ble_eq_true rfl) (Nat.le_of_ble_eq_true rfl) ?_
  obtain ⟨V1, eV2⟩ : ∃ W9, W9 = hv_up V (o + 1) (.inr (2, [.null, .null, .null, .null])) := ⟨_, rfl⟩
  rw [← eV2] at w
  have hV3 : V1 (o + 1) = some (.inr (2, [.null, .null, .null, .null])) := by rw [eV2]; exact hv_us
  have fr4 : ∀ q : Nat, q ≠ o + 1 → V1 q = V q := fun q h => by rw [eV2]; exact hv_un h
  have hV5 : V1 o = some (.inr (6, [.null, .null, .int 0, .null, .null, .null, .null, .null, .null, .null])) := (fr4 _ (hw_n0 (by decide))).trans hO
  have hF6 : ∀ q : Nat, q < o → V1 q = V q := fun q hq => (fr4 q (hw_q1 hq)).trans ((fun _ _ => rfl) q hq)
  clear fr4 eV2
  refine lv_dup C0.1 C0.2.1 dX6_init_8 rfl ?_
  refine hw_sz (fun hzz => ?_)
  refine hv_cI C0 hOO w kl_X6_11 ki_X2_init (n_X2_init (o := o + 1) (hw_A1 hA) hV3) (hw_szk (o := o) (k := 1) (k1 := 2) hzz hz0 (w.1.lt hV3) rfl) (by decide) (by decide) rfl hl.1 rfl (Nat.le_of_ble_eq_true rfl) dX6_init_9 ⟨Nat.le_of_ble_eq_true rfl, Nat.le_of_ble_eq_true rfl⟩ (fun V7 Hq lq hp8 w _ => ?_)
  clear hzz
  refine W.widen (k := 26) (n := 196) (Nat.le_of_ble_eq_true rfl) (Nat.le_of_ble_eq_true rfl) ?_
  clear hV3
  obtain ⟨p0, pf9⟩ := hp8
  have fr10 : ∀ q : Nat, q < o + 1 → V7 q = V1 q := pf9
  have hV11 : V7 o = some (.inr (6, [.null, .null, .int 0, .null, .null, .null, .null, .null, .null, .null])) := (fr10 _ (hw_l0 (by decide))).trans hV5
  have hF12 : ∀ q : Nat, q < o → V7 q = V q := fun q hq => (fr10 q (hw_q2 hq)).trans (hF6 q hq)
  have hT13 : ok_page X V7 (o + 1) hs_P0 := p0
  clear fr10 hV5 hF6 pf9
  refine hv_putF C0 hnm w kc_X6 0 (by decide) rfl rfl hq_113 rfl hV11 rfl rfl (by simp) dX6_init_12 (fun Hq lq w => ?_)
  obtain ⟨V14, eV15⟩ : ∃ W9, W9 = hv_up V7 o (.inr (6, [.ref (o + 1), .null, .int 0, .null, .null, .null, .null, .null, .null, .null])) := ⟨_, rfl⟩
  have w : hv_w X s V14 Hq lq := by rw [eV15]; exact w
  have fr16 : ∀ q : Nat, q ≠ o → V14 q = V7 q := fun q h => by rw [eV15]; exact hv_un h
  have hT17 : ok_page X V14 (o + 1) hs_P0 := hT13.fr (fun q9 h7 h8 => fr16 q9 (hw_r0 (lo := 1) h7 (by decide)))
  have hF18 : ∀ q : Nat, q < o → V14 q = V q := fun q hq => (fr16 q (Nat.ne_of_lt hq)).trans (hF12 q hq)
  have hV19 : V14 o = some (.inr (6, [.ref (o + 1), .null, .int 0, .null, .null, .null, .null, .null, .null, .null])) := by rw [eV15]; exact hv_us
  clear fr16 hT13 hF12 eV15
  refine lv_aload_n C0.1 C0.2.1 dX6_init_15 rfl (lv_at hl 0 rfl) ?_
  refine hw_sz (fun hzz => ?_)
  refine hv_new (fs := [.null, .null, .null, .null]) C0 w hAA kc_X2 kx_X6_9 kn_X2 kz_X2 (fun j hj => by rcases (show j = 0 ∨ j = 1 ∨ j = 2 ∨ j = 3 by omega) with rfl | rfl | rfl | rfl <;> rfl) (Nat.le_of_ble_eq_true rfl) (Nat.le_of_ble_eq_true rfl) (sz := o + 27) (hw_szk (o := o) (k := 26) (k1 := 27) hzz hz0 (w.1.lt (hT17.2.2.1 5 (by decide)).2) rfl) dX6_init_16 (fun Hq w _ => ?_)
  clear hzz
  refine W.widen (k := 27) (n := 200) (Nat.le_of_ble_eq_true rfl) (Nat.le_of_ble_eq_true rfl) ?_
  obtain ⟨V20, eV21⟩ : ∃ W9, W9 = hv_up V14 (o + 27) (.inr (2, [.null, .null, .null, .null])) := ⟨_, rfl⟩
  rw [← eV21] at w
  have hV22 : V20 (o + 27) = some (.inr (2, [.null, .null, .null, .null])) := by rw [eV21]; exact hv_us
  have fr23 : ∀ q : Nat, q ≠ o + 27 → V20 q = V14 q := fun q h => by rw [eV21]; exact hv_un h
  have hV24 : V20 o = some (.inr (6, [.ref (o + 1), .null, .int 0, .null, .null, .null, .null, .null, .null, .null])) := (fr23 _ (hw_n0 (by decide))).trans hV19
  have hT25 : ok_page X V20 (o + 1) hs_P0 := hT17.fr (fun q9 h7 h8 => fr23 q9 (hw_rne (lo := 1) (hi := 27) h7 h8 (by decide)))
  have hF26 : ∀ q : Nat, q < o → V20 q = V q := fun q hq => (fr23 q (hw_q1 hq)).trans (hF18 q hq)
  clear fr23 hV19 hT17 hF18 eV21
  refine lv_dup C0.1 C0.2.1 dX6_init_19 rfl ?_
  refine hw_sz (fun hzz => ?_)
  refine hv_cI C0 hOO w kl_X6_11 ki_X2_init (n_X2_init (o := o + 27) (hw_A1 hA) hV22) (hw_szk (o := o) (k := 27) (k1 := 28) hzz hz0 (w.1.lt hV22) rfl) (by decide) (by decide) rfl hl.1 rfl (Nat.le_of_ble_eq_true rfl) dX6_init_20 ⟨Nat.le_of_ble_eq_true rfl, Nat.le_of_ble_eq_true rfl⟩ (fun V27 Hq lq hp28 w _ => ?_)
  clear hzz
  refine W.widen (k := 52) (n := 392) (Nat.le_of_ble_eq_true rfl) (Nat.le_of_ble_eq_true rfl) ?_
  clear hV22
  obtain ⟨p0, pf29⟩ := hp28
  have fr30 : ∀ q : Nat, q < o + 27 → V27 q = V20 q := pf29
  have hV31 : V27 o = some (.inr (6, [.ref (o + 1), .null, .int 0, .null, .null, .null, .null, .null, .null, .null])) := (fr30 _ (hw_l0 (by decide))).trans hV24
  have hT32 : ok_page X V27 (o + 1) hs_P0 := hT25.fr (fun q9 h7 h8 => fr30 q9 (hw_rlt (hi := 27) h8 (by decide)))
  have hF33 : ∀ q : Nat, q < o → V27 q = V q := fun q hq => (fr30 q (hw_q2 hq)).trans (hF26 q hq)
  have hT34 : ok_page X V27 (o + 27) hs_P0 := p0
  clear fr30 hV24 hT25 hF26 pf29
  refine hv_putF C0 hnm w kc_X6 1 (by decide) rfl rfl hq_114 rfl hV31 rfl rfl (by simp) dX6_init_23 (fun Hq lq w => ?_)
  obtain ⟨V35, eV36⟩ : ∃ W9, W9 = hv_up V27 o (.inr (6, [.ref (o + 1), .ref (o + 27), .int 0, .null, .null, .null, .null, .null, .null, .null])) := ⟨_, rfl⟩
  have w : hv_w X s V35 Hq lq := by rw [eV36]; exact w
  have fr37 : ∀ q : Nat, q ≠ o → V35 q = V27 q := fun q h => by rw [eV36]; exact hv_un h
  have hT38 : ok_page X V35 (o + 1) hs_P0 := hT32.fr (fun q9 h7 h8 => fr37 q9 (hw_r0 (lo := 1) h7 (by decide)))
  have hT39 : ok_page X V35 (o + 27) hs_P0 := hT34.fr (fun q9 h7 h8 => fr37 q9 (hw_r0 (lo := 27) h7 (by decide)))
  have hF40 : ∀ q : Nat, q < o → V35 q = V q := fun q hq => (fr37 q (Nat.ne_of_lt hq)).trans (hF33 q hq)
  have hV41 : V35 o = some (.inr (6, [.ref (o + 1), .ref (o + 27), .int 0, .null, .null, .null, .null, .null, .null, .null])) := by rw [eV36]; exact hv_us
  clear fr37 hT32 hT34 hF33 eV36
  refine lv_aload_n C0.1 C0.2.1 dX6_init_26 rfl (lv_at hl 0 rfl) ?_
  refine hw_sz (fun hzz => ?_)
  refine hv_new (fs := [.null, .int 0, .int 0, .int 0, .null, .null]) C0 w hAA kc_X4 kx_X6_21 kn_X4 kz_X4 (fun j hj => by rcases (show j = 0 ∨ j = 1 ∨ j = 2 ∨ j = 3 ∨ j = 4 ∨ j = 5 by omega) with rfl | rfl | rfl | rfl | rfl | rfl <;> rfl) (Nat.le_of_ble_eq_true rfl) (Nat.le_of_ble_eq_true rfl) (sz := o + 53) (hw_szk (o := o) (k := 52) (k1 := 53) hzz hz0 (w.1.lt (hT39.2.2.1 5 (by decide)).2) rfl) dX6_init_27 (fun Hq w _ => ?_)
  clear hzz
  refine W.widen (k := 53) (n := 398) (Nat.le_of_ble_eq_true rfl) (Nat.le_of_ble_eq_true rfl) ?_
  obtain ⟨V42, eV43⟩ : ∃ W9, W9 = hv_up V35 (o + 53) (.inr (4, [.null, .int 0, .int 0, .int 0, .null, .null])) := ⟨_, rfl⟩
  rw [← eV43] at w
  have hV44 : V42 (o + 53) = some (.inr (4, [.null, .int 0, .int 0, .int 0, .null, .null])) := by rw [eV43]; exact hv_us
  have fr45 : ∀ q : Nat, q ≠ o + 53 → V42 q = V35 q := fun q h => by rw [eV43]; exact hv_un h
  have hV46 : V42 o = some (.inr (6, [.ref (o + 1), .ref (o + 27), .int 0, .null, .null, .null, .null, .null, .null, .null])) := (fr45 _ (hw_n0 (by decide))).trans hV41
  have hT47 : ok_page X V42 (o + 1) hs_P0 := hT38.fr (fun q9 h7 h8 => fr45 q9 (hw_rne (lo := 1) (hi := 27) h7 h8 (by decide)))
  have hT48 : ok_page X V42 (o + 27) hs_P0 := hT39.fr (fun q9 h7 h8 => fr45 q9 (hw_rne (lo := 27) (hi := 53) h7 h8 (by decide)))
  have hF49 : ∀ q : Nat, q < o → V42 q = V q := fun q hq => (fr45 q (hw_q1 hq)).trans (hF40 q hq)
  clear fr45 hV41 hT38 hT39 hF40 eV43
  refine lv_dup C0.1 C0.2.1 dX6_init_30 rfl ?_
  refine hw_sz (fun hzz => ?_)
  refine hv_cI C0 hOO w kl_X6_23 ki_X4_init (n_X4_init (o := o + 53) (hw_A1 hA) hV44) (hw_szk (o := o) (k := 53) (k1 := 54) hzz hz0 (w.1.lt hV44) rfl) (by decide) (by decide) rfl hl.1 rfl (Nat.le_of_ble_eq_true rfl) dX6_init_31 ⟨Nat.le_of_ble_eq_true rfl, Nat.le_of_ble_eq_true rfl⟩ (fun V50 Hq lq hp51 w _ => ?_)
  clear hzz
  refine W.widen (k := 56) (n := 558) (Nat.le_of_ble_eq_true rfl) (Nat.le_of_ble_eq_true rfl) ?_
  clear hV44
  obtain ⟨p0, p1, p2, p3, pf52⟩ := hp51
  have fr53 : ∀ q : Nat, q < o + 53 → V50 q = V42 q := pf52
  have hV54 : V50 o = some (.inr (6, [.ref (o + 1), .ref (o + 27), .int 0, .null, .null, .null, .null, .null, .null, .null])) := (fr53 _ (hw_l0 (by decide))).trans hV46
  have hT55 : ok_page X V50 (o + 1) hs_P0 := hT47.fr (fun q9 h7 h8 => fr53 q9 (hw_rlt (hi := 27) h8 (by decide)))
  have hT56 : ok_page X V50 (o + 27) hs_P0 := hT48.fr (fun q9 h7 h8 => fr53 q9 (hw_rlt (hi := 53) h8 (by decide)))
  have hF57 : ∀ q : Nat, q < o → V50 q = V q := fun q hq => (fr53 q (hw_q2 hq)).trans (hF49 q hq)
  have hT58 : ok_text X V50 (o + 53) (0, fun _ => 0) := ⟨0, 0, _, _, p0, p1, p2, p3⟩
  clear fr53 hV46 hT47 hT48 hF49 pf52
  refine hv_putF C0 hnm w kc_X6 3 (by decide) rfl rfl hq_116 rfl hV54 rfl rfl (by simp) dX6_init_34 (fun Hq lq w => ?_)
  obtain ⟨V59, eV60⟩ : ∃ W9, W9 = hv_up V50 o (.inr (6, [.ref (o + 1), .ref (o + 27), .int 0, .ref (o + 53), .null, .null, .null, .null, .null, .null])) := ⟨_, rfl⟩
  have w : hv_w X s V59 Hq lq := by rw [eV60]; exact w
  have fr61 : ∀ q : Nat, q ≠ o → V59 q = V50 q := fun q h => by rw [eV60]; exact hv_un h
  have hT62 : ok_page X V59 (o + 1) hs_P0 := hT55.fr (fun q9 h7 h8 => fr61 q9 (hw_r0 (lo := 1) h7 (by decide)))
  have hT63 : ok_page X V59 (o + 27) hs_P0 := hT56.fr (fun q9 h7 h8 => fr61 q9 (hw_r0 (lo := 27) h7 (by decide)))
  have hT64 : ok_text X V59 (o + 53) (0, fun _ => 0) := hT58.fr (fun q9 h7 h8 => fr61 q9 (hw_r0 (lo := 53) h7 (by decide)))
  have hF65 : ∀ q : Nat, q < o → V59 q = V q := fun q hq => (fr61 q (Nat.ne_of_lt hq)).trans (hF57 q hq)
  have hV66 : V59 o = some (.inr (6, [.ref (o + 1), .ref (o + 27), .int 0, .ref (o + 53), .null, .null, .null, .null, .null, .null])) := by rw [eV60]; exact hv_us
  clear fr61 hT55 hT56 hT58 hF57 eV60
  refine lv_aload_n C0.1 C0.2.1 dX6_init_37 rfl (lv_at hl 0 rfl) ?_
  refine lv_bipush (v := 6) C0.1 C0.2.1 dX6_init_38 (by decide) ?_
  refine hw_sz (fun hzz => ?_)
  refine hv_newq 4 C0 w hAA kx_X6_28 hOO.2.1 rfl (N := 6) (by decide) (by decide) (by decide) (Nat.le_of_ble_eq_true rfl) (Nat.le_of_ble_eq_true rfl) (sz := o + 57) (hw_szk (o := o) (k := 56) (k1 := 57) hzz hz0 (w.1.lt hT64.choose_spec.choose_spec.choose_spec.choose_spec.2.2.2) rfl) dX6_init_40 (fun Hq w _ => ?_)
  clear hzz
  refine W.widen (k := 57) (n := 564) (Nat.le_of_ble_eq_true rfl) (Nat.le_of_ble_eq_true rfl) ?_
  obtain ⟨V67, eV68⟩ : ∃ W9, W9 = hv_up V59 (o + 57) (.inl (X.2.1 4, 6, .inr (.inr (.inr (.inr (fun _ => none)))))) := ⟨_, rfl⟩
  rw [← eV68] at w
  have hV69 : V67 (o + 57) = some (.inl (X.2.1 4, 6, .inr (.inr (.inr (.inr (fun _ => none)))))) := by rw [eV68]; exact hv_us
  have fr70 : ∀ q : Nat, q ≠ o + 57 → V67 q = V59 q := fun q h => by rw [eV68]; exact hv_un h
  have hV71 : V67 o = some (.inr (6, [.ref (o + 1), .ref (o + 27), .int 0, .ref (o + 53), .null, .null, .null, .null, .null, .null])) := (fr70 _ (hw_n0 (by decide))).trans hV66
  have hT72 : ok_page X V67 (o + 1) hs_P0 := hT62.fr (fun q9 h7 h8 => fr70 q9 (hw_rne (lo := 1) (hi := 27) h7 h8 (by decide)))
  have hT73 : ok_page X V67 (o + 27) hs_P0 := hT63.fr (fun q9 h7 h8 => fr70 q9 (hw_rne (lo := 27) (hi := 53) h7 h8 (by decide)))
  have hT74 : ok_text X V67 (o + 53) (0, fun _ => 0) := hT64.fr (fun q9 h7 h8 => fr70 q9 (hw_rne (lo := 53) (hi := 57) h7 h8 (by decide)))
  have hF75 : ∀ q : Nat, q < o → V67 q = V q := fun q hq => (fr70 q (hw_q1 hq)).trans (hF65 q hq)
  clear fr70 hV66 hT62 hT63 hT64 hF65 eV68
  refine hv_putF C0 hnm w kc_X6 4 (by decide) rfl rfl hq_117 rfl hV71 rfl rfl (by simp) dX6_init_43 (fun Hq lq w => ?_)
  obtain ⟨V76, eV77⟩ : ∃ W9, W9 = hv_up V67 o (.inr (6, [.ref (o + 1), .ref (o + 27), .int 0, .ref (o + 53), .ref (o + 57), .null, .null, .null, .null, .null])) := ⟨_, rfl⟩
  have w : hv_w X s V76 Hq lq := by rw [eV77]; exact w
  have fr78 : ∀ q : Nat, q ≠ o → V76 q = V67 q := fun q h => by rw [eV77]; exact hv_un h
  have hV79 : V76 (o + 57) = some (.inl (X.2.1 4, 6, .inr (.inr (.inr (.inr (fun _ => none)))))) := (fr78 _ (hw_0n (by decide))).trans hV69
  have hT80 : ok_page X V76 (o + 1) hs_P0 := hT72.fr (fun q9 h7 h8 => fr78 q9 (hw_r0 (lo := 1) h7 (by decide)))
  have hT81 : ok_page X V76 (o + 27) hs_P0 := hT73.fr (fun q9 h7 h8 => fr78 q9 (hw_r0 (lo := 27) h7 (by decide)))
  have hT82 : ok_text X V76 (o + 53) (0, fun _ => 0) := hT74.fr (fun q9 h7 h8 => fr78 q9 (hw_r0 (lo := 53) h7 (by decide)))
  have hF83 : ∀ q : Nat, q < o → V76 q = V q := fun q hq => (fr78 q (Nat.ne_of_lt hq)).trans (hF75 q hq)
  have hV84 : V76 o = some (.inr (6, [.ref (o + 1), .ref (o + 27), .int 0, .ref (o + 53), .ref (o + 57), .null, .null, .null, .null, .null])) := by rw [eV77]; exact hv_us
  clear fr78 hV69 hT72 hT73 hT74 hF75 eV77
  refine lv_aload_n C0.1 C0.2.1 dX6_init_46 rfl (lv_at hl 0 rfl) ?_
  refine hw_sz (fun hzz => ?_)
  refine hv_new (fs := [.int 0, .int 0, .null]) C0 w hAA kc_X3 kx_X6_34 kn_X3 kz_X3 (fun j hj => by rcases (show j = 0 ∨ j = 1 ∨ j = 2 by omega) with rfl | rfl | rfl <;> rfl) (Nat.le_of_ble_eq_true rfl) (Nat.le_of_ble_eq_true rfl) (sz := o + 58) (hw_szk (o := o) (k := 57) (k1 := 58) hzz hz0 (w.1.lt hV79) rfl) dX6_init_47 (fun Hq w _ => ?_)
  clear hzz
  refine W.widen (k := 58) (n := 567) (Nat.le_of_ble_eq_true rfl) (Nat.le_of_ble_eq_true rfl) ?_
  obtain ⟨V85, eV86⟩ : ∃ W9, W9 = hv_up V76 (o + 58) (.inr (3, [.int 0, .int 0, .null])) := ⟨_, rfl⟩
  rw [← eV86] at w
  have hV87 : V85 (o + 58) = some (.inr (3, [.int 0, .int 0, .null])) := by rw [eV86]; exact hv_us
  have fr88 : ∀ q : Nat, q ≠ o + 58 → V85 q = V76 q := fun q h => by rw [eV86]; exact hv_un h
  have hV89 : V85 (o + 57) = some (.inl (X.2.1 4, 6, .inr (.inr (.inr (.inr (fun _ => none)))))) := (fr88 _ (hw_ne (by decide))).trans hV79
  have hV90 : V85 o = some (.inr (6, [.ref (o + 1), .ref (o + 27), .int 0, .ref (o + 53), .ref (o + 57), .null, .null, .null, .null, .null])) := (fr88 _ (hw_n0 (by decide))).trans hV84
  have hT91 : ok_page X V85 (o + 1) hs_P0 := hT80.fr (fun q9 h7 h8 => fr88 q9 (hw_rne (lo := 1) (hi := 27) h7 h8 (by decide)))
  have hT92 : ok_page X V85 (o + 27) hs_P0 := hT81.fr (fun q9 h7 h8 => fr88 q9 (hw_rne (lo := 27) (hi := 53) h7 h8 (by decide)))
  have hT93 : ok_text X V85 (o + 53) (0, fun _ => 0) := hT82.fr (fun q9 h7 h8 => fr88 q9 (hw_rne (lo := 53) (hi := 57) h7 h8 (by decide)))
  have hF94 : ∀ q : Nat, q < o → V85 q = V q := fun q hq => (fr88 q (hw_q1 hq)).trans (hF83 q hq)
  clear fr88 hV79 hV84 hT80 hT81 hT82 hF83 eV86
  refine lv_dup C0.1 C0.2.1 dX6_init_50 rfl ?_
  refine hw_sz (fun hzz => ?_)
  refine hv_cI C0 hOO w kl_X6_36 ki_X3_init (n_X3_init (o := o + 58) (hw_A1 hA) hV87) (hw_szk (o := o) (k := 58) (k1 := 59) hzz hz0 (w.1.lt hV87) rfl) (by decide) (by decide) rfl hl.1 rfl (Nat.le_of_ble_eq_true rfl) dX6_init_51 ⟨Nat.le_of_ble_eq_true rfl, Nat.le_of_ble_eq_true rfl⟩ (fun V95 Hq lq hp96 w _ => ?_)
  clear hzz
  refine W.widen (k := 59) (n := 583) (Nat.le_of_ble_eq_true rfl) (Nat.le_of_ble_eq_true rfl) ?_
  clear hV87
  obtain ⟨p0, pf97⟩ := hp96
  have fr98 : ∀ q : Nat, q < o + 58 → V95 q = V85 q := pf97
  have hV99 : V95 (o + 57) = some (.inl (X.2.1 4, 6, .inr (.inr (.inr (.inr (fun _ => none)))))) := (fr98 _ (hw_lt (by decide))).trans hV89
  have hV100 : V95 o = some (.inr (6, [.ref (o + 1), .ref (o + 27), .int 0, .ref (o + 53), .ref (o + 57), .null, .null, .null, .null, .null])) := (fr98 _ (hw_l0 (by decide))).trans hV90
  have hT101 : ok_page X V95 (o + 1) hs_P0 := hT91.fr (fun q9 h7 h8 => fr98 q9 (hw_rlt (hi := 27) h8 (by decide)))
  have hT102 : ok_page X V95 (o + 27) hs_P0 := hT92.fr (fun q9 h7 h8 => fr98 q9 (hw_rlt (hi := 53) h8 (by decide)))
  have hT103 : ok_text X V95 (o + 53) (0, fun _ => 0) := hT93.fr (fun q9 h7 h8 => fr98 q9 (hw_rlt (hi := 57) h8 (by decide)))
  have hF104 : ∀ q : Nat, q < o → V95 q = V q := fun q hq => (fr98 q (hw_q2 hq)).trans (hF94 q hq)
  have hT105 : ok_row X V95 (o + 58) 0 0 (fun _ => 0) := p0
  clear fr98 hV89 hV90 hT91 hT92 hT93 hF94 pf97
  refine hv_putF C0 hnm w kc_X6 5 (by decide) rfl rfl hq_118 rfl hV100 rfl rfl (by simp) dX6_init_54 (fun Hq lq w => ?_)
  obtain ⟨V106, eV107⟩ : ∃ W9, W9 = hv_up V95 o (.inr (6, [.ref (o + 1), .ref (o + 27), .int 0, .ref (o + 53), .ref (o + 57), .ref (o + 58), .null, .null, .null, .null])) := ⟨_, rfl⟩
  have w : hv_w X s V106 Hq lq := by rw [eV107]; exact w
  have fr108 : ∀ q : Nat, q ≠ o → V106 q = V95 q := fun q h => by rw [eV107]; exact hv_un h
  have hV109 : V106 (o + 57) = some (.inl (X.2.1 4, 6, .inr (.inr (.inr (.inr (fun _ => none)))))) := (fr108 _ (hw_0n (by decide))).trans hV99
  have hT110 : ok_page X V106 (o + 1) hs_P0 := hT101.fr (fun q9 h7 h8 => fr108 q9 (hw_r0 (lo := 1) h7 (by decide)))
  have hT111 : ok_page X V106 (o + 27) hs_P0 := hT102.fr (fun q9 h7 h8 => fr108 q9 (hw_r0 (lo := 27) h7 (by decide)))
  have hT112 : ok_text X V106 (o + 53) (0, fun _ => 0) := hT103.fr (fun q9 h7 h8 => fr108 q9 (hw_r0 (lo := 53) h7 (by decide)))
  have hT113 : ok_row X V106 (o + 58) 0 0 (fun _ => 0) := hT105.fr (fun q9 h7 h8 => fr108 q9 (hw_r0 (lo := 58) h7 (by decide)))
  have hF114 : ∀ q : Nat, q < o → V106 q = V q := fun q hq => (fr108 q (Nat.ne_of_lt hq)).trans (hF104 q hq)
  have hV115 : V106 o = some (.inr (6, [.ref (o + 1), .ref (o + 27), .int 0, .ref (o + 53), .ref (o + 57), .ref (o + 58), .null, .null, .null, .null])) := by rw [eV107]; exact hv_us
  clear fr108 hV99 hT101 hT102 hT103 hT105 hF104 eV107
  refine lv_aload_n C0.1 C0.2.1 dX6_init_57 rfl (lv_at hl 0 rfl) ?_
  refine hw_sz (fun hzz => ?_)
  refine hv_new (fs := [.long 0, .long 0, .int 0]) C0 w hAA kc_X0 kx_X6_41 kn_X0 kz_X0 (fun j hj => by rcases (show j = 0 ∨ j = 1 ∨ j = 2 by omega) with rfl | rfl | rfl <;> rfl) (Nat.le_of_ble_eq_true rfl) (Nat.le_of_ble_eq_true rfl) (sz := o + 60) (hw_szk (o := o) (k := 59) (k1 := 60) hzz hz0 (w.1.lt hT113.2) rfl) dX6_init_58 (fun Hq w _ => ?_)
  clear hzz
  refine W.widen (k := 60) (n := 586) (Nat.le_of_ble_eq_true rfl) (Nat.le_of_ble_eq_true rfl) ?_
  obtain ⟨V116, eV117⟩ : ∃ W9, W9 = hv_up V106 (o + 60) (.inr (0, [.long 0, .long 0, .int 0])) := ⟨_, rfl⟩
  rw [← eV117] at w
  have hV118 : V116 (o + 60) = some (.inr (0, [.long 0, .long 0, .int 0])) := by rw [eV117]; exact hv_us
  have fr119 : ∀ q : Nat, q ≠ o + 60 → V116 q = V106 q := fun q h => by rw [eV117]; exact hv_un h
  have hV120 : V116 (o + 57) = some (.inl (X.2.1 4, 6, .inr (.inr (.inr (.inr (fun _ => none)))))) := (fr119 _ (hw_ne (by decide))).trans hV109
  have hV121 : V116 o = some (.inr (6, [.ref (o + 1), .ref (o + 27), .int 0, .ref (o + 53), .ref (o + 57), .ref (o + 58), .null, .null, .null, .null])) := (fr119 _ (hw_n0 (by decide))).trans hV115
  have hT122 : ok_page X V116 (o + 1) hs_P0 := hT110.fr (fun q9 h7 h8 => fr119 q9 (hw_rne (lo := 1) (hi := 27) h7 h8 (by decide)))
  have hT123 : ok_page X V116 (o + 27) hs_P0 := hT111.fr (fun q9 h7 h8 => fr119 q9 (hw_rne (lo := 27) (hi := 53) h7 h8 (by decide)))
  have hT124 : ok_text X V116 (o + 53) (0, fun _ => 0) := hT112.fr (fun q9 h7 h8 => fr119 q9 (hw_rne (lo := 53) (hi := 57) h7 h8 (by decide)))
  have hT125 : ok_row X V116 (o + 58) 0 0 (fun _ => 0) := hT113.fr (fun q9 h7 h8 => fr119 q9 (hw_rne (lo := 58) (hi := 60) h7 h8 (by decide)))
  have hF126 : ∀ q : Nat, q < o → V116 q = V q := fun q hq => (fr119 q (hw_q1 hq)).trans (hF114 q hq)
  clear fr119 hV109 hV115 hT110 hT111 hT112 hT113 hF114 eV117
  refine lv_dup C0.1 C0.2.1 dX6_init_61 rfl ?_
  refine hw_sz (fun hzz => ?_)
  refine hv_cI C0 hOO w kl_X6_43 ki_X0_init (n_X0_init (o := o + 60) (hw_A1 hA) hV118) (hw_szk (o := o) (k := 60) (k1 := 61) hzz hz0 (w.1.lt hV118) rfl) (by decide) (by decide) rfl hl.1 rfl (Nat.le_of_ble_eq_true rfl) dX6_init_62 ⟨Nat.le_of_ble_eq_true rfl, Nat.le_of_ble_eq_true rfl⟩ (fun V127 Hq lq hp128 w _ => ?_)
  clear hzz
  refine W.widen (k := 60) (n := 586) (Nat.le_of_ble_eq_true rfl) (Nat.le_of_ble_eq_true rfl) ?_
  clear hV118
  obtain ⟨p0, pf129⟩ := hp128
  have fr130 : ∀ q : Nat, q < o + 60 → V127 q = V116 q := pf129
  have hV131 : V127 (o + 57) = some (.inl (X.2.1 4, 6, .inr (.inr (.inr (.inr (fun _ => none)))))) := (fr130 _ (hw_lt (by decide))).trans hV120
  have hV132 : V127 o = some (.inr (6, [.ref (o + 1), .ref (o + 27), .int 0, .ref (o + 53), .ref (o + 57), .ref (o + 58), .null, .null, .null, .null])) := (fr130 _ (hw_l0 (by decide))).trans hV121
  have hT133 : ok_page X V127 (o + 1) hs_P0 := hT122.fr (fun q9 h7 h8 => fr130 q9 (hw_rlt (hi := 27) h8 (by decide)))
  have hT134 : ok_page X V127 (o + 27) hs_P0 := hT123.fr (fun q9 h7 h8 => fr130 q9 (hw_rlt (hi := 53) h8 (by decide)))
  have hT135 : ok_text X V127 (o + 53) (0, fun _ => 0) := hT124.fr (fun q9 h7 h8 => fr130 q9 (hw_rlt (hi := 57) h8 (by decide)))
  have hT136 : ok_row X V127 (o + 58) 0 0 (fun _ => 0) := hT125.fr (fun q9 h7 h8 => fr130 q9 (hw_rlt (hi := 60) h8 (by decide)))
  have hF137 : ∀ q : Nat, q < o → V127 q = V q := fun q hq => (fr130 q (hw_q2 hq)).trans (hF126 q hq)
  have hT138 : V127 (o + 60) = some (fE (0, 1, 1)) := p0
  clear fr130 hV120 hV121 hT122 hT123 hT124 hT125 hF126 pf129
  refine hv_putF C0 hnm w kc_X6 6 (by decide) rfl rfl hq_119 rfl hV132 rfl rfl (by simp) dX6_init_65 (fun Hq lq w => ?_)
  obtain ⟨V139, eV140⟩ : ∃ W9, W9 = hv_up V127 o (.inr (6, [.ref (o + 1), .ref (o + 27), .int 0, .ref (o + 53), .ref (o + 57), .ref (o + 58), .ref (o + 60), .null, .null, .null])) := ⟨_, rfl⟩
  have w : hv_w X s V139 Hq lq := by rw [eV140]; exact w
  have fr141 : ∀ q : Nat, q ≠ o → V139 q = V127 q := fun q h => by rw [eV140]; exact hv_un h
  have hV142 : V139 (o + 57) = some (.inl (X.2.1 4, 6, .inr (.inr (.inr (.inr (fun _ => none)))))) := (fr141 _ (hw_0n (by decide))).trans hV131
  have hT143 : ok_page X V139 (o + 1) hs_P0 := hT133.fr (fun q9 h7 h8 => fr141 q9 (hw_r0 (lo := 1) h7 (by decide)))
  have hT144 : ok_page X V139 (o + 27) hs_P0 := hT134.fr (fun q9 h7 h8 => fr141 q9 (hw_r0 (lo := 27) h7 (by decide)))
  have hT145 : ok_text X V139 (o + 53) (0, fun _ => 0) := hT135.fr (fun q9 h7 h8 => fr141 q9 (hw_r0 (lo := 53) h7 (by decide)))
  have hT146 : ok_row X V139 (o + 58) 0 0 (fun _ => 0) := hT136.fr (fun q9 h7 h8 => fr141 q9 (hw_r0 (lo := 58) h7 (by decide)))
  have hT147 : V139 (o + 60) = some (fE (0, 1, 1)) := (fr141 _ (hw_0n (by decide))).trans hT138
  have hF148 : ∀ q : Nat, q < o → V139 q = V q := fun q hq => (fr141 q (Nat.ne_of_lt hq)).trans (hF137 q hq)
  have hV149 : V139 o = some (.inr (6, [.ref (o + 1), .ref (o + 27), .int 0, .ref (o + 53), .ref (o + 57), .ref (o + 58), .ref (o + 60), .null, .null, .null])) := by rw [eV140]; exact hv_us
  clear fr141 hV131 hT133 hT134 hT135 hT136 hT138 hF137 eV140
  refine lv_aload_n C0.1 C0.2.1 dX6_init_68 rfl (lv_at hl 0 rfl) ?_
  refine hw_sz (fun hzz => ?_)
  refine hv_new (fs := [.long 0, .long 0, .int 0]) C0 w hAA kc_X0 kx_X6_41 kn_X0 kz_X0 (fun j hj => by rcases (show j = 0 ∨ j = 1 ∨ j = 2 by omega) with rfl | rfl | rfl <;> rfl) (Nat.le_of_ble_eq_true rfl) (Nat.le_of_ble_eq_true rfl) (sz := o + 61) (hw_szk (o := o) (k := 60) (k1 := 61) hzz hz0 (w.1.lt hT147) rfl) dX6_init_69 (fun Hq w _ => ?_)
  clear hzz
  refine W.widen (k := 61) (n := 589) (Nat.le_of_ble_eq_true rfl) (Nat.le_of_ble_eq_true rfl) ?_
  obtain ⟨V150, eV151⟩ : ∃ W9, W9 = hv_up V139 (o + 61) (.inr (0, [.long 0, .long 0, .int 0])) := ⟨_, rfl⟩
  rw [← eV151] at w
  have hV152 : V150 (o + 61) = some (.inr (0, [.long 0, .long 0, .int 0])) := by rw [eV151]; exact hv_us
  have fr153 : ∀ q : Nat, q ≠ o + 61 → V150 q = V139 q := fun q h => by rw [eV151]; exact hv_un h
  have hV154 : V150 (o + 57) = some (.inl (X.2.1 4, 6, .inr (.inr (.inr (.inr (fun _ => none)))))) := (fr153 _ (hw_ne (by decide))).trans hV142
  have hV155 : V150 o = some (.inr (6, [.ref (o + 1), .ref (o + 27), .int 0, .ref (o + 53), .ref (o + 57), .ref (o + 58), .ref (o + 60), .null, .null, .null])) := (fr153 _ (hw_n0 (by decide))).trans hV149
  have hT156 : ok_page X V150 (o + 1) hs_P0 := hT143.fr (fun q9 h7 h8 => fr153 q9 (hw_rne (lo := 1) (hi := 27) h7 h8 (by decide)))
  have hT157 : ok_page X V150 (o + 27) hs_P0 := hT144.fr (fun q9 h7 h8 => fr153 q9 (hw_rne (lo := 27) (hi := 53) h7 h8 (by decide)))
  have hT158 : ok_text X V150 (o + 53) (0, fun _ => 0) := hT145.fr (fun q9 h7 h8 => fr153 q9 (hw_rne (lo := 53) (hi := 57) h7 h8 (by decide)))
  have hT159 : ok_row X V150 (o + 58) 0 0 (fun _ => 0) := hT146.fr (fun q9 h7 h8 => fr153 q9 (hw_rne (lo := 58) (hi := 60) h7 h8 (by decide)))
  have hT160 : V150 (o + 60) = some (fE (0, 1, 1)) := (fr153 _ (hw_ne (by decide))).trans hT147
  have hF161 : ∀ q : Nat, q < o → V150 q = V q := fun q hq => (fr153 q (hw_q1 hq)).trans (hF148 q hq)
  clear fr153 hV142 hV149 hT143 hT144 hT145 hT146 hT147 hF148 eV151
  refine lv_dup C0.1 C0.2.1 dX6_init_72 rfl ?_
  refine hw_sz (fun hzz => ?_)
  refine hv_cI C0 hOO w kl_X6_43 ki_X0_init (n_X0_init (o := o + 61) (hw_A1 hA) hV152) (hw_szk (o := o) (k := 61) (k1 := 62) hzz hz0 (w.1.lt hV152) rfl) (by decide) (by decide) rfl hl.1 rfl (Nat.le_of_ble_eq_true rfl) dX6_init_73 ⟨Nat.le_of_ble_eq_true rfl, Nat.le_of_ble_eq_true rfl⟩ (fun V162 Hq lq hp163 w _ => ?_)
  clear hzz
  refine W.widen (k := 61) (n := 589) (Nat.le_of_ble_eq_true rfl) (Nat.le_of_ble_eq_true rfl) ?_
  clear hV152
  obtain ⟨p0, pf164⟩ := hp163
  have fr165 : ∀ q : Nat, q < o + 61 → V162 q = V150 q := pf164
  have hV166 : V162 (o + 57) = some (.inl (X.2.1 4, 6, .inr (.inr (.inr (.inr (fun _ => none)))))) := (fr165 _ (hw_lt (by decide))).trans hV154
  have hV167 : V162 o = some (.inr (6, [.ref (o + 1), .ref (o + 27), .int 0, .ref (o + 53), .ref (o + 57), .ref (o + 58), .ref (o + 60), .null, .null, .null])) := (fr165 _ (hw_l0 (by decide))).trans hV155
  have hT168 : ok_page X V162 (o + 1) hs_P0 := hT156.fr (fun q9 h7 h8 => fr165 q9 (hw_rlt (hi := 27) h8 (by decide)))
  have hT169 : ok_page X V162 (o + 27) hs_P0 := hT157.fr (fun q9 h7 h8 => fr165 q9 (hw_rlt (hi := 53) h8 (by decide)))
  have hT170 : ok_text X V162 (o + 53) (0, fun _ => 0) := hT158.fr (fun q9 h7 h8 => fr165 q9 (hw_rlt (hi := 57) h8 (by decide)))
  have hT171 : ok_row X V162 (o + 58) 0 0 (fun _ => 0) := hT159.fr (fun q9 h7 h8 => fr165 q9 (hw_rlt (hi := 60) h8 (by decide)))
  have hT172 : V162 (o + 60) = some (fE (0, 1, 1)) := (fr165 _ (hw_lt (by decide))).trans hT160
  have hF173 : ∀ q : Nat, q < o → V162 q = V q := fun q hq => (fr165 q (hw_q2 hq)).trans (hF161 q hq)
  have hT174 : V162 (o + 61) = some (fE (0, 1, 1)) := p0
  clear fr165 hV154 hV155 hT156 hT157 hT158 hT159 hT160 hF161 pf164
  refine hv_putF C0 hnm w kc_X6 7 (by decide) rfl rfl hq_120 rfl hV167 rfl rfl (by simp) dX6_init_76 (fun Hq lq w => ?_)
  obtain ⟨V175, eV176⟩ : ∃ W9, W9 = hv_up V162 o (.inr (6, [.ref (o + 1), .ref (o + 27), .int 0, .ref (o + 53), .ref (o + 57), .ref (o + 58), .ref (o + 60), .ref (o + 61), .null, .null])) := ⟨_, rfl⟩
  have w : hv_w X s V175 Hq lq := by rw [eV176]; exact w
  have fr177 : ∀ q : Nat, q ≠ o → V175 q = V162 q := fun q h => by rw [eV176]; exact hv_un h
  have hV178 : V175 (o + 57) = some (.inl (X.2.1 4, 6, .inr (.inr (.inr (.inr (fun _ => none)))))) := (fr177 _ (hw_0n (by decide))).trans hV166
  have hT179 : ok_page X V175 (o + 1) hs_P0 := hT168.fr (fun q9 h7 h8 => fr177 q9 (hw_r0 (lo := 1) h7 (by decide)))
  have hT180 : ok_page X V175 (o + 27) hs_P0 := hT169.fr (fun q9 h7 h8 => fr177 q9 (hw_r0 (lo := 27) h7 (by decide)))
  have hT181 : ok_text X V175 (o + 53) (0, fun _ => 0) := hT170.fr (fun q9 h7 h8 => fr177 q9 (hw_r0 (lo := 53) h7 (by decide)))
  have hT182 : ok_row X V175 (o + 58) 0 0 (fun _ => 0) := hT171.fr (fun q9 h7 h8 => fr177 q9 (hw_r0 (lo := 58) h7 (by decide)))
  have hT183 : V175 (o + 60) = some (fE (0, 1, 1)) := (fr177 _ (hw_0n (by decide))).trans hT172
  have hT184 : V175 (o + 61) = some (fE (0, 1, 1)) := (fr177 _ (hw_0n (by decide))).trans hT174
  have hF185 : ∀ q : Nat, q < o → V175 q = V q := fun q hq => (fr177 q (Nat.ne_of_lt hq)).trans (hF173 q hq)
  have hV186 : V175 o = some (.inr (6, [.ref (o + 1), .ref (o + 27), .int 0, .ref (o + 53), .ref (o + 57), .ref (o + 58), .ref (o + 60), .ref (o + 61), .null, .null])) := by rw [eV176]; exact hv_us
  clear fr177 hV166 hT168 hT169 hT170 hT171 hT172 hT174 hF173 eV176
  refine lv_aload_n C0.1 C0.2.1 dX6_init_79 rfl (lv_at hl 0 rfl) ?_
  refine lv_bipush (v := 16) C0.1 C0.2.1 dX6_init_80 (by decide) ?_
  refine hw_sz (fun hzz => ?_)
  refine hv_newq 5 C0 w hAA kx_X6_41 hOO.2.2.1 rfl (N := 16) (by decide) (by decide) (by decide) (Nat.le_of_ble_eq_true rfl) (Nat.le_of_ble_eq_true rfl) (sz := o + 62) (hw_szk (o := o) (k := 61) (k1 := 62) hzz hz0 (w.1.lt hT184) rfl) dX6_init_82 (fun Hq w _ => ?_)
  clear hzz
  refine W.widen (k := 62) (n := 605) (Nat.le_of_ble_eq_true rfl) (Nat.le_of_ble_eq_true rfl) ?_
  obtain ⟨V187, eV188⟩ : ∃ W9, W9 = hv_up V175 (o + 62) (.inl (X.2.1 5, 16, .inr (.inr (.inr (.inr (fun _ => none)))))) := ⟨_, rfl⟩
  rw [← eV188] at w
  have hV189 : V187 (o + 62) = some (.inl (X.2.1 5, 16, .inr (.inr (.inr (.inr (fun _ => none)))))) := by rw [eV188]; exact hv_us
  have fr190 : ∀ q : Nat, q ≠ o + 62 → V187 q = V175 q := fun q h => by rw [eV188]; exact hv_un h
  have hV191 : V187 (o + 57) = some (.inl (X.2.1 4, 6, .inr (.inr (.inr (.inr (fun _ => none)))))) := (fr190 _ (hw_ne (by decide))).trans hV178
  have hV192 : V187 o = some (.inr (6, [.ref (o + 1), .ref (o + 27), .int 0, .ref (o + 53), .ref (o + 57), .ref (o + 58), .ref (o + 60), .ref (o + 61), .null, .null])) := (fr190 _ (hw_n0 (by decide))).trans hV186
  have hT193 : ok_page X V187 (o + 1) hs_P0 := hT179.fr (fun q9 h7 h8 => fr190 q9 (hw_rne (lo := 1) (hi := 27) h7 h8 (by decide)))
  have hT194 : ok_page X V187 (o + 27) hs_P0 := hT180.fr (fun q9 h7 h8 => fr190 q9 (hw_rne (lo := 27) (hi := 53) h7 h8 (by decide)))
  have hT195 : ok_text X V187 (o + 53) (0, fun _ => 0) := hT181.fr (fun q9 h7 h8 => fr190 q9 (hw_rne (lo := 53) (hi := 57) h7 h8 (by decide)))
  have hT196 : ok_row X V187 (o + 58) 0 0 (fun _ => 0) := hT182.fr (fun q9 h7 h8 => fr190 q9 (hw_rne (lo := 58) (hi := 60) h7 h8 (by decide)))
  have hT197 : V187 (o + 60) = some (fE (0, 1, 1)) := (fr190 _ (hw_ne (by decide))).trans hT183
  have hT198 : V187 (o + 61) = some (fE (0, 1, 1)) := (fr190 _ (hw_ne (by decide))).trans hT184
  have hF199 : ∀ q : Nat, q < o → V187 q = V q := fun q hq => (fr190 q (hw_q1 hq)).trans (hF185 q hq)
  clear fr190 hV178 hV186 hT179 hT180 hT181 hT182 hT183 hT184 hF185 eV188
  refine hv_putF C0 hnm w kc_X6 8 (by decide) rfl rfl hq_121 rfl hV192 rfl rfl (by simp) dX6_init_85 (fun Hq lq w => ?_)
  obtain ⟨V200, eV201⟩ : ∃ W9, W9 = hv_up V187 o (.inr (6, [.ref (o + 1), .ref (o + 27), .int 0, .ref (o + 53), .ref (o + 57), .ref (o + 58), .ref (o + 60), .ref (o + 61), .ref (o + 62), .null])) := ⟨_, rfl⟩
  have w : hv_w X s V200 Hq lq := by rw [eV201]; exact w
  have fr202 : ∀ q : Nat, q ≠ o → V200 q = V187 q := fun q h => by rw [eV201]; exact hv_un h
  have hV203 : V200 (o + 57) = some (.inl (X.2.1 4, 6, .inr (.inr (.inr (.inr (fun _ => none)))))) := (fr202 _ (hw_0n (by decide))).trans hV191
  have hV204 : V200 (o + 62) = some (.inl (X.2.1 5, 16, .inr (.inr (.inr (.inr (fun _ => none)))))) := (fr202 _ (hw_0n (by decide))).trans hV189
  have hT205 : ok_page X V200 (o + 1) hs_P0 := hT193.fr (fun q9 h7 h8 => fr202 q9 (hw_r0 (lo := 1) h7 (by decide)))
  have hT206 : ok_page X V200 (o + 27) hs_P0 := hT194.fr (fun q9 h7 h8 => fr202 q9 (hw_r0 (lo := 27) h7 (by decide)))
  have hT207 : ok_text X V200 (o + 53) (0, fun _ => 0) := hT195.fr (fun q9 h7 h8 => fr202 q9 (hw_r0 (lo := 53) h7 (by decide)))
  have hT208 : ok_row X V200 (o + 58) 0 0 (fun _ => 0) := hT196.fr (fun q9 h7 h8 => fr202 q9 (hw_r0 (lo := 58) h7 (by decide)))
  have hT209 : V200 (o + 60) = some (fE (0, 1, 1)) := (fr202 _ (hw_0n (by decide))).trans hT197
  have hT210 : V200 (o + 61) = some (fE (0, 1, 1)) := (fr202 _ (hw_0n (by decide))).trans hT198
  have hF211 : ∀ q : Nat, q < o → V200 q = V q := fun q hq => (fr202 q (Nat.ne_of_lt hq)).trans (hF199 q hq)
  have hV212 : V200 o = some (.inr (6, [.ref (o + 1), .ref (o + 27), .int 0, .ref (o + 53), .ref (o + 57), .ref (o + 58), .ref (o + 60), .ref (o + 61), .ref (o + 62), .null])) := by rw [eV201]; exact hv_us
  clear fr202 hV191 hV189 hT193 hT194 hT195 hT196 hT197 hT198 hF199 eV201
  refine lv_aload_n C0.1 C0.2.1 dX6_init_88 rfl (lv_at hl 0 rfl) ?_
  refine lv_iconst (v := 3) C0.1 C0.2.1 dX6_init_89 (by decide) ?_
  refine hw_sz (fun hzz => ?_)
  refine hv_newa (atype := .int) 0 C0 w hAA ka_int rfl (N := 3) (a0 := (3, .inl (fun _ => 0))) (fun _ => rfl) (by decide) (by decide) (by decide) (Nat.le_of_ble_eq_true rfl) (Nat.le_of_ble_eq_true rfl) (sz := o + 63) (hw_szk (o := o) (k := 62) (k1 := 63) hzz hz0 (w.1.lt hV204) rfl) dX6_init_90 (fun Hq w _ => ?_)
  clear hzz
  refine W.widen (k := 63) (n := 608) (Nat.le_of_ble_eq_true rfl) (Nat.le_of_ble_eq_true rfl) ?_
  obtain ⟨V213, eV214⟩ : ∃ W9, W9 = hv_up V200 (o + 63) (.inl (X.2.1 0, 3, .inl (fun _ => 0))) := ⟨_, rfl⟩
  rw [← eV214] at w
  have hV215 : V213 (o + 63) = some (.inl (X.2.1 0, 3, .inl (fun _ => 0))) := by rw [eV214]; exact hv_us
  have fr216 : ∀ q : Nat, q ≠ o + 63 → V213 q = V200 q := fun q h => by rw [eV214]; exact hv_un h
  have hV217 : V213 (o + 57) = some (.inl (X.2.1 4, 6, .inr (.inr (.inr (.inr (fun _ => none)))))) := (fr216 _ (hw_ne (by decide))).trans hV203
  have hV218 : V213 (o + 62) = some (.inl (X.2.1 5, 16, .inr (.inr (.inr (.inr (fun _ => none)))))) := (fr216 _ (hw_ne (by decide))).trans hV204
  have hV219 : V213 o = some (.inr (6, [.ref (o + 1), .ref (o + 27), .int 0, .ref (o + 53), .ref (o + 57), .ref (o + 58), .ref (o + 60), .ref (o + 61), .ref (o + 62), .null])) := (fr216 _ (hw_n0 (by decide))).trans hV212
  have hT220 : ok_page X V213 (o + 1) hs_P0 := hT205.fr (fun q9 h7 h8 => fr216 q9 (hw_rne (lo := 1) (hi := 27) h7 h8 (by decide)))
  have hT221 : ok_page X V213 (o + 27) hs_P0 := hT206.fr (fun q9 h7 h8 => fr216 q9 (hw_rne (lo := 27) (hi := 53) h7 h8 (by decide)))
  have hT222 : ok_text X V213 (o + 53) (0, fun _ => 0) := hT207.fr (fun q9 h7 h8 => fr216 q9 (hw_rne (lo := 53) (hi := 57) h7 h8 (by decide)))
  have hT223 : ok_row X V213 (o + 58) 0 0 (fun _ => 0) := hT208.fr (fun q9 h7 h8 => fr216 q9 (hw_rne (lo := 58) (hi := 60) h7 h8 (by decide)))
  have hT224 : V213 (o + 60) = some (fE (0, 1, 1)) := (fr216 _ (hw_ne (by decide))).trans hT209
  have hT225 : V213 (o + 61) = some (fE (0, 1, 1)) := (fr216 _ (hw_ne (by decide))).trans hT210
  have hF226 : ∀ q : Nat, q < o → V213 q = V q := fun q hq => (fr216 q (hw_q1 hq)).trans (hF211 q hq)
  clear fr216 hV203 hV204 hV212 hT205 hT206 hT207 hT208 hT209 hT210 hF211 eV214
  refine hv_putF C0 hnm w kc_X6 9 (by decide) rfl rfl hq_122 rfl hV219 rfl rfl (by simp) dX6_init_92 (fun Hq lq w => ?_)
  obtain ⟨V227, eV228⟩ : ∃ W9, W9 = hv_up V213 o (.inr (6, [.ref (o + 1), .ref (o + 27), .int 0, .ref (o + 53), .ref (o + 57), .ref (o + 58), .ref (o + 60), .ref (o + 61), .ref (o + 62), .ref (o + 63)])) := ⟨_, rfl⟩
  have w : hv_w X s V227 Hq lq := by rw [eV228]; exact w
  have fr229 : ∀ q : Nat, q ≠ o → V227 q = V213 q := fun q h => by rw [eV228]; exact hv_un h
  have hV230 : V227 (o + 57) = some (.inl (X.2.1 4, 6, .inr (.inr (.inr (.inr (fun _ => none)))))) := (fr229 _ (hw_0n (by decide))).trans hV217
  have hV231 : V227 (o + 62) = some (.inl (X.2.1 5, 16, .inr (.inr (.inr (.inr (fun _ => none)))))) := (fr229 _ (hw_0n (by decide))).trans hV218
  have hV232 : V227 (o + 63) = some (.inl (X.2.1 0, 3, .inl (fun _ => 0))) := (fr229 _ (hw_0n (by decide))).trans hV215
  have hT233 : ok_page X V227 (o + 1) hs_P0 := hT220.fr (fun q9 h7 h8 => fr229 q9 (hw_r0 (lo := 1) h7 (by decide)))
  have hT234 : ok_page X V227 (o + 27) hs_P0 := hT221.fr (fun q9 h7 h8 => fr229 q9 (hw_r0 (lo := 27) h7 (by decide)))
  have hT235 : ok_text X V227 (o + 53) (0, fun _ => 0) := hT222.fr (fun q9 h7 h8 => fr229 q9 (hw_r0 (lo := 53) h7 (by decide)))
  have hT236 : ok_row X V227 (o + 58) 0 0 (fun _ => 0) := hT223.fr (fun q9 h7 h8 => fr229 q9 (hw_r0 (lo := 58) h7 (by decide)))
  have hT237 : V227 (o + 60) = some (fE (0, 1, 1)) := (fr229 _ (hw_0n (by decide))).trans hT224
  have hT238 : V227 (o + 61) = some (fE (0, 1, 1)) := (fr229 _ (hw_0n (by decide))).trans hT225
  have hF239 : ∀ q : Nat, q < o → V227 q = V q := fun q hq => (fr229 q (Nat.ne_of_lt hq)).trans (hF226 q hq)
  have hV240 : V227 o = some (.inr (6, [.ref (o + 1), .ref (o + 27), .int 0, .ref (o + 53), .ref (o + 57), .ref (o + 58), .ref (o + 60), .ref (o + 61), .ref (o + 62), .ref (o + 63)])) := by rw [eV228]; exact hv_us
  clear fr229 hV217 hV218 hV215 hT220 hT221 hT222 hT223 hT224 hT225 hF226 eV228
  refine lv_iconst (v := 0) C0.1 C0.2.1 dX6_init_95 (by decide) ?_
  refine lv_istore_n (lv' := [(1, .int 0), (0, .ref o)]) C0.1 C0.2.1 dX6_init_96 rfl hl (by decide) rfl (fun ls hl => ?_)
  have hl : lv_has ls 2 [(1, .int (nI 0)), (0, .ref o)] := by rw [show ((nI 0)) = (0) from rfl]; exact hl
  refine hw_sz (fun hzz => ?_)
  refine n_X6_l1 (o := o) (Vs := V227) (fs := [.ref (o + 1), .ref (o + 27), .int 0, .ref (o + 53), .ref (o + 57), .ref (o + 58), .ref (o + 60), .ref (o + 61), .ref (o + 62), .ref (o + 63)]) C0 hOO hz0 hA rfl ?_ 6 0 V227 (fun _ => none) _ _ ls rfl hV240 hV230 (fun j hj => absurd hj (Nat.not_lt_zero j)) (fun j hj => absurd hj (Nat.not_lt_zero j)) (fun _ _ => rfl) (hw_szk (o := o) (k := 63) (k1 := 64) hzz hz0 (w.1.lt hV232) rfl) w (lv_sub hl [1, 0] rfl)
  clear hzz w hl
  intro V1 rfa Hq lq ls q0 hA1 hrfa hela hf1 w hl
  refine lv_iconst (v := 0) C0.1 C0.2.1 dX6_init_122 (by decide) ?_
  refine lv_istore_n (lv' := [(1, .int 0), (0, .ref o)]) C0.1 C0.2.1 dX6_init_123 rfl hl (by decide) rfl (fun ls hl => ?_)
  have hB1 := (hf1 (o + 62) ⟨hw_lt (by decide), hw_ne (by decide)⟩).trans hV231
  refine hw_sz (fun hzz => ?_)
  refine n_X6_l2 (o := o) (Vs := V1) (fs := [.ref (o + 1), .ref (o + 27), .int 0, .ref (o + 53), .ref (o + 57), .ref (o + 58), .ref (o + 60), .ref (o + 61), .ref (o + 62), .ref (o + 63)]) C0 hOO hz0 hA rfl ?_ 16 0 V1 (fun _ => none) _ _ ls rfl q0 hB1 (fun j hj => absurd hj (Nat.not_lt_zero j)) (fun j hj => absurd hj (Nat.not_lt_zero j)) (fun _ _ => rfl) (hw_szk (o := o) (k := 75) (k1 := 76) hzz hz0 (w.1.lt (hela 5 (by decide)).2) rfl) w (lv_sub (l' := [(0, .ref o), (1, .int (nI 0))]) hl [1, 0] rfl)
  clear hzz w hl
  intro V2 rfb Hq lq ls q0 hA2 hrfb helb hf2 w hl
  have hg : ∀ q : Nat, q < o + 64 → q ≠ o + 57 → q ≠ o + 62 → V2 q = V227 q := fun q h1 h2 h3 => (hf2 q ⟨Nat.lt_trans h1 (hw_lt (by decide)), h3⟩).trans (hf1 q ⟨h1, h2⟩)
  have r1 : ok_page X V2 (o + 1) hs_P0 := (hT233.fr (fun q9 h7 h8 => hg q9 (hw_rlt (hi := 27) h8 (by decide)) (hw_rne (lo := 1) (hi := 27) h7 h8 (by decide)) (hw_rne (lo := 1) (hi := 27) h7 h8 (by decide))))
  have r2 : ok_page X V2 (o + 27) hs_P0 := (hT234.fr (fun q9 h7 h8 => hg q9 (hw_rlt (hi := 53) h8 (by decide)) (hw_rne (lo := 27) (hi := 53) h7 h8 (by decide)) (hw_rne (lo := 27) (hi := 53) h7 h8 (by decide))))
  have r3 : ok_text X V2 (o + 53) (0, fun _ => 0) := (hT235.fr (fun q9 h7 h8 => hg q9 (hw_rlt (hi := 57) h8 (by decide)) (hw_rne (lo := 53) (hi := 57) h7 h8 (by decide)) (hw_rne (lo := 53) (hi := 57) h7 h8 (by decide))))
  have r4 : ok_row X V2 (o + 58) 0 0 (fun _ => 0) := (hT236.fr (fun q9 h7 h8 => hg q9 (hw_rlt (hi := 60) h8 (by decide)) (hw_rne (lo := 58) (hi := 60) h7 h8 (by decide)) (hw_rne (lo := 58) (hi := 60) h7 h8 (by decide))))
  have r5 : V2 (o + 60) = some (fE (0, 1, 1)) := ((hg _ (hw_lt (by decide)) (hw_ne (by decide)) (hw_ne (by decide))).trans hT237)
  have r6 : V2 (o + 61) = some (fE (0, 1, 1)) := ((hg _ (hw_lt (by decide)) (hw_ne (by decide)) (hw_ne (by decide))).trans hT238)
  have r7 : V2 (o + 63) = some (iE X 3 (fun _ => 0)) := (hg _ (hw_lt (by decide)) (hw_ne (by decide)) (hw_ne (by decide))).trans hV232
  have r8 : V2 (o + 57) = some (qE X 4 6 rfa) := (hf2 _ ⟨hw_lt (by decide), hw_ne (by decide)⟩).trans hA1
  have r9 : ∀ j, j < 6 → V2 (o + 64 + 2 * j) = some (tE (o + 64 + 2 * j) (-1) 0) ∧ V2 (o + 64 + 2 * j + 1) = some (jE X (fun _ => 0)) := fun j hj => ⟨(hf2 _ (hw_t0 hj)).trans (hela j hj).1, (hf2 _ (hw_t1 hj)).trans (hela j hj).2⟩
  have rT : ok_tapes X V2 o hs_0.2.2.2 := ⟨⟨rfa, r8, hrfa⟩, fun j hj => ⟨by rw [show hs_0.2.2.2.1 j = -1 from if_pos hj]; exact (r9 j hj).1, (r9 j hj).2⟩⟩
  have rS : ok_scr X V2 o := ⟨⟨0, 0, _, r4⟩, ⟨_, r5⟩, ⟨_, r6⟩, ⟨rfb, hA2, hrfb⟩, fun j hj => ⟨_, helb j hj⟩, _, r7⟩
  have rK : ok_kept X V2 o hs_0.2.1 0 := ⟨rfl, hs_P0, r2⟩
  have rX : okX X V2 o hs_0 := ⟨0, q0, r1, rK, r3, rT, rS⟩
  have rF : ∀ q : Nat, q < o → V2 q = V q := fun q hq => (hg q (hw_q2 hq) (hw_q1 hq) (hw_q1 hq)).trans (hF239 q hq)
  refine hw_sz (fun hzz => ?_)
  exact hv_vretC (k := 0) C0 w hr hlk (hw_fin91 hzz hz0 (w.1.lt (helb 15 (by decide)))) ⟨rX, rF⟩ dX6_init_149
