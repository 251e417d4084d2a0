set_option maxHeartbeats 4000000 in
set_option maxRecDepth 100000 in
theorem c_X7_isFlaw0 {l : Launch} {X : hv_X} {V : hv_V} {mo : Nat} {ab be : Int64} {tx se ev bk : Nat} {pl cl sg ik : Int32} (hO : V mo = some (mE mo ab be tx pl cl sg se ev bk ik)) {ki ma : Nat → Int32} {rf : Nat → Option Nat} {j n : Nat} {f : Nat → Int32} (r1 : V (mo + 1) = some (iE X 6 ki)) (r2 : V (mo + 2) = some (iE X 6 ma)) (hma : ma j = nI n) (r3 : V (mo + 3) = some (qE X 6 6 rf)) (rj : rf j = some (mo + 4 + j)) (hj : j < 6) (hN : V (mo + 4 + j) = some (nE X f)) (hn : n ≤ 16)(hi : 0 < n) : hv_Mi l X 0 yX7_isFlaw cX7_isFlaw 8 .boolean V [.ref mo, .int (nI j), .int (nI 0)] (fun y V1 => V1 = V ∧ hv_B (sp_am (ki j) n f 0 = true) y) := by
  refine hv_enter (by decide) (Nat.le_of_ble_eq_true rfl) ?_
  intro p e s m below meth c ls C0 hr hlk hnm w hl
  have hl : lv_has ls 8 [(0, .ref mo), (1, .int (nI j)), (2, .int (nI 0))] := hl
  have kj : (nI j).toNatClampNeg = j := nI_clamp (by omega)
  refine lv_aload_n C0.1 C0.2.1 dX7_isFlaw_0 rfl (lv_at hl 0 rfl) ?_
  refine gf_X7_20 C0 w hO rfl dX7_isFlaw_1 ?_
  refine lv_iload_n C0.1 C0.2.1 dX7_isFlaw_4 rfl (lv_at hl 1 rfl) ?_
  refine hv_aalA 6 rfl C0 w rfl r3 (hn_in hj (by decide)) (by rw [kj]; exact rj) dX7_isFlaw_5 ?_
  refine lv_iload_n C0.1 C0.2.1 dX7_isFlaw_6 rfl (lv_at hl 2 rfl) ?_
  refine hv_iald C0 w hN (hn_in (by omega) (by decide)) dX7_isFlaw_7 ?_
  have hc1 : (nI 0).toNatClampNeg = 0 := nI_clamp (by omega)
  rw [hc1]
  refine lv_i2l (v := (f 0).toInt64) C0.1 C0.2.1 dX7_isFlaw_8 rfl ?_
  refine lv_lstore_n (lv' := [(3, .long ((f 0).toInt64)), (0, .ref mo), (1, .int (nI j)), (2, .int (nI 0))]) C0.1 C0.2.1 dX7_isFlaw_9 rfl hl (by decide) rfl (fun ls hl => ?_)
  refine lv_iload_n C0.1 C0.2.1 dX7_isFlaw_10 rfl (lv_at hl 3 rfl) ?_
  refine lv_if_le (tgt := 28) C0.1 C0.2.1 dX7_isFlaw_11 (by decide) (fun c_11 => ?_) (fun c_11 => absurd (by decide) c_11)
  refine lv_lconst (v := 0) C0.1 C0.2.1 dX7_isFlaw_28 (by decide) ?_
  refine lv_lstore (lv' := [(5, .long 0), (3, .long ((f 0).toInt64)), (0, .ref mo), (1, .int (nI j)), (2, .int (nI 0))]) C0.1 C0.2.1 dX7_isFlaw_29 hl (by decide) rfl (fun ls hl => ?_)
  refine lv_iload_n C0.1 C0.2.1 dX7_isFlaw_31 rfl (lv_at hl 4 rfl) ?_
  refine lv_aload_n C0.1 C0.2.1 dX7_isFlaw_32 rfl (lv_at hl 2 rfl) ?_
  refine gf_X7_15 C0 w hO rfl dX7_isFlaw_33 ?_
  refine lv_iload_n C0.1 C0.2.1 dX7_isFlaw_36 rfl (lv_at hl 3 rfl) ?_
  refine hv_iald C0 w r2 (hn_in hj (by decide)) dX7_isFlaw_37 ?_
  have hc2 : (nI j).toNatClampNeg = j := nI_clamp (by omega)
  rw [hc2]
  rw [hma]
  refine lv_iconst (v := 1) C0.1 C0.2.1 dX7_isFlaw_38 (by decide) ?_
  refine lv_isub C0.1 C0.2.1 dX7_isFlaw_39 ?_
  refine lv_icmp_ne (tgt := 47) C0.1 C0.2.1 dX7_isFlaw_40 (by decide) (fun c_40 => ?_) (fun c_40 => ?_)
  · skip
    refine lv_iconst (v := 0) C0.1 C0.2.1 dX7_isFlaw_47 (by decide) ?_
    refine lv_istore (lv' := [(7, .int 0), (5, .long 0), (3, .long ((f 0).toInt64)), (0, .ref mo), (1, .int (nI j)), (2, .int (nI 0))]) C0.1 C0.2.1 dX7_isFlaw_48 hl (by decide) rfl (fun ls hl => ?_)
    refine lv_aload_n C0.1 C0.2.1 dX7_isFlaw_50 rfl (lv_at hl 3 rfl) ?_
    refine gf_X7_11 C0 w hO rfl dX7_isFlaw_51 ?_
    refine lv_iload_n C0.1 C0.2.1 dX7_isFlaw_54 rfl (lv_at hl 4 rfl) ?_
    refine hv_iald C0 w r1 (hn_in hj (by decide)) dX7_isFlaw_55 ?_
    have hc3 : (nI j).toNatClampNeg = j := nI_clamp (by omega)
    rw [hc3]
    by_cases c_56_0 : (ki j) = 0
    · refine lv_tableIn (off := 28) (tgt := 84) C0.1 C0.2.1 dX7_isFlaw_56 (by rw [c_56_0]; decide) (by rw [c_56_0]; decide) (by rw [c_56_0]; rfl) (by decide) ?_
      refine lv_iload_n C0.1 C0.2.1 dX7_isFlaw_84 rfl (lv_at hl 5 rfl) ?_
      refine lv_if_ne (tgt := 104) C0.1 C0.2.1 dX7_isFlaw_85 (by decide) (fun c_85 => absurd (by decide) c_85) (fun c_85 => ?_)
      refine lv_lload_n C0.1 C0.2.1 dX7_isFlaw_88 rfl (lv_at hl 2 rfl) ?_
      refine lv_ldc2 C0.1 C0.2.1 C0.2.2.2.1 (C0.2.2.2.2.1 _ kk_X7_231) dX7_isFlaw_89 ?_
      refine hv_lc_ge (tgt := 100) C0.1 C0.2.1 dX7_isFlaw_92 dX7_isFlaw_93 (by decide) (fun c_92 => ?_) (fun c_92 => ?_)
      · skip
        refine lv_iconst (v := 0) C0.1 C0.2.1 dX7_isFlaw_100 (by decide) ?_
        refine lv_goto (tgt := 123) C0.1 C0.2.1 dX7_isFlaw_101 (by decide) ?_
        exact hv_zret C0 w hr hlk (by decide) (⟨rfl, Or.inr ⟨rfl, fun h9 => by rw [sp_am, if_pos c_56_0, if_pos rfl] at h9; exact absurd (of_decide_eq_true h9) (Int64.not_lt.mpr c_92)⟩⟩) dX7_isFlaw_123
      · skip
        refine lv_iconst (v := 1) C0.1 C0.2.1 dX7_isFlaw_96 (by decide) ?_
        refine lv_goto (tgt := 123) C0.1 C0.2.1 dX7_isFlaw_97 (by decide) ?_
        exact hv_zret C0 w hr hlk (by decide) (⟨rfl, Or.inl ⟨rfl, by rw [sp_am, if_pos c_56_0, if_pos rfl]; exact decide_eq_true (Int64.not_le.mp c_92)⟩⟩) dX7_isFlaw_123
    by_cases c_56_1 : (ki j) = 1
    · refine lv_tableIn (off := 68) (tgt := 124) C0.1 C0.2.1 dX7_isFlaw_56 (by rw [c_56_1]; decide) (by rw [c_56_1]; decide) (by rw [c_56_1]; rfl) (by decide) ?_
      refine lv_iload_n C0.1 C0.2.1 dX7_isFlaw_124 rfl (lv_at hl 5 rfl) ?_
      refine lv_if_ne (tgt := 144) C0.1 C0.2.1 dX7_isFlaw_125 (by decide) (fun c_125 => absurd (by decide) c_125) (fun c_125 => ?_)
      refine lv_lload_n C0.1 C0.2.1 dX7_isFlaw_128 rfl (lv_at hl 2 rfl) ?_
      refine lv_ldc2 C0.1 C0.2.1 C0.2.2.2.1 (C0.2.2.2.2.1 _ kk_X7_231) dX7_isFlaw_129 ?_
      refine hv_lc_ge (tgt := 140) C0.1 C0.2.1 dX7_isFlaw_132 dX7_isFlaw_133 (by decide) (fun c_132 => ?_) (fun c_132 => ?_)
      · skip
        refine lv_iconst (v := 0) C0.1 C0.2.1 dX7_isFlaw_140 (by decide) ?_
        refine lv_goto (tgt := 156) C0.1 C0.2.1 dX7_isFlaw_141 (by decide) ?_
        exact hv_zret C0 w hr hlk (by decide) (⟨rfl, Or.inr ⟨rfl, fun h9 => by rw [sp_am, if_neg (by rw [c_56_1]; decide), if_pos c_56_1, if_pos rfl] at h9; exact absurd (of_decide_eq_true h9) (Int64.not_lt.mpr c_132)⟩⟩) dX7_isFlaw_156
      · skip
        refine lv_iconst (v := 1) C0.1 C0.2.1 dX7_isFlaw_136 (by decide) ?_
        refine lv_goto (tgt := 156) C0.1 C0.2.1 dX7_isFlaw_137 (by decide) ?_
        exact hv_zret C0 w hr hlk (by decide) (⟨rfl, Or.inl ⟨rfl, by rw [sp_am, if_neg (by rw [c_56_1]; decide), if_pos c_56_1, if_pos rfl]; exact decide_eq_true (Int64.not_le.mp c_132)⟩⟩) dX7_isFlaw_156
    by_cases c_56_2 : (ki j) = 2
    · refine lv_tableIn (off := 101) (tgt := 157) C0.1 C0.2.1 dX7_isFlaw_56 (by rw [c_56_2]; decide) (by rw [c_56_2]; decide) (by rw [c_56_2]; rfl) (by decide) ?_
      refine lv_iload_n C0.1 C0.2.1 dX7_isFlaw_157 rfl (lv_at hl 5 rfl) ?_
      refine lv_if_ne (tgt := 186) C0.1 C0.2.1 dX7_isFlaw_158 (by decide) (fun c_158 => absurd (by decide) c_158) (fun c_158 => ?_)
      refine lv_lload_n C0.1 C0.2.1 dX7_isFlaw_161 rfl (lv_at hl 2 rfl) ?_
      refine lv_lconst (v := 1) C0.1 C0.2.1 dX7_isFlaw_162 (by decide) ?_
      refine hv_lc_lt (tgt := 178) C0.1 C0.2.1 dX7_isFlaw_163 dX7_isFlaw_164 (by decide) (fun c_163 => ?_) (fun c_163 => ?_)
      · skip
        refine lv_iconst (v := 1) C0.1 C0.2.1 dX7_isFlaw_178 (by decide) ?_
        refine lv_goto (tgt := 212) C0.1 C0.2.1 dX7_isFlaw_179 (by decide) ?_
        exact hv_zret C0 w hr hlk (by decide) (⟨rfl, Or.inl ⟨rfl, by rw [sp_am, if_neg (by rw [c_56_2]; decide), if_neg (by rw [c_56_2]; decide), if_pos c_56_2, if_pos rfl]; exact decide_eq_true (Or.inl c_163)⟩⟩) dX7_isFlaw_212
      · skip
        refine lv_iload C0.1 C0.2.1 dX7_isFlaw_167 (lv_at hl 0 rfl) ?_
        refine lv_if_eq (tgt := 182) C0.1 C0.2.1 dX7_isFlaw_169 (by decide) (fun _ => ?_) (fun h9 => absurd h9 (by decide))
        refine lv_iconst (v := 0) C0.1 C0.2.1 dX7_isFlaw_182 (by decide) ?_
        refine lv_goto (tgt := 212) C0.1 C0.2.1 dX7_isFlaw_183 (by decide) ?_
        exact hv_zret C0 w hr hlk (by decide) (⟨rfl, Or.inr ⟨rfl, fun h9 => by rw [sp_am, if_neg (by rw [c_56_2]; decide), if_neg (by rw [c_56_2]; decide), if_pos c_56_2, if_pos rfl] at h9; exact absurd (of_decide_eq_true h9) (fun h8 => h8.elim (fun h7 => c_163 h7) (fun h7 => c_40 h7.1))⟩⟩) dX7_isFlaw_212
    have tc_56_0 : (ki j).toInt ≠ 0 := fun h9 => c_56_0 (Int32.toInt_inj.mp (h9.trans (by decide)))
    have tc_56_1 : (ki j).toInt ≠ 1 := fun h9 => c_56_1 (Int32.toInt_inj.mp (h9.trans (by decide)))
    have tc_56_2 : (ki j).toInt ≠ 2 := fun h9 => c_56_2 (Int32.toInt_inj.mp (h9.trans (by decide)))
    refine lv_tableOut (tgt := 213) C0.1 C0.2.1 dX7_isFlaw_56 (by omega) (by decide) ?_
    refine lv_lload_n C0.1 C0.2.1 dX7_isFlaw_213 rfl (lv_at hl 2 rfl) ?_
    refine lv_iload_n C0.1 C0.2.1 dX7_isFlaw_214 rfl (lv_at hl 5 rfl) ?_
    refine lv_iconst (v := 1) C0.1 C0.2.1 dX7_isFlaw_215 (by decide) ?_
    refine lv_iadd C0.1 C0.2.1 dX7_isFlaw_216 ?_
    refine lv_i2l (v := ((nI 0) + 1).toInt64) C0.1 C0.2.1 dX7_isFlaw_217 rfl ?_
    refine hv_lc_gt (tgt := 233) C0.1 C0.2.1 dX7_isFlaw_218 dX7_isFlaw_219 (by decide) (fun c_218 => ?_) (fun c_218 => ?_)
    · skip
      refine lv_iconst (v := 1) C0.1 C0.2.1 dX7_isFlaw_233 (by decide) ?_
      refine lv_goto (tgt := 238) C0.1 C0.2.1 dX7_isFlaw_234 (by decide) ?_
      exact hv_zret C0 w hr hlk (by decide) (⟨rfl, Or.inl ⟨rfl, by rw [sp_am, if_neg c_56_0, if_neg c_56_1, if_neg c_56_2]; exact decide_eq_true (Or.inl c_218)⟩⟩) dX7_isFlaw_238
    · skip
      refine lv_iload C0.1 C0.2.1 dX7_isFlaw_222 (lv_at hl 0 rfl) ?_
      refine lv_if_eq (tgt := 237) C0.1 C0.2.1 dX7_isFlaw_224 (by decide) (fun _ => ?_) (fun h9 => absurd h9 (by decide))
      refine lv_iconst (v := 0) C0.1 C0.2.1 dX7_isFlaw_237 (by decide) ?_
      exact hv_zret C0 w hr hlk (by decide) (⟨rfl, Or.inr ⟨rfl, fun h9 => by rw [sp_am, if_neg c_56_0, if_neg c_56_1, if_neg c_56_2] at h9; exact absurd (of_decide_eq_true h9) (fun h8 => h8.elim (fun h7 => c_218 h7) (fun h7 => c_40 h7.1))⟩⟩) dX7_isFlaw_238
  · skip
    refine lv_iconst (v := 1) C0.1 C0.2.1 dX7_isFlaw_43 (by decide) ?_
    refine lv_goto (tgt := 48) C0.1 C0.2.1 dX7_isFlaw_44 (by decide) ?_
    refine lv_istore (lv' := [(7, .int 1), (5, .long 0), (3, .long ((f 0).toInt64)), (0, .ref mo), (1, .int (nI j)), (2, .int (nI 0))]) C0.1 C0.2.1 dX7_isFlaw_48 hl (by decide) rfl (fun ls hl => ?_)
    refine lv_aload_n C0.1 C0.2.1 dX7_isFlaw_50 rfl (lv_at hl 3 rfl) ?_
    refine gf_X7_11 C0 w hO rfl dX7_isFlaw_51 ?_
    refine lv_iload_n C0.1 C0.2.1 dX7_isFlaw_54 rfl (lv_at hl 4 rfl) ?_
    refine hv_iald C0 w r1 (hn_in hj (by decide)) dX7_isFlaw_55 ?_
    have hc4 : (nI j).toNatClampNeg = j := nI_clamp (by omega)
    rw [hc4]
    by_cases c_56_0 : (ki j) = 0
    · refine lv_tableIn (off := 28) (tgt := 84) C0.1 C0.2.1 dX7_isFlaw_56 (by rw [c_56_0]; decide) (by rw [c_56_0]; decide) (by rw [c_56_0]; rfl) (by decide) ?_
      refine lv_iload_n C0.1 C0.2.1 dX7_isFlaw_84 rfl (lv_at hl 5 rfl) ?_
      refine lv_if_ne (tgt := 104) C0.1 C0.2.1 dX7_isFlaw_85 (by decide) (fun c_85 => absurd (by decide) c_85) (fun c_85 => ?_)
      refine lv_lload_n C0.1 C0.2.1 dX7_isFlaw_88 rfl (lv_at hl 2 rfl) ?_
      refine lv_ldc2 C0.1 C0.2.1 C0.2.2.2.1 (C0.2.2.2.2.1 _ kk_X7_231) dX7_isFlaw_89 ?_
      refine hv_lc_ge (tgt := 100) C0.1 C0.2.1 dX7_isFlaw_92 dX7_isFlaw_93 (by decide) (fun c_92 => ?_) (fun c_92 => ?_)
      · skip
        refine lv_iconst (v := 0) C0.1 C0.2.1 dX7_isFlaw_100 (by decide) ?_
        refine lv_goto (tgt := 123) C0.1 C0.2.1 dX7_isFlaw_101 (by decide) ?_
        exact hv_zret C0 w hr hlk (by decide) (⟨rfl, Or.inr ⟨rfl, fun h9 => by rw [sp_am, if_pos c_56_0, if_pos rfl] at h9; exact absurd (of_decide_eq_true h9) (Int64.not_lt.mpr c_92)⟩⟩) dX7_isFlaw_123
      · skip
        refine lv_iconst (v := 1) C0.1 C0.2.1 dX7_isFlaw_96 (by decide) ?_
        refine lv_goto (tgt := 123) C0.1 C0.2.1 dX7_isFlaw_97 (by decide) ?_
        exact hv_zret C0 w hr hlk (by decide) (⟨rfl, Or.inl ⟨rfl, by rw [sp_am, if_pos c_56_0, if_pos rfl]; exact decide_eq_true (Int64.not_le.mp c_92)⟩⟩) dX7_isFlaw_123
    by_cases c_56_1 : (ki j) = 1
    · refine lv_tableIn (off := 68) (tgt := 124) C0.1 C0.2.1 dX7_isFlaw_56 (by rw [c_56_1]; decide) (by rw [c_56_1]; decide) (by rw [c_56_1]; rfl) (by decide) ?_
      refine lv_iload_n C0.1 C0.2.1 dX7_isFlaw_124 rfl (lv_at hl 5 rfl) ?_
      refine lv_if_ne (tgt := 144) C0.1 C0.2.1 dX7_isFlaw_125 (by decide) (fun c_125 => absurd (by decide) c_125) (fun c_125 => ?_)
      refine lv_lload_n C0.1 C0.2.1 dX7_isFlaw_128 rfl (lv_at hl 2 rfl) ?_
      refine lv_ldc2 C0.1 C0.2.1 C0.2.2.2.1 (C0.2.2.2.2.1 _ kk_X7_231) dX7_isFlaw_129 ?_
      refine hv_lc_ge (tgt := 140) C0.1 C0.2.1 dX7_isFlaw_132 dX7_isFlaw_133 (by decide) (fun c_132 => ?_) (fun c_132 => ?_)
      · skip
        refine lv_iconst (v := 0) C0.1 C0.2.1 dX7_isFlaw_140 (by decide) ?_
        refine lv_goto (tgt := 156) C0.1 C0.2.1 dX7_isFlaw_141 (by decide) ?_
        exact hv_zret C0 w hr hlk (by decide) (⟨rfl, Or.inr ⟨rfl, fun h9 => by rw [sp_am, if_neg (by rw [c_56_1]; decide), if_pos c_56_1, if_pos rfl] at h9; exact absurd (of_decide_eq_true h9) (Int64.not_lt.mpr c_132)⟩⟩) dX7_isFlaw_156
      · skip
        refine lv_iconst (v := 1) C0.1 C0.2.1 dX7_isFlaw_136 (by decide) ?_
        refine lv_goto (tgt := 156) C0.1 C0.2.1 dX7_isFlaw_137 (by decide) ?_
        exact hv_zret C0 w hr hlk (by decide) (⟨rfl, Or.inl ⟨rfl, by rw [sp_am, if_neg (by rw [c_56_1]; decide), if_pos c_56_1, if_pos rfl]; exact decide_eq_true (Int64.not_le.mp c_132)⟩⟩) dX7_isFlaw_156
    by_cases c_56_2 : (ki j) = 2
    · refine lv_tableIn (off := 101) (tgt := 157) C0.1 C0.2.1 dX7_isFlaw_56 (by rw [c_56_2]; decide) (by rw [c_56_2]; decide) (by rw [c_56_2]; rfl) (by decide) ?_
      refine lv_iload_n C0.1 C0.2.1 dX7_isFlaw_157 rfl (lv_at hl 5 rfl) ?_
      refine lv_if_ne (tgt := 186) C0.1 C0.2.1 dX7_isFlaw_158 (by decide) (fun c_158 => absurd (by decide) c_158) (fun c_158 => ?_)
      refine lv_lload_n C0.1 C0.2.1 dX7_isFlaw_161 rfl (lv_at hl 2 rfl) ?_
      refine lv_lconst (v := 1) C0.1 C0.2.1 dX7_isFlaw_162 (by decide) ?_
      refine hv_lc_lt (tgt := 178) C0.1 C0.2.1 dX7_isFlaw_163 dX7_isFlaw_164 (by decide) (fun c_163 => ?_) (fun c_163 => ?_)
      · skip
        refine lv_iconst (v := 1) C0.1 C0.2.1 dX7_isFlaw_178 (by decide) ?_
        refine lv_goto (tgt := 212) C0.1 C0.2.1 dX7_isFlaw_179 (by decide) ?_
        exact hv_zret C0 w hr hlk (by decide) (⟨rfl, Or.inl ⟨rfl, by rw [sp_am, if_neg (by rw [c_56_2]; decide), if_neg (by rw [c_56_2]; decide), if_pos c_56_2, if_pos rfl]; exact decide_eq_true (Or.inl c_163)⟩⟩) dX7_isFlaw_212
      · skip
        refine lv_iload C0.1 C0.2.1 dX7_isFlaw_167 (lv_at hl 0 rfl) ?_
        refine lv_if_eq (tgt := 182) C0.1 C0.2.1 dX7_isFlaw_169 (by decide) (fun h9 => absurd h9 (by decide)) (fun _ => ?_)
        refine lv_lload_n C0.1 C0.2.1 dX7_isFlaw_172 rfl (lv_at hl 2 rfl) ?_
        refine lv_lconst (v := 1) C0.1 C0.2.1 dX7_isFlaw_173 (by decide) ?_
        refine hv_lc_ne (tgt := 182) C0.1 C0.2.1 dX7_isFlaw_174 dX7_isFlaw_175 (by decide) (fun c_174 => ?_) (fun c_174 => ?_)
        · skip
          refine lv_iconst (v := 0) C0.1 C0.2.1 dX7_isFlaw_182 (by decide) ?_
          refine lv_goto (tgt := 212) C0.1 C0.2.1 dX7_isFlaw_183 (by decide) ?_
          exact hv_zret C0 w hr hlk (by decide) (⟨rfl, Or.inr ⟨rfl, fun h9 => by rw [sp_am, if_neg (by rw [c_56_2]; decide), if_neg (by rw [c_56_2]; decide), if_pos c_56_2, if_pos rfl] at h9; exact absurd (of_decide_eq_true h9) (fun h8 => h8.elim (fun h7 => c_163 h7) (fun h7 => c_174 h7.2))⟩⟩) dX7_isFlaw_212
        · skip
          refine lv_iconst (v := 1) C0.1 C0.2.1 dX7_isFlaw_178 (by decide) ?_
          refine lv_goto (tgt := 212) C0.1 C0.2.1 dX7_isFlaw_179 (by decide) ?_
          exact hv_zret C0 w hr hlk (by decide) (⟨rfl, Or.inl ⟨rfl, by rw [sp_am, if_neg (by rw [c_56_2]; decide), if_neg (by rw [c_56_2]; decide), if_pos c_56_2, if_pos rfl]; exact decide_eq_true (Or.inr ⟨c_40, c_174⟩)⟩⟩) dX7_isFlaw_212
    have tc_56_0 : (ki j).toInt ≠ 0 := fun h9 => c_56_0 (Int32.toInt_inj.mp (h9.trans (by decide)))
    have tc_56_1 : (ki j).toInt ≠ 1 := fun h9 => c_56_1 (Int32.toInt_inj.mp (h9.trans (by decide)))
    have tc_56_2 : (ki j).toInt ≠ 2 := fun h9 => c_56_2 (Int32.toInt_inj.mp (h9.trans (by decide)))
    refine lv_tableOut (tgt := 213) C0.1 C0.2.1 dX7_isFlaw_56 (by omega) (by decide) ?_
    refine lv_lload_n C0.1 C0.2.1 dX7_isFlaw_213 rfl (lv_at hl 2 rfl) ?_
    refine lv_iload_n C0.1 C0.2.1 dX7_isFlaw_214 rfl (lv_at hl 5 rfl) ?_
    refine lv_iconst (v := 1) C0.1 C0.2.1 dX7_isFlaw_215 (by decide) ?_
    refine lv_iadd C0.1 C0.2.1 dX7_isFlaw_216 ?_
    refine lv_i2l (v := ((nI 0) + 1).toInt64) C0.1 C0.2.1 dX7_isFlaw_217 rfl ?_
    refine hv_lc_gt (tgt := 233) C0.1 C0.2.1 dX7_isFlaw_218 dX7_isFlaw_219 (by decide) (fun c_218 => ?_) (fun c_218 => ?_)
    · skip
      refine lv_iconst (v := 1) C0.1 C0.2.1 dX7_isFlaw_233 (by decide) ?_
      refine lv_goto (tgt := 238) C0.1 C0.2.1 dX7_isFlaw_234 (by decide) ?_
      exact hv_zret C0 w hr hlk (by decide) (⟨rfl, Or.inl ⟨rfl, by rw [sp_am, if_neg c_56_0, if_neg c_56_1, if_neg c_56_2]; exact decide_eq_true (Or.inl c_218)⟩⟩) dX7_isFlaw_238
    · skip
      refine lv_iload C0.1 C0.2.1 dX7_isFlaw_222 (lv_at hl 0 rfl) ?_
      refine lv_if_eq (tgt := 237) C0.1 C0.2.1 dX7_isFlaw_224 (by decide) (fun h9 => absurd h9 (by decide)) (fun _ => ?_)
      refine lv_lload_n C0.1 C0.2.1 dX7_isFlaw_227 rfl (lv_at hl 2 rfl) ?_
      refine lv_lconst (v := 0) C0.1 C0.2.1 dX7_isFlaw_228 (by decide) ?_
      refine hv_lc_ne (tgt := 237) C0.1 C0.2.1 dX7_isFlaw_229 dX7_isFlaw_230 (by decide) (fun c_229 => ?_) (fun c_229 => ?_)
      · skip
        refine lv_iconst (v := 0) C0.1 C0.2.1 dX7_isFlaw_237 (by decide) ?_
        exact hv_zret C0 w hr hlk (by decide) (⟨rfl, Or.inr ⟨rfl, fun h9 => by rw [sp_am, if_neg c_56_0, if_neg c_56_1, if_neg c_56_2] at h9; exact absurd (of_decide_eq_true h9) (fun h8 => h8.elim (fun h7 => c_218 h7) (fun h7 => c_229 h7.2))⟩⟩) dX7_isFlaw_238
      · skip
        refine lv_iconst (v := 1) C0.1 C0.2.1 dX7_isFlaw_233 (by decide) ?_
        refine lv_goto (tgt := 238) C0.1 C0.2.1 dX7_isFlaw_234 (by decide) ?_
        exact hv_zret C0 w hr hlk (by decide) (⟨rfl, Or.inl ⟨rfl, by rw [sp_am, if_neg c_56_0, if_neg c_56_1, if_neg c_56_2]; exact decide_eq_true (Or.inr ⟨c_40, c_229⟩)⟩⟩) dX7_isFlaw_238

set_option maxHeartbeats 4000000 in
set_option maxRecDepth 100000 in
theorem c_X7_isFlawS {l : Launch} {X : hv_X} {V : hv_V} {mo : Nat} {ab be : Int64} {tx se ev bk : Nat} {pl cl sg ik : Int32} (hO : V mo = some (mE mo ab be tx pl cl sg se ev bk ik)) {ki ma : Nat → Int32} {rf : Nat → Option Nat} {j n : Nat} {f : Nat → Int32} (r1 : V (mo + 1) = some (iE X 6 ki)) (r2 : V (mo + 2) = some (iE X 6 ma)) (hma : ma j = nI n) (r3 : V (mo + 3) = some (qE X 6 6 rf)) (rj : rf j = some (mo + 4 + j)) (hj : j < 6) (hN : V (mo + 4 + j) = some (nE X f)) (hn : n ≤ 16){i : Nat} (hi : i + 1 < n) : hv_Mi l X 0 yX7_isFlaw cX7_isFlaw 8 .boolean V [.ref mo, .int (nI j), .int (nI (i + 1))] (fun y V1 => V1 = V ∧ hv_B (sp_am (ki j) n f (i + 1) = true) y) := by
  refine hv_enter (by decide) (Nat.le_of_ble_eq_true rfl) ?_
  intro p e s m below meth c ls C0 hr hlk hnm w hl
  have hl : lv_has ls 8 [(0, .ref mo), (1, .int (nI j)), (2, .int (nI (i + 1)))] := hl
  have kj : (nI j).toNatClampNeg = j := nI_clamp (by omega)
  refine lv_aload_n C0.1 C0.2.1 dX7_isFlaw_0 rfl (lv_at hl 0 rfl) ?_
  refine gf_X7_20 C0 w hO rfl dX7_isFlaw_1 ?_
  refine lv_iload_n C0.1 C0.2.1 dX7_isFlaw_4 rfl (lv_at hl 1 rfl) ?_
  refine hv_aalA 6 rfl C0 w rfl r3 (hn_in hj (by decide)) (by rw [kj]; exact rj) dX7_isFlaw_5 ?_
  refine lv_iload_n C0.1 C0.2.1 dX7_isFlaw_6 rfl (lv_at hl 2 rfl) ?_
  refine hv_iald C0 w hN (hn_in (by omega) (by decide)) dX7_isFlaw_7 ?_
  have hc1 : (nI (i + 1)).toNatClampNeg = (i + 1) := nI_clamp (by omega)
  rw [hc1]
  refine lv_i2l (v := (f (i + 1)).toInt64) C0.1 C0.2.1 dX7_isFlaw_8 rfl ?_
  refine lv_lstore_n (lv' := [(3, .long ((f (i + 1)).toInt64)), (0, .ref mo), (1, .int (nI j)), (2, .int (nI (i + 1)))]) C0.1 C0.2.1 dX7_isFlaw_9 rfl hl (by decide) rfl (fun ls hl => ?_)
  refine lv_iload_n C0.1 C0.2.1 dX7_isFlaw_10 rfl (lv_at hl 3 rfl) ?_
  refine lv_if_le (tgt := 28) C0.1 C0.2.1 dX7_isFlaw_11 (by decide) (fun c_11 => absurd c_11 (nI_nle (by omega) (by omega))) (fun c_11 => ?_)
  refine lv_aload_n C0.1 C0.2.1 dX7_isFlaw_14 rfl (lv_at hl 1 rfl) ?_
  refine gf_X7_20 C0 w hO rfl dX7_isFlaw_15 ?_
  refine lv_iload_n C0.1 C0.2.1 dX7_isFlaw_18 rfl (lv_at hl 2 rfl) ?_
  refine hv_aalA 6 rfl C0 w rfl r3 (hn_in hj (by decide)) (by rw [kj]; exact rj) dX7_isFlaw_19 ?_
  refine lv_iload_n C0.1 C0.2.1 dX7_isFlaw_20 rfl (lv_at hl 3 rfl) ?_
  refine lv_iconst (v := 1) C0.1 C0.2.1 dX7_isFlaw_21 (by decide) ?_
  refine lv_isub C0.1 C0.2.1 dX7_isFlaw_22 ?_
  rw [nI_pred]
  refine hv_iald C0 w hN (hn_in (by omega) (by decide)) dX7_isFlaw_23 ?_
  have hc2 : (nI i).toNatClampNeg = i := nI_clamp (by omega)
  rw [hc2]
  refine lv_i2l (v := (f i).toInt64) C0.1 C0.2.1 dX7_isFlaw_24 rfl ?_
  refine lv_goto (tgt := 29) C0.1 C0.2.1 dX7_isFlaw_25 (by decide) ?_
  refine lv_lstore (lv' := [(5, .long ((f i).toInt64)), (3, .long ((f (i + 1)).toInt64)), (0, .ref mo), (1, .int (nI j)), (2, .int (nI (i + 1)))]) C0.1 C0.2.1 dX7_isFlaw_29 hl (by decide) rfl (fun ls hl => ?_)
  refine lv_iload_n C0.1 C0.2.1 dX7_isFlaw_31 rfl (lv_at hl 4 rfl) ?_
  refine lv_aload_n C0.1 C0.2.1 dX7_isFlaw_32 rfl (lv_at hl 2 rfl) ?_
  refine gf_X7_15 C0 w hO rfl dX7_isFlaw_33 ?_
  refine lv_iload_n C0.1 C0.2.1 dX7_isFlaw_36 rfl (lv_at hl 3 rfl) ?_
  refine hv_iald C0 w r2 (hn_in hj (by decide)) dX7_isFlaw_37 ?_
  have hc3 : (nI j).toNatClampNeg = j := nI_clamp (by omega)
  rw [hc3]
  rw [hma]
  refine lv_iconst (v := 1) C0.1 C0.2.1 dX7_isFlaw_38 (by decide) ?_
  refine lv_isub C0.1 C0.2.1 dX7_isFlaw_39 ?_
  refine lv_icmp_ne (tgt := 47) C0.1 C0.2.1 dX7_isFlaw_40 (by decide) (fun c_40 => ?_) (fun c_40 => ?_)
  · skip
    refine lv_iconst (v := 0) C0.1 C0.2.1 dX7_isFlaw_47 (by decide) ?_
    refine lv_istore (lv' := [(7, .int 0), (5, .long ((f i).toInt64)), (3, .long ((f (i + 1)).toInt64)), (0, .ref mo), (1, .int (nI j)), (2, .int (nI (i + 1)))]) C0.1 C0.2.1 dX7_isFlaw_48 hl (by decide) rfl (fun ls hl => ?_)
    refine lv_aload_n C0.1 C0.2.1 dX7_isFlaw_50 rfl (lv_at hl 3 rfl) ?_
    refine gf_X7_11 C0 w hO rfl dX7_isFlaw_51 ?_
    refine lv_iload_n C0.1 C0.2.1 dX7_isFlaw_54 rfl (lv_at hl 4 rfl) ?_
    refine hv_iald C0 w r1 (hn_in hj (by decide)) dX7_isFlaw_55 ?_
    have hc4 : (nI j).toNatClampNeg = j := nI_clamp (by omega)
    rw [hc4]
    by_cases c_56_0 : (ki j) = 0
    · refine lv_tableIn (off := 28) (tgt := 84) C0.1 C0.2.1 dX7_isFlaw_56 (by rw [c_56_0]; decide) (by rw [c_56_0]; decide) (by rw [c_56_0]; rfl) (by decide) ?_
      refine lv_iload_n C0.1 C0.2.1 dX7_isFlaw_84 rfl (lv_at hl 5 rfl) ?_
      refine lv_if_ne (tgt := 104) C0.1 C0.2.1 dX7_isFlaw_85 (by decide) (fun c_85 => ?_) (fun c_85 => absurd c_85 (nI_ne0 (by omega) (by omega)))
      refine lv_lload_n C0.1 C0.2.1 dX7_isFlaw_104 rfl (lv_at hl 2 rfl) ?_
      refine lv_lload C0.1 C0.2.1 dX7_isFlaw_105 (lv_at hl 1 rfl) ?_
      refine lv_lload C0.1 C0.2.1 dX7_isFlaw_107 (lv_at hl 1 rfl) ?_
      refine lv_lconst (v := 1) C0.1 C0.2.1 dX7_isFlaw_109 (by decide) ?_
      refine lv_lsub C0.1 C0.2.1 dX7_isFlaw_110 ?_
      refine lv_lmul C0.1 C0.2.1 dX7_isFlaw_111 ?_
      refine lv_lconst (v := 1) C0.1 C0.2.1 dX7_isFlaw_112 (by decide) ?_
      refine lv_ladd C0.1 C0.2.1 dX7_isFlaw_113 ?_
      refine hv_lc_ge (tgt := 122) C0.1 C0.2.1 dX7_isFlaw_114 dX7_isFlaw_115 (by decide) (fun c_114 => ?_) (fun c_114 => ?_)
      · skip
        refine lv_iconst (v := 0) C0.1 C0.2.1 dX7_isFlaw_122 (by decide) ?_
        exact hv_zret C0 w hr hlk (by decide) (⟨rfl, Or.inr ⟨rfl, fun h9 => by rw [sp_am, if_pos c_56_0, if_neg (Nat.succ_ne_zero _)] at h9; exact absurd (of_decide_eq_true h9) (Int64.not_lt.mpr c_114)⟩⟩) dX7_isFlaw_123
      · skip
        refine lv_iconst (v := 1) C0.1 C0.2.1 dX7_isFlaw_118 (by decide) ?_
        refine lv_goto (tgt := 123) C0.1 C0.2.1 dX7_isFlaw_119 (by decide) ?_
        exact hv_zret C0 w hr hlk (by decide) (⟨rfl, Or.inl ⟨rfl, by rw [sp_am, if_pos c_56_0, if_neg (Nat.succ_ne_zero _)]; exact decide_eq_true (Int64.not_le.mp c_114)⟩⟩) dX7_isFlaw_123
    by_cases c_56_1 : (ki j) = 1
    · refine lv_tableIn (off := 68) (tgt := 124) C0.1 C0.2.1 dX7_isFlaw_56 (by rw [c_56_1]; decide) (by rw [c_56_1]; decide) (by rw [c_56_1]; rfl) (by decide) ?_
      refine lv_iload_n C0.1 C0.2.1 dX7_isFlaw_124 rfl (lv_at hl 5 rfl) ?_
      refine lv_if_ne (tgt := 144) C0.1 C0.2.1 dX7_isFlaw_125 (by decide) (fun c_125 => ?_) (fun c_125 => absurd c_125 (nI_ne0 (by omega) (by omega)))
      refine lv_lload_n C0.1 C0.2.1 dX7_isFlaw_144 rfl (lv_at hl 2 rfl) ?_
      refine lv_lload C0.1 C0.2.1 dX7_isFlaw_145 (lv_at hl 1 rfl) ?_
      refine hv_lc_ge (tgt := 155) C0.1 C0.2.1 dX7_isFlaw_147 dX7_isFlaw_148 (by decide) (fun c_147 => ?_) (fun c_147 => ?_)
      · skip
        refine lv_iconst (v := 0) C0.1 C0.2.1 dX7_isFlaw_155 (by decide) ?_
        exact hv_zret C0 w hr hlk (by decide) (⟨rfl, Or.inr ⟨rfl, fun h9 => by rw [sp_am, if_neg (by rw [c_56_1]; decide), if_pos c_56_1, if_neg (Nat.succ_ne_zero _)] at h9; exact absurd (of_decide_eq_true h9) (Int64.not_lt.mpr c_147)⟩⟩) dX7_isFlaw_156
      · skip
        refine lv_iconst (v := 1) C0.1 C0.2.1 dX7_isFlaw_151 (by decide) ?_
        refine lv_goto (tgt := 156) C0.1 C0.2.1 dX7_isFlaw_152 (by decide) ?_
        exact hv_zret C0 w hr hlk (by decide) (⟨rfl, Or.inl ⟨rfl, by rw [sp_am, if_neg (by rw [c_56_1]; decide), if_pos c_56_1, if_neg (Nat.succ_ne_zero _)]; exact decide_eq_true (Int64.not_le.mp c_147)⟩⟩) dX7_isFlaw_156
    by_cases c_56_2 : (ki j) = 2
    · refine lv_tableIn (off := 101) (tgt := 157) C0.1 C0.2.1 dX7_isFlaw_56 (by rw [c_56_2]; decide) (by rw [c_56_2]; decide) (by rw [c_56_2]; rfl) (by decide) ?_
      refine lv_iload_n C0.1 C0.2.1 dX7_isFlaw_157 rfl (lv_at hl 5 rfl) ?_
      refine lv_if_ne (tgt := 186) C0.1 C0.2.1 dX7_isFlaw_158 (by decide) (fun c_158 => ?_) (fun c_158 => absurd c_158 (nI_ne0 (by omega) (by omega)))
      refine lv_lload_n C0.1 C0.2.1 dX7_isFlaw_186 rfl (lv_at hl 2 rfl) ?_
      refine lv_lload C0.1 C0.2.1 dX7_isFlaw_187 (lv_at hl 1 rfl) ?_
      refine hv_lc_le (tgt := 207) C0.1 C0.2.1 dX7_isFlaw_189 dX7_isFlaw_190 (by decide) (fun c_189 => ?_) (fun c_189 => ?_)
      · skip
        refine lv_iconst (v := 1) C0.1 C0.2.1 dX7_isFlaw_207 (by decide) ?_
        refine lv_goto (tgt := 212) C0.1 C0.2.1 dX7_isFlaw_208 (by decide) ?_
        exact hv_zret C0 w hr hlk (by decide) (⟨rfl, Or.inl ⟨rfl, by rw [sp_am, if_neg (by rw [c_56_2]; decide), if_neg (by rw [c_56_2]; decide), if_pos c_56_2, if_neg (Nat.succ_ne_zero _)]; exact decide_eq_true (Or.inl c_189)⟩⟩) dX7_isFlaw_212
      · skip
        refine lv_iload C0.1 C0.2.1 dX7_isFlaw_193 (lv_at hl 0 rfl) ?_
        refine lv_if_eq (tgt := 211) C0.1 C0.2.1 dX7_isFlaw_195 (by decide) (fun _ => ?_) (fun h9 => absurd h9 (by decide))
        refine lv_iconst (v := 0) C0.1 C0.2.1 dX7_isFlaw_211 (by decide) ?_
        exact hv_zret C0 w hr hlk (by decide) (⟨rfl, Or.inr ⟨rfl, fun h9 => by rw [sp_am, if_neg (by rw [c_56_2]; decide), if_neg (by rw [c_56_2]; decide), if_pos c_56_2, if_neg (Nat.succ_ne_zero _)] at h9; exact absurd (of_decide_eq_true h9) (fun h8 => h8.elim (fun h7 => c_189 h7) (fun h7 => c_40 h7.1))⟩⟩) dX7_isFlaw_212
    have tc_56_0 : (ki j).toInt ≠ 0 := fun h9 => c_56_0 (Int32.toInt_inj.mp (h9.trans (by decide)))
    have tc_56_1 : (ki j).toInt ≠ 1 := fun h9 => c_56_1 (Int32.toInt_inj.mp (h9.trans (by decide)))
    have tc_56_2 : (ki j).toInt ≠ 2 := fun h9 => c_56_2 (Int32.toInt_inj.mp (h9.trans (by decide)))
    refine lv_tableOut (tgt := 213) C0.1 C0.2.1 dX7_isFlaw_56 (by omega) (by decide) ?_
    refine lv_lload_n C0.1 C0.2.1 dX7_isFlaw_213 rfl (lv_at hl 2 rfl) ?_
    refine lv_iload_n C0.1 C0.2.1 dX7_isFlaw_214 rfl (lv_at hl 5 rfl) ?_
    refine lv_iconst (v := 1) C0.1 C0.2.1 dX7_isFlaw_215 (by decide) ?_
    refine lv_iadd C0.1 C0.2.1 dX7_isFlaw_216 ?_
    refine lv_i2l (v := ((nI (i + 1)) + 1).toInt64) C0.1 C0.2.1 dX7_isFlaw_217 rfl ?_
    refine hv_lc_gt (tgt := 233) C0.1 C0.2.1 dX7_isFlaw_218 dX7_isFlaw_219 (by decide) (fun c_218 => ?_) (fun c_218 => ?_)
    · skip
      refine lv_iconst (v := 1) C0.1 C0.2.1 dX7_isFlaw_233 (by decide) ?_
      refine lv_goto (tgt := 238) C0.1 C0.2.1 dX7_isFlaw_234 (by decide) ?_
      exact hv_zret C0 w hr hlk (by decide) (⟨rfl, Or.inl ⟨rfl, by rw [sp_am, if_neg c_56_0, if_neg c_56_1, if_neg c_56_2]; exact decide_eq_true (Or.inl c_218)⟩⟩) dX7_isFlaw_238
    · skip
      refine lv_iload C0.1 C0.2.1 dX7_isFlaw_222 (lv_at hl 0 rfl) ?_
      refine lv_if_eq (tgt := 237) C0.1 C0.2.1 dX7_isFlaw_224 (by decide) (fun _ => ?_) (fun h9 => absurd h9 (by decide))
      refine lv_iconst (v := 0) C0.1 C0.2.1 dX7_isFlaw_237 (by decide) ?_
      exact hv_zret C0 w hr hlk (by decide) (⟨rfl, Or.inr ⟨rfl, fun h9 => by rw [sp_am, if_neg c_56_0, if_neg c_56_1, if_neg c_56_2] at h9; exact absurd (of_decide_eq_true h9) (fun h8 => h8.elim (fun h7 => c_218 h7) (fun h7 => c_40 h7.1))⟩⟩) dX7_isFlaw_238
  · skip
    refine lv_iconst (v := 1) C0.1 C0.2.1 dX7_isFlaw_43 (by decide) ?_
    refine lv_goto (tgt := 48) C0.1 C0.2.1 dX7_isFlaw_44 (by decide) ?_
    refine lv_istore (lv' := [(7, .int 1), (5, .long ((f i).toInt64)), (3, .long ((f (i + 1)).toInt64)), (0, .ref mo), (1, .int (nI j)), (2, .int (nI (i + 1)))]) C0.1 C0.2.1 dX7_isFlaw_48 hl (by decide) rfl (fun ls hl => ?_)
    refine lv_aload_n C0.1 C0.2.1 dX7_isFlaw_50 rfl (lv_at hl 3 rfl) ?_
    refine gf_X7_11 C0 w hO rfl dX7_isFlaw_51 ?_
    refine lv_iload_n C0.1 C0.2.1 dX7_isFlaw_54 rfl (lv_at hl 4 rfl) ?_
    refine hv_iald C0 w r1 (hn_in hj (by decide)) dX7_isFlaw_55 ?_
    have hc5 : (nI j).toNatClampNeg = j := nI_clamp (by omega)
    rw [hc5]
    by_cases c_56_0 : (ki j) = 0
    · refine lv_tableIn (off := 28) (tgt := 84) C0.1 C0.2.1 dX7_isFlaw_56 (by rw [c_56_0]; decide) (by rw [c_56_0]; decide) (by rw [c_56_0]; rfl) (by decide) ?_
      refine lv_iload_n C0.1 C0.2.1 dX7_isFlaw_84 rfl (lv_at hl 5 rfl) ?_
      refine lv_if_ne (tgt := 104) C0.1 C0.2.1 dX7_isFlaw_85 (by decide) (fun c_85 => ?_) (fun c_85 => absurd c_85 (nI_ne0 (by omega) (by omega)))
      refine lv_lload_n C0.1 C0.2.1 dX7_isFlaw_104 rfl (lv_at hl 2 rfl) ?_
      refine lv_lload C0.1 C0.2.1 dX7_isFlaw_105 (lv_at hl 1 rfl) ?_
      refine lv_lload C0.1 C0.2.1 dX7_isFlaw_107 (lv_at hl 1 rfl) ?_
      refine lv_lconst (v := 1) C0.1 C0.2.1 dX7_isFlaw_109 (by decide) ?_
      refine lv_lsub C0.1 C0.2.1 dX7_isFlaw_110 ?_
      refine lv_lmul C0.1 C0.2.1 dX7_isFlaw_111 ?_
      refine lv_lconst (v := 1) C0.1 C0.2.1 dX7_isFlaw_112 (by decide) ?_
      refine lv_ladd C0.1 C0.2.1 dX7_isFlaw_113 ?_
      refine hv_lc_ge (tgt := 122) C0.1 C0.2.1 dX7_isFlaw_114 dX7_isFlaw_115 (by decide) (fun c_114 => ?_) (fun c_114 => ?_)
      · skip
        refine lv_iconst (v := 0) C0.1 C0.2.1 dX7_isFlaw_122 (by decide) ?_
        exact hv_zret C0 w hr hlk (by decide) (⟨rfl, Or.inr ⟨rfl, fun h9 => by rw [sp_am, if_pos c_56_0, if_neg (Nat.succ_ne_zero _)] at h9; exact absurd (of_decide_eq_true h9) (Int64.not_lt.mpr c_114)⟩⟩) dX7_isFlaw_123
      · skip
        refine lv_iconst (v := 1) C0.1 C0.2.1 dX7_isFlaw_118 (by decide) ?_
        refine lv_goto (tgt := 123) C0.1 C0.2.1 dX7_isFlaw_119 (by decide) ?_
        exact hv_zret C0 w hr hlk (by decide) (⟨rfl, Or.inl ⟨rfl, by rw [sp_am, if_pos c_56_0, if_neg (Nat.succ_ne_zero _)]; exact decide_eq_true (Int64.not_le.mp c_114)⟩⟩) dX7_isFlaw_123
    by_cases c_56_1 : (ki j) = 1
    · refine lv_tableIn (off := 68) (tgt := 124) C0.1 C0.2.1 dX7_isFlaw_56 (by rw [c_56_1]; decide) (by rw [c_56_1]; decide) (by rw [c_56_1]; rfl) (by decide) ?_
      refine lv_iload_n C0.1 C0.2.1 dX7_isFlaw_124 rfl (lv_at hl 5 rfl) ?_
      refine lv_if_ne (tgt := 144) C0.1 C0.2.1 dX7_isFlaw_125 (by decide) (fun c_125 => ?_) (fun c_125 => absurd c_125 (nI_ne0 (by omega) (by omega)))
      refine lv_lload_n C0.1 C0.2.1 dX7_isFlaw_144 rfl (lv_at hl 2 rfl) ?_
      refine lv_lload C0.1 C0.2.1 dX7_isFlaw_145 (lv_at hl 1 rfl) ?_
      refine hv_lc_ge (tgt := 155) C0.1 C0.2.1 dX7_isFlaw_147 dX7_isFlaw_148 (by decide) (fun c_147 => ?_) (fun c_147 => ?_)
      · skip
        refine lv_iconst (v := 0) C0.1 C0.2.1 dX7_isFlaw_155 (by decide) ?_
        exact hv_zret C0 w hr hlk (by decide) (⟨rfl, Or.inr ⟨rfl, fun h9 => by rw [sp_am, if_neg (by rw [c_56_1]; decide), if_pos c_56_1, if_neg (Nat.succ_ne_zero _)] at h9; exact absurd (of_decide_eq_true h9) (Int64.not_lt.mpr c_147)⟩⟩) dX7_isFlaw_156
      · skip
        refine lv_iconst (v := 1) C0.1 C0.2.1 dX7_isFlaw_151 (by decide) ?_
        refine lv_goto (tgt := 156) C0.1 C0.2.1 dX7_isFlaw_152 (by decide) ?_
        exact hv_zret C0 w hr hlk (by decide) (⟨rfl, Or.inl ⟨rfl, by rw [sp_am, if_neg (by rw [c_56_1]; decide), if_pos c_56_1, if_neg (Nat.succ_ne_zero _)]; exact decide_eq_true (Int64.not_le.mp c_147)⟩⟩) dX7_isFlaw_156
    by_cases c_56_2 : (ki j) = 2
    · refine lv_tableIn (off := 101) (tgt := 157) C0.1 C0.2.1 dX7_isFlaw_56 (by rw [c_56_2]; decide) (by rw [c_56_2]; decide) (by rw [c_56_2]; rfl) (by decide) ?_
      refine lv_iload_n C0.1 C0.2.1 dX7_isFlaw_157 rfl (lv_at hl 5 rfl) ?_
      refine lv_if_ne (tgt := 186) C0.1 C0.2.1 dX7_isFlaw_158 (by decide) (fun c_158 => ?_) (fun c_158 => absurd c_158 (nI_ne0 (by omega) (by omega)))
      refine lv_lload_n C0.1 C0.2.1 dX7_isFlaw_186 rfl (lv_at hl 2 rfl) ?_
      refine lv_lload C0.1 C0.2.1 dX7_isFlaw_187 (lv_at hl 1 rfl) ?_
      refine hv_lc_le (tgt := 207) C0.1 C0.2.1 dX7_isFlaw_189 dX7_isFlaw_190 (by decide) (fun c_189 => ?_) (fun c_189 => ?_)
      · skip
        refine lv_iconst (v := 1) C0.1 C0.2.1 dX7_isFlaw_207 (by decide) ?_
        refine lv_goto (tgt := 212) C0.1 C0.2.1 dX7_isFlaw_208 (by decide) ?_
        exact hv_zret C0 w hr hlk (by decide) (⟨rfl, Or.inl ⟨rfl, by rw [sp_am, if_neg (by rw [c_56_2]; decide), if_neg (by rw [c_56_2]; decide), if_pos c_56_2, if_neg (Nat.succ_ne_zero _)]; exact decide_eq_true (Or.inl c_189)⟩⟩) dX7_isFlaw_212
      · skip
        refine lv_iload C0.1 C0.2.1 dX7_isFlaw_193 (lv_at hl 0 rfl) ?_
        refine lv_if_eq (tgt := 211) C0.1 C0.2.1 dX7_isFlaw_195 (by decide) (fun h9 => absurd h9 (by decide)) (fun _ => ?_)
        refine lv_lload_n C0.1 C0.2.1 dX7_isFlaw_198 rfl (lv_at hl 2 rfl) ?_
        refine lv_lload C0.1 C0.2.1 dX7_isFlaw_199 (lv_at hl 1 rfl) ?_
        refine lv_lconst (v := 1) C0.1 C0.2.1 dX7_isFlaw_201 (by decide) ?_
        refine lv_ladd C0.1 C0.2.1 dX7_isFlaw_202 ?_
        refine hv_lc_ne (tgt := 211) C0.1 C0.2.1 dX7_isFlaw_203 dX7_isFlaw_204 (by decide) (fun c_203 => ?_) (fun c_203 => ?_)
        · skip
          refine lv_iconst (v := 0) C0.1 C0.2.1 dX7_isFlaw_211 (by decide) ?_
          exact hv_zret C0 w hr hlk (by decide) (⟨rfl, Or.inr ⟨rfl, fun h9 => by rw [sp_am, if_neg (by rw [c_56_2]; decide), if_neg (by rw [c_56_2]; decide), if_pos c_56_2, if_neg (Nat.succ_ne_zero _)] at h9; exact absurd (of_decide_eq_true h9) (fun h8 => h8.elim (fun h7 => c_189 h7) (fun h7 => c_203 h7.2))⟩⟩) dX7_isFlaw_212
        · skip
          refine lv_iconst (v := 1) C0.1 C0.2.1 dX7_isFlaw_207 (by decide) ?_
          refine lv_goto (tgt := 212) C0.1 C0.2.1 dX7_isFlaw_208 (by decide) ?_
          exact hv_zret C0 w hr hlk (by decide) (⟨rfl, Or.inl ⟨rfl, by rw [sp_am, if_neg (by rw [c_56_2]; decide), if_neg (by rw [c_56_2]; decide), if_pos c_56_2, if_neg (Nat.succ_ne_zero _)]; exact decide_eq_true (Or.inr ⟨c_40, c_203⟩)⟩⟩) dX7_isFlaw_212
    have tc_56_0 : (ki j).toInt ≠ 0 := fun h9 => c_56_0 (Int32.toInt_inj.mp (h9.trans (by decide)))
    have tc_56_1 : (ki j).toInt ≠ 1 := fun h9 => c_56_1 (Int32.toInt_inj.mp (h9.trans (by decide)))
    have tc_56_2 : (ki j).toInt ≠ 2 := fun h9 => c_56_2 (Int32.toInt_inj.mp (h9.trans (by decide)))
    refine lv_tableOut (tgt := 213) C0.1 C0.2.1 dX7_isFlaw_56 (by omega) (by decide) ?_
    refine lv_lload_n C0.1 C0.2.1 dX7_isFlaw_213 rfl (lv_at hl 2 rfl) ?_
    refine lv_iload_n C0.1 C0.2.1 dX7_isFlaw_214 rfl (lv_at hl 5 rfl) ?_
    refine lv_iconst (v := 1) C0.1 C0.2.1 dX7_isFlaw_215 (by decide) ?_
    refine lv_iadd C0.1 C0.2.1 dX7_isFlaw_216 ?_
    refine lv_i2l (v := ((nI (i + 1)) + 1).toInt64) C0.1 C0.2.1 dX7_isFlaw_217 rfl ?_
    refine hv_lc_gt (tgt := 233) C0.1 C0.2.1 dX7_isFlaw_218 dX7_isFlaw_219 (by decide) (fun c_218 => ?_) (fun c_218 => ?_)
    · skip
      refine lv_iconst (v := 1) C0.1 C0.2.1 dX7_isFlaw_233 (by decide) ?_
      refine lv_goto (tgt := 238) C0.1 C0.2.1 dX7_isFlaw_234 (by decide) ?_
      exact hv_zret C0 w hr hlk (by decide) (⟨rfl, Or.inl ⟨rfl, by rw [sp_am, if_neg c_56_0, if_neg c_56_1, if_neg c_56_2]; exact decide_eq_true (Or.inl c_218)⟩⟩) dX7_isFlaw_238
    · skip
      refine lv_iload C0.1 C0.2.1 dX7_isFlaw_222 (lv_at hl 0 rfl) ?_
      refine lv_if_eq (tgt := 237) C0.1 C0.2.1 dX7_isFlaw_224 (by decide) (fun h9 => absurd h9 (by decide)) (fun _ => ?_)
      refine lv_lload_n C0.1 C0.2.1 dX7_isFlaw_227 rfl (lv_at hl 2 rfl) ?_
      refine lv_lconst (v := 0) C0.1 C0.2.1 dX7_isFlaw_228 (by decide) ?_
      refine hv_lc_ne (tgt := 237) C0.1 C0.2.1 dX7_isFlaw_229 dX7_isFlaw_230 (by decide) (fun c_229 => ?_) (fun c_229 => ?_)
      · skip
        refine lv_iconst (v := 0) C0.1 C0.2.1 dX7_isFlaw_237 (by decide) ?_
        exact hv_zret C0 w hr hlk (by decide) (⟨rfl, Or.inr ⟨rfl, fun h9 => by rw [sp_am, if_neg c_56_0, if_neg c_56_1, if_neg c_56_2] at h9; exact absurd (of_decide_eq_true h9) (fun h8 => h8.elim (fun h7 => c_218 h7) (fun h7 => c_229 h7.2))⟩⟩) dX7_isFlaw_238
      · skip
        refine lv_iconst (v := 1) C0.1 C0.2.1 dX7_isFlaw_233 (by decide) ?_
        refine lv_goto (tgt := 238) C0.1 C0.2.1 dX7_isFlaw_234 (by decide) ?_
        exact hv_zret C0 w hr hlk (by decide) (⟨rfl, Or.inl ⟨rfl, by rw [sp_am, if_neg c_56_0, if_neg c_56_1, if_neg c_56_2]; exact decide_eq_true (Or.inr ⟨c_40, c_229⟩)⟩⟩) dX7_isFlaw_238

theorem c_X7_isFlaw {l : Launch} {X : hv_X} {V : hv_V} {mo : Nat} {ab be : Int64} {tx se ev bk : Nat} {pl cl sg ik : Int32} (hO : V mo = some (mE mo ab be tx pl cl sg se ev bk ik)) {ki ma : Nat → Int32} {rf : Nat → Option Nat} {j n : Nat} {f : Nat → Int32} (r1 : V (mo + 1) = some (iE X 6 ki)) (r2 : V (mo + 2) = some (iE X 6 ma)) (hma : ma j = nI n) (r3 : V (mo + 3) = some (qE X 6 6 rf)) (rj : rf j = some (mo + 4 + j)) (hj : j < 6) (hN : V (mo + 4 + j) = some (nE X f)) (hn : n ≤ 16) {i : Nat} (hi : i < n) : hv_Mi l X 0 yX7_isFlaw cX7_isFlaw 8 .boolean V [.ref mo, .int (nI j), .int (nI i)] (fun y V1 => V1 = V ∧ hv_B (sp_am (ki j) n f i = true) y) := by
  cases i with
  | zero => exact c_X7_isFlaw0 hO r1 r2 hma r3 rj hj hN hn hi
  | succ i => exact c_X7_isFlawS hO r1 r2 hma r3 rj hj hN hn hi
set_option maxHeartbeats 4000000 in
set_option maxRecDepth 100000 in
theorem c_X7_flaw {l : Launch} {X : hv_X} {V : hv_V} {mo : Nat} {ab be : Int64} {tx se ev bk : Nat} {pl cl sg ik : Int32} (hO : V mo = some (mE mo ab be tx pl cl sg se ev bk ik)) {ki ma : Nat → Int32} {rf : Nat → Option Nat} {j n : Nat} {f : Nat → Int32} (r1 : V (mo + 1) = some (iE X 6 ki)) (r2 : V (mo + 2) = some (iE X 6 ma)) (hma : ma j = nI n) (r3 : V (mo + 3) = some (qE X 6 6 rf)) (rj : rf j = some (mo + 4 + j)) (hj : j < 6) (hN : V (mo + 4 + j) = some (nE X f)) (hn : n ≤ 16) : hv_Mi l X 1 yX7_flaw cX7_flaw 3 .int V [.ref mo, .int (nI j)] (fun y V1 => V1 = V ∧ y = sp_flaw (ki j) n f) := by
  refine hv_enter (by decide) (Nat.le_of_ble_eq_true rfl) ?_
  intro p e s m below meth c ls C0 hr hlk hnm w hl
  have hl : lv_has ls 3 [(0, .ref mo), (1, .int (nI j))] := hl
  have loop : ∀ (m9 i : Nat) (Hq : Heap) (lq : List Loc) (ls : Array Slot), (i + m9 = n) → (sp_fl (ki j) n f m9 i = sp_flaw (ki j) n f) → hv_w X s (V) Hq lq → lv_has ls 3 [(0, .ref mo), (1, .int (nI j)), (2, .int (nI i))] → W p l e (hv_rm 1 0 0) s m ([.ref mo, .int (nI j)] : List Value).toArray below meth c Hq lq 0 0 (MQ below (hv_Qi X (fun y V1 => V1 = V ∧ y = sp_flaw (ki j) n f)) ([.ref mo, .int (nI j)] : List Value).toArray s 0 0 X.2.2.1) (F0 m 13 ls []) := by
    intro m9
    induction m9 with
    | zero =>
      intro i Hq lq ls hi he w hl
      have he : (-5 : Int32) = sp_flaw (ki j) n f := he
      refine lv_iload_n C0.1 C0.2.1 dX7_flaw_13 rfl (lv_at hl 2 rfl) ?_
      refine lv_aload_n C0.1 C0.2.1 dX7_flaw_14 rfl (lv_at hl 0 rfl) ?_
      refine gf_X7_15 C0 w hO rfl dX7_flaw_15 ?_
      refine lv_iload_n C0.1 C0.2.1 dX7_flaw_18 rfl (lv_at hl 1 rfl) ?_
      refine hv_iald C0 w r2 (hn_in hj (by decide)) dX7_flaw_19 ?_
      have hc1 : (nI j).toNatClampNeg = j := nI_clamp (by omega)
      rw [hc1]
      rw [hma]
      refine lv_icmp_ge (tgt := 40) C0.1 C0.2.1 dX7_flaw_20 (by decide) (fun c_20 => ?_) (fun c_20 => absurd (nI_le (by omega) (by omega)) c_20)
      refine lv_bipush (v := -5) C0.1 C0.2.1 dX7_flaw_40 (by decide) ?_
      exact hv_iret C0 w hr hlk (⟨rfl, he⟩) dX7_flaw_42
    | succ m9 ih =>
      intro i Hq lq ls hi he w hl
      refine lv_iload_n C0.1 C0.2.1 dX7_flaw_13 rfl (lv_at hl 2 rfl) ?_
      refine lv_aload_n C0.1 C0.2.1 dX7_flaw_14 rfl (lv_at hl 0 rfl) ?_
      refine gf_X7_15 C0 w hO rfl dX7_flaw_15 ?_
      refine lv_iload_n C0.1 C0.2.1 dX7_flaw_18 rfl (lv_at hl 1 rfl) ?_
      refine hv_iald C0 w r2 (hn_in hj (by decide)) dX7_flaw_19 ?_
      have hc1 : (nI j).toNatClampNeg = j := nI_clamp (by omega)
      rw [hc1]
      rw [hma]
      refine lv_icmp_ge (tgt := 40) C0.1 C0.2.1 dX7_flaw_20 (by decide) (fun c_20 => absurd c_20 (nI_ge (by omega) (by omega))) (fun c_20 => ?_)
      refine lv_aload_n C0.1 C0.2.1 dX7_flaw_23 rfl (lv_at hl 0 rfl) ?_
      refine lv_iload_n C0.1 C0.2.1 dX7_flaw_24 rfl (lv_at hl 1 rfl) ?_
      refine lv_iload_n C0.1 C0.2.1 dX7_flaw_25 rfl (lv_at hl 2 rfl) ?_
      refine hv_cVi C0 w kl_X7_233 kv_X7_isFlaw rfl hO (c_X7_isFlaw hO r1 r2 hma r3 rj hj hN hn (i := i) (by omega)) (by decide) (by decide) rfl hl.1 rfl (Nat.le_of_ble_eq_true rfl) dX7_flaw_26 ⟨Nat.le_refl _, Nat.le_refl _⟩ (fun x2 V3 Hq lq hp4 w => ?_)
      obtain ⟨e9, hz9⟩ := hp4
      rw [e9] at w; clear e9
      rcases hz9 with ⟨rfl, hb5⟩ | ⟨rfl, hb5⟩
      · skip
        refine lv_if_eq (tgt := 34) C0.1 C0.2.1 dX7_flaw_29 (by decide) (fun h9 => absurd h9 (by decide)) (fun _ => ?_)
        refine lv_iload_n C0.1 C0.2.1 dX7_flaw_32 rfl (lv_at hl 2 rfl) ?_
        exact hv_iret C0 w hr hlk (⟨rfl, by rw [← he, sp_fl, if_pos hb5]⟩) dX7_flaw_33
      · skip
        refine lv_if_eq (tgt := 34) C0.1 C0.2.1 dX7_flaw_29 (by decide) (fun _ => ?_) (fun h9 => absurd h9 (by decide))
        refine lv_iinc (v := (nI i) + 1) (lv' := [(2, .int ((nI i) + 1)), (0, .ref mo), (1, .int (nI j))]) C0.1 C0.2.1 dX7_flaw_34 hl (k := 2) rfl rfl (by decide) rfl (fun ls hl => ?_)
        refine lv_goto (tgt := 13) C0.1 C0.2.1 dX7_flaw_37 (by decide) ?_
        exact ih (i + 1) _ _ ls (by omega) (by rw [← he, sp_fl, if_neg hb5]) w (by have h9 := (lv_sub (l' := [(0, .ref mo), (1, .int (nI j)), (2, .int (nI i + 1))]) hl [1, 2, 0] rfl); rw [nI_1] at h9; exact h9)
  refine lv_aload_n C0.1 C0.2.1 dX7_flaw_0 rfl (lv_at hl 0 rfl) ?_
  refine gf_X7_15 C0 w hO rfl dX7_flaw_1 ?_
  refine lv_iload_n C0.1 C0.2.1 dX7_flaw_4 rfl (lv_at hl 1 rfl) ?_
  refine hv_iald C0 w r2 (hn_in hj (by decide)) dX7_flaw_5 ?_
  have hc1 : (nI j).toNatClampNeg = j := nI_clamp (by omega)
  rw [hc1]
  rw [hma]
  refine lv_if_ne (tgt := 11) C0.1 C0.2.1 dX7_flaw_6 (by decide) (fun c_6 => ?_) (fun c_6 => ?_)
  · skip
    refine lv_iconst (v := 0) C0.1 C0.2.1 dX7_flaw_11 (by decide) ?_
    refine lv_istore_n (lv' := [(2, .int 0), (0, .ref mo), (1, .int (nI j))]) C0.1 C0.2.1 dX7_flaw_12 rfl hl (by decide) rfl (fun ls hl => ?_)
    exact loop n 0 _ _ ls (by omega) (by rw [sp_flaw, if_neg (fun h9 => c_6 (by rw [h9]; rfl))]) w (lv_sub hl [1, 2, 0] rfl)
  · skip
    refine lv_iconst (v := 0) C0.1 C0.2.1 dX7_flaw_9 (by decide) ?_
    exact hv_iret C0 w hr hlk (⟨rfl, by rw [sp_flaw, if_pos ((nI_eq (b := 0) (by omega) (by omega)).mp c_6)]⟩) dX7_flaw_10

theorem hs_03 {w : Int32} (h : sp_in w 0 3) : w = 0 ∨ w = 1 ∨ w = 2 ∨ w = 3 := by
  obtain ⟨j, hj, rfl⟩ := sp_inN (k := 3) (by decide) h
  rcases (show j = 0 ∨ j = 1 ∨ j = 2 ∨ j = 3 by omega) with rfl | rfl | rfl | rfl
  · exact Or.inl rfl
  · exact Or.inr (Or.inl rfl)
  · exact Or.inr (Or.inr (Or.inl rfl))
  · exact Or.inr (Or.inr (Or.inr rfl))
set_option maxHeartbeats 4000000 in
set_option maxRecDepth 100000 in
theorem m_X7_told {l : Launch} {X : hv_X} {V : hv_V} {mo : Nat} {σ : hs_S} (hM : okM X V mo σ) (hB : hs_b σ) {r k : Int32} : hv_Mi l X 220 yX7_told cX7_told 3 .int V [.ref mo, .int r, .int k] (fun y V1 => y = sp_told σ r k ∧ okM X V1 mo σ ∧ hv_out V V1 mo (mo + 50)) := by
  refine hv_enter (by decide) (Nat.le_of_ble_eq_true rfl) ?_
  intro p e s m below meth c ls C0 hr hlk hnm w hl
  have hl : lv_has ls 3 [(0, .ref mo), (1, .int r), (2, .int k)] := hl
  obtain ⟨ab, be, pl, cl, sg, ik, hO, hRw, hTx, hSc, hSe, hEv, hBk, hIm, hTp⟩ := id hM
  obtain ⟨r1, r2, ⟨rf, r3, r4⟩, r5⟩ := id hRw
  obtain ⟨⟨wd, s1⟩, ⟨td, s2⟩, ⟨sn, s3⟩, ⟨ut, s4⟩, kn, s5⟩ := id hSc
  obtain ⟨sf, sg9, sh, e1, e2, e3, ea⟩ := id hSe
  obtain ⟨ef, eg, v1, v2, va⟩ := id hEv
  obtain ⟨bf, bg, b1, b2, ba⟩ := id hBk
  obtain ⟨t1, t2, ⟨tf, t3, t4⟩, t5⟩ := id hTp
  have hbR := hB.1.1
  refine lv_iload_n C0.1 C0.2.1 dX7_told_0 rfl (lv_at hl 1 rfl) ?_
  refine hv_cSi (As := [.int r]) C0 w kl_X7_135 ks_X7_isRow (c_X7_isRow) (by decide) (by decide) rfl hl.1 rfl (Nat.le_of_ble_eq_true rfl) dX7_told_1 ⟨Nat.le_refl _, Nat.le_refl _⟩ (fun x1 V2 Hq lq hp3 w => ?_)
  obtain ⟨e9, hz9⟩ := hp3
  rw [e9] at w; clear e9
  rcases hz9 with ⟨rfl, hb4⟩ | ⟨rfl, hb4⟩
  · skip
    have ihb4 := hb4
    obtain ⟨j1, hj1, rfl⟩ := sp_inN (k := 5) (by decide) hb4
    have kj1 : (nI j1).toNatClampNeg = j1 := nI_clamp (by omega)
    have hN_j1 : V (mo + 4 + j1) = some (nE X (σ.1.1.2.2 j1)) := r5 j1 hj1
    have hn_j1 : σ.1.1.2.1 j1 ≤ 16 := (hbR j1 hj1).2.1
    refine lv_if_ne (tgt := 9) C0.1 C0.2.1 dX7_told_4 (by decide) (fun _ => ?_) (fun h9 => absurd h9 (by decide))
    refine lv_iload_n C0.1 C0.2.1 dX7_told_9 rfl (lv_at hl 2 rfl) ?_
    by_cases c_10_0 : k = 0
    · refine lv_tableIn (off := 30) (tgt := 40) C0.1 C0.2.1 dX7_told_10 (by rw [c_10_0]; decide) (by rw [c_10_0]; decide) (by rw [c_10_0]; rfl) (by decide) ?_
      refine lv_aload_n C0.1 C0.2.1 dX7_told_40 rfl (lv_at hl 0 rfl) ?_
      refine gf_X7_11 C0 w hO rfl dX7_told_41 ?_
      refine lv_iload_n C0.1 C0.2.1 dX7_told_44 rfl (lv_at hl 1 rfl) ?_
      refine hv_iald C0 w r1 (hn_in hj1 (by decide)) dX7_told_45 ?_
      have hc5 : (nI j1).toNatClampNeg = j1 := nI_clamp (by omega)
      rw [hc5]
      exact hv_iret C0 w hr hlk (by rw [sp_told, if_pos ⟨ihb4, by rw [c_10_0]; exact ⟨by decide, by decide⟩⟩, kj1, if_pos c_10_0]; exact ⟨rfl, hM, hv_out.rf⟩) dX7_told_46
    by_cases c_10_1 : k = 1
    · refine lv_tableIn (off := 37) (tgt := 47) C0.1 C0.2.1 dX7_told_10 (by rw [c_10_1]; decide) (by rw [c_10_1]; decide) (by rw [c_10_1]; rfl) (by decide) ?_
      refine lv_aload_n C0.1 C0.2.1 dX7_told_47 rfl (lv_at hl 0 rfl) ?_
      refine gf_X7_15 C0 w hO rfl dX7_told_48 ?_
      refine lv_iload_n C0.1 C0.2.1 dX7_told_51 rfl (lv_at hl 1 rfl) ?_
      refine hv_iald C0 w r2 (hn_in hj1 (by decide)) dX7_told_52 ?_
      have hc6 : (nI j1).toNatClampNeg = j1 := nI_clamp (by omega)
      rw [hc6]
      exact hv_iret C0 w hr hlk (by rw [sp_told, if_pos ⟨ihb4, by rw [c_10_1]; exact ⟨by decide, by decide⟩⟩, kj1, if_neg (by rw [c_10_1]; decide), if_pos c_10_1]; exact ⟨rfl, hM, hv_out.rf⟩) dX7_told_53
    by_cases c_10_2 : k = 2
    · refine lv_tableIn (off := 44) (tgt := 54) C0.1 C0.2.1 dX7_told_10 (by rw [c_10_2]; decide) (by rw [c_10_2]; decide) (by rw [c_10_2]; rfl) (by decide) ?_
      refine lv_aload_n C0.1 C0.2.1 dX7_told_54 rfl (lv_at hl 0 rfl) ?_
      refine lv_iload_n C0.1 C0.2.1 dX7_told_55 rfl (lv_at hl 1 rfl) ?_
      refine hv_cVi C0 w kl_X7_237 kv_X7_flaw rfl hO (c_X7_flaw hO r1 r2 rfl r3 (r4 j1 hj1) hj1 hN_j1 hn_j1) (by decide) (by decide) rfl hl.1 rfl (Nat.le_of_ble_eq_true rfl) dX7_told_56 ⟨Nat.le_refl _, Nat.le_refl _⟩ (fun x7 V8 Hq lq hp9 w => ?_)
      obtain ⟨e9, e8x⟩ := hp9
      rw [e9] at w; rw [e8x]; clear e9 e8x
      exact hv_iret C0 w hr hlk (by rw [sp_told, if_pos ⟨ihb4, by rw [c_10_2]; exact ⟨by decide, by decide⟩⟩, kj1, if_neg (by rw [c_10_2]; decide), if_neg (by rw [c_10_2]; decide), if_pos c_10_2]; exact ⟨rfl, hM, hv_out.rf⟩) dX7_told_59
    by_cases c_10_3 : k = 3
    · refine lv_tableIn (off := 50) (tgt := 60) C0.1 C0.2.1 dX7_told_10 (by rw [c_10_3]; decide) (by rw [c_10_3]; decide) (by rw [c_10_3]; rfl) (by decide) ?_
      refine lv_aload_n C0.1 C0.2.1 dX7_told_60 rfl (lv_at hl 0 rfl) ?_
      refine lv_iload_n C0.1 C0.2.1 dX7_told_61 rfl (lv_at hl 1 rfl) ?_
      refine hv_cVi C0 w kl_X7_240 kv_X7_hasWorth rfl hO (c_X7_hasWorth (n := σ.1.1.2.1 j1) hO r1 r2 rfl r3 (r4 j1 hj1) hj1 hN_j1 (by omega) (fun i9 => (hbR j1 hj1).2.2 i9)) (by decide) (by decide) rfl hl.1 rfl (Nat.le_of_ble_eq_true rfl) dX7_told_62 ⟨Nat.le_refl _, Nat.le_refl _⟩ (fun x10 V11 Hq lq hp12 w => ?_)
      obtain ⟨ab13, be14, eV15, fm16, hz9⟩ := hp12
      have hV19 : V11 (mo + 1) = some (.inl (X.2.1 0, 6, .inl σ.1.1.1)) := by rw [eV15, hv_un (by omega)]; exact r1
      have hV20 : V11 (mo + 2) = some (.inl (X.2.1 0, 6, .inl (fun j => nI (σ.1.1.2.1 j)))) := by rw [eV15, hv_un (by omega)]; exact r2
      have hV21 : V11 (mo + 3) = some (.inl (X.2.1 6, 6, .inr (.inr (.inr (.inr rf))))) := by rw [eV15, hv_un (by omega)]; exact r3
      have hV22 : V11 (mo + 10) = some (.inl (X.2.1 2, 100, .inl σ.2.2.1.2)) := by rw [eV15, hv_un (by omega)]; exact hTx
      have hV23 : V11 (mo + 11) = some (.inl (X.2.1 0, 12, .inl wd)) := by rw [eV15, hv_un (by omega)]; exact s1
      have hV24 : V11 (mo + 12) = some (.inl (X.2.1 0, 48, .inl td)) := by rw [eV15, hv_un (by omega)]; exact s2
      have hV25 : V11 (mo + 13) = some (.inl (X.2.1 2, 178, .inl sn)) := by rw [eV15, hv_un (by omega)]; exact s3
      have hV26 : V11 (mo + 14) = some (.inl (X.2.1 0, 3, .inl ut)) := by rw [eV15, hv_un (by omega)]; exact s4
      have hV27 : V11 (mo + 20) = some (.inl (X.2.1 0, 16, .inl kn)) := by rw [eV15, hv_un (by omega)]; exact s5
      have hV28 : V11 (mo + 15) = some (.inl (X.2.1 0, 4, .inl sf)) := by rw [eV15, hv_un (by omega)]; exact e1
      have hV29 : V11 (mo + 16) = some (.inl (X.2.1 0, 4, .inl sg9)) := by rw [eV15, hv_un (by omega)]; exact e2
      have hV30 : V11 (mo + 17) = some (.inl (X.2.1 0, 4, .inl sh)) := by rw [eV15, hv_un (by omega)]; exact e3
      have hV31 : V11 (mo + 18) = some (.inl (X.2.1 0, 8, .inl ef)) := by rw [eV15, hv_un (by omega)]; exact v1
      have hV32 : V11 (mo + 19) = some (.inl (X.2.1 0, 8, .inl eg)) := by rw [eV15, hv_un (by omega)]; exact v2
      have hV33 : V11 (mo + 21) = some (.inl (X.2.1 0, 8, .inl bf)) := by rw [eV15, hv_un (by omega)]; exact b1
      have hV34 : V11 (mo + 22) = some (.inl (X.2.1 0, 8, .inl bg)) := by rw [eV15, hv_un (by omega)]; exact b2
      have hV35 : V11 (mo + 41) = some (.inl (X.2.1 0, 6, .inl σ.2.2.2.1)) := by rw [eV15, hv_un (by omega)]; exact t1
      have hV36 : V11 (mo + 42) = some (.inl (X.2.1 0, 6, .inl (fun j => nI (σ.2.2.2.2.1 j)))) := by rw [eV15, hv_un (by omega)]; exact t2
      have hV37 : V11 (mo + 43) = some (.inl (X.2.1 7, 6, .inr (.inr (.inr (.inr tf))))) := by rw [eV15, hv_un (by omega)]; exact t3
      have hV38 : V11 (mo + 4 + j1) = some (.inl (X.2.1 0, 16, .inl (σ.1.1.2.2 j1))) := by rw [eV15, hv_un (by omega)]; exact hN_j1
      have hV39 : V11 mo = some (.inr (7, [.ref (mo + 1), .ref (mo + 2), .ref (mo + 3), .long ab13, .long be14, .ref (mo + 10), .int (nI σ.2.2.1.1), .int pl, .int cl, .ref (mo + 11), .ref (mo + 12), .ref (mo + 13), .int sg, .ref (mo + 14), .ref (mo + 15), .ref (mo + 16), .ref (mo + 17), .int (nI σ.1.2.1.1), .ref (mo + 18), .ref (mo + 19), .int (nI σ.1.2.2.1.1), .ref (mo + 20), .ref (mo + 21), .ref (mo + 22), .int (nI σ.1.2.2.2.1), .int ik, .ref (mo + 23), .ref (mo + 24), .ref (mo + 25), .ref (mo + 26), .ref (mo + 33), .ref (mo + 41), .ref (mo + 42), .ref (mo + 43)])) := by rw [eV15]; exact hv_us
      rcases hz9 with ⟨rfl, hw17⟩ | ⟨rfl, hw17⟩
      · skip
        refine lv_if_eq (tgt := 72) C0.1 C0.2.1 dX7_told_65 (by decide) (fun h9 => absurd h9 (by decide)) (fun _ => ?_)
        refine lv_iconst (v := 1) C0.1 C0.2.1 dX7_told_68 (by decide) ?_
        refine lv_goto (tgt := 73) C0.1 C0.2.1 dX7_told_69 (by decide) ?_
        exact hv_iret C0 w hr hlk (by rw [sp_told, if_pos ⟨ihb4, by rw [c_10_3]; exact ⟨by decide, by decide⟩⟩, kj1, if_neg (by rw [c_10_3]; decide), if_neg (by rw [c_10_3]; decide), if_neg (by rw [c_10_3]; decide), if_neg (fm16.one hw17)]; exact ⟨rfl, ⟨ab13, be14, pl, cl, sg, ik, (by rw [eV15]; exact hv_us), hRw.fr (fun q h7 h8 => by rw [eV15, hv_un (by omega)]), (by rw [eV15, hv_un (by omega)] : _ = V (mo + 10)).trans hTx, hSc.fr (fun q h7 h8 => by rw [eV15, hv_un (by omega)]) (fun q h7 h8 => by rw [eV15, hv_un (by omega)]), hSe.fr (fun q h7 h8 => by rw [eV15, hv_un (by omega)]), hEv.fr (by rw [eV15, hv_un (by omega)]) (by rw [eV15, hv_un (by omega)]), hBk.fr (by rw [eV15, hv_un (by omega)]) (by rw [eV15, hv_un (by omega)]), hIm.fr (fun q h7 h8 => by rw [eV15, hv_un (by omega)]), hTp.fr (fun q h7 h8 => by rw [eV15, hv_un (by omega)])⟩, (fun q h7 => by rw [eV15, hv_un (by omega)])⟩) dX7_told_73
      · skip
        refine lv_if_eq (tgt := 72) C0.1 C0.2.1 dX7_told_65 (by decide) (fun _ => ?_) (fun h9 => absurd h9 (by decide))
        refine lv_iconst (v := 0) C0.1 C0.2.1 dX7_told_72 (by decide) ?_
        exact hv_iret C0 w hr hlk (by rw [sp_told, if_pos ⟨ihb4, by rw [c_10_3]; exact ⟨by decide, by decide⟩⟩, kj1, if_neg (by rw [c_10_3]; decide), if_neg (by rw [c_10_3]; decide), if_neg (by rw [c_10_3]; decide), if_pos (fm16.no.mp (Classical.byContradiction hw17))]; exact ⟨rfl, ⟨ab13, be14, pl, cl, sg, ik, (by rw [eV15]; exact hv_us), hRw.fr (fun q h7 h8 => by rw [eV15, hv_un (by omega)]), (by rw [eV15, hv_un (by omega)] : _ = V (mo + 10)).trans hTx, hSc.fr (fun q h7 h8 => by rw [eV15, hv_un (by omega)]) (fun q h7 h8 => by rw [eV15, hv_un (by omega)]), hSe.fr (fun q h7 h8 => by rw [eV15, hv_un (by omega)]), hEv.fr (by rw [eV15, hv_un (by omega)]) (by rw [eV15, hv_un (by omega)]), hBk.fr (by rw [eV15, hv_un (by omega)]) (by rw [eV15, hv_un (by omega)]), hIm.fr (fun q h7 h8 => by rw [eV15, hv_un (by omega)]), hTp.fr (fun q h7 h8 => by rw [eV15, hv_un (by omega)])⟩, (fun q h7 => by rw [eV15, hv_un (by omega)])⟩) dX7_told_73
    have tc_10_0 : k.toInt ≠ 0 := fun h9 => c_10_0 (Int32.toInt_inj.mp (h9.trans (by decide)))
    have tc_10_1 : k.toInt ≠ 1 := fun h9 => c_10_1 (Int32.toInt_inj.mp (h9.trans (by decide)))
    have tc_10_2 : k.toInt ≠ 2 := fun h9 => c_10_2 (Int32.toInt_inj.mp (h9.trans (by decide)))
    have tc_10_3 : k.toInt ≠ 3 := fun h9 => c_10_3 (Int32.toInt_inj.mp (h9.trans (by decide)))
    refine lv_tableOut (tgt := 74) C0.1 C0.2.1 dX7_told_10 (by omega) (by decide) ?_
    refine lv_iconst (v := -1) C0.1 C0.2.1 dX7_told_74 (by decide) ?_
    exact hv_iret C0 w hr hlk (by rw [sp_told, if_neg (fun h9 => (hs_03 h9.2).elim c_10_0 (fun h8 => h8.elim c_10_1 (fun h7 => h7.elim c_10_2 c_10_3)))]; exact ⟨rfl, hM, hv_out.rf⟩) dX7_told_75
  · skip
    refine lv_if_ne (tgt := 9) C0.1 C0.2.1 dX7_told_4 (by decide) (fun h9 => absurd h9 (by decide)) (fun _ => ?_)
    refine lv_iconst (v := -1) C0.1 C0.2.1 dX7_told_7 (by decide) ?_
    exact hv_iret C0 w hr hlk (by rw [sp_told, if_neg (fun h9 => hb4 h9.1)]; exact ⟨rfl, hM, hv_out.rf⟩) dX7_told_8

