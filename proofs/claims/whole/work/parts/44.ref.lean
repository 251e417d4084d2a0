def sp_cw (F G : fx_F) (h : Int32) : fx_F := if F.2.2 = 0 ∨ G.2.2 = 0 then fx_no else sp_comb F G h
theorem fm.one {F : fx_F} {ab be : Int64} (h : fm F ab be) (hn : ¬ be = 0) : ¬ F.2.2 = 0 := fun e => hn (h.no.mpr e)
theorem cw_no {F G : fx_F} {h : Int32} (q : F.2.2 = 0 ∨ G.2.2 = 0) : (sp_cw F G h).2.2 = 0 := by unfold sp_cw; rw [if_pos q]; rfl
theorem cw_2 {F G : fx_F} {a b c d x y : Int64} (hF : fm F a b) (hG : fm G c d) (h1 : ¬ b = 0) (h2 : ¬ d = 0) (h : fm (fx_tm G a b) x y) : fm (sp_cw F G 2) x y := by
  refine h.as ?_
  obtain ⟨-, p2, p3, -⟩ := hF.yes h1
  unfold sp_cw sp_comb fx_tm fx_mul
  rw [if_neg (hG.one h2), if_neg (fun h9 => h9.elim (hF.one h1) (hG.one h2)), if_neg (by decide), if_neg (by decide), if_neg (fun h9 => h9.elim (hF.one h1) (hG.one h2)), p2, p3, Int64.mul_comm G.1, Int64.mul_comm G.2.1]
theorem cw_1 {F G : fx_F} {a b c d x y : Int64} (hF : fm F a b) (hG : fm G c d) (h1 : ¬ b = 0) (h2 : ¬ d = 0) (h : fm (fx_addOn (fx_neg G) a b) x y) : fm (sp_cw F G 1) x y := by
  refine h.as ?_
  obtain ⟨-, p2, p3, -⟩ := hF.yes h1
  have g2 := hG.one h2
  unfold sp_cw sp_comb fx_addOn fx_takeAway fx_addOn
  rw [if_neg (show ¬ (fx_neg G).2.2 = 0 from g2), if_neg (fun h9 => h9.elim (hF.one h1) g2), if_neg (by decide), if_pos rfl, if_neg (fun h9 => h9.elim (hF.one h1) g2), if_neg (hF.one h1), p2, p3]
  show fx_become (-G.1 * F.2.1 + F.1 * G.2.1) (G.2.1 * F.2.1) = _
  rw [Int64.add_comm, Int64.mul_comm G.2.1]
theorem cw_0 {F G : fx_F} {a b c d x y : Int64} (hF : fm F a b) (hG : fm G c d) (h1 : ¬ b = 0) (h2 : ¬ d = 0) (h : fm (fx_addOn G a b) x y) : fm (sp_cw F G 0) x y := by
  refine h.as ?_
  obtain ⟨-, p2, p3, -⟩ := hF.yes h1
  have g2 := hG.one h2
  unfold sp_cw sp_comb fx_addOn
  rw [if_neg g2, if_neg (fun h9 => h9.elim (hF.one h1) g2), if_pos rfl, if_neg (hF.one h1), p2, p3, Int64.add_comm, Int64.mul_comm G.2.1]
theorem hs_02 {w : Int32} (h : sp_in w 0 2) (h1 : ¬ w = 2) (h2 : ¬ w = 1) : w = 0 := by
  obtain ⟨j, hj, rfl⟩ := sp_inN (k := 2) (by decide) h
  rcases (show j = 0 ∨ j = 1 ∨ j = 2 by omega) with rfl | rfl | rfl
  · rfl
  · exact absurd rfl h2
  · exact absurd rfl h1
theorem sp_wk {α : Type} {F G : fx_F} {h : Int32} {A : α} {B : fx_F → α} : (if F.2.2 = 0 ∨ G.2.2 = 0 then A else if fx_proper (sp_comb F G h) then B (sp_comb F G h) else A) = if fx_proper (sp_cw F G h) then B (sp_cw F G h) else A := by
  by_cases q : F.2.2 = 0 ∨ G.2.2 = 0
  · rw [if_pos q, if_neg (fun h9 => h9.1 (cw_no q))]
  · rw [if_neg q, show sp_cw F G h = sp_comb F G h from if_neg q]
theorem fm.prop {F : fx_F} {ab be : Int64} (h : fm F ab be) (h1 : ¬ be = 0) (h2 : ¬ ab ≤ 0) (h3 : ab < be) : fx_proper F ∧ fx_lt1 F ∧ ab = F.1 ∧ be = F.2.1 := by
  obtain ⟨p1, p2, p3, p4⟩ := h.yes h1
  have h2 := Int64.not_le.mp h2
  have a1 := Int64.lt_iff_toInt_lt.mp h2
  have a2 := Int64.lt_iff_toInt_lt.mp h3
  rw [i64_0] at a1
  rw [p2] at h2 h3 a1 a2
  rw [p3] at h3 a2
  exact ⟨⟨by rw [p1]; decide, h2, h3⟩, ⟨p1, p4, by omega, a2⟩, p2, p3⟩
theorem fm.np {F : fx_F} {ab be : Int64} (h : fm F ab be) (h1 : be = 0 ∨ ab ≤ 0 ∨ ¬ ab < be) : ¬ fx_proper F := fun h9 => by
  rcases h with ⟨p1, p2⟩ | ⟨p1, p2, p3, p4⟩
  · exact h9.1 p1
  · rcases h1 with q | q | q
    · have := p4.2.1; rw [← p3, q, i64_0] at this; omega
    · rw [p2] at q; exact absurd h9.2.1 (Int64.not_lt.mpr q)
    · rw [p2, p3] at q; exact q h9.2.2
set_option maxHeartbeats 4000000 in
set_option maxRecDepth 100000 in
theorem c_X7_layWorked {l : Launch} {X : hv_X} {V : hv_V} {mo : Nat} {ab be : Int64} {tx se ev bk : Nat} {pl cl sg ik : Int32} (hO : V mo = some (mE mo ab be tx pl cl sg se ev bk ik)) {ki ma : Nat → Int32} {rf : Nat → Option Nat} {j n j2 n2 : Nat} {f f2 : Nat → Int32} (r1 : V (mo + 1) = some (iE X 6 ki)) (r2 : V (mo + 2) = some (iE X 6 ma)) (hm1 : ma j = nI n) (hm2 : ma j2 = nI n2) (r3 : V (mo + 3) = some (qE X 6 6 rf)) (rj : rf j = some (mo + 4 + j)) (rj2 : rf j2 = some (mo + 4 + j2)) (hj : j < 6) (hj2 : j2 < 6) (hN : V (mo + 4 + j) = some (nE X f)) (hN2 : V (mo + 4 + j2) = some (nE X f2)) (hn : n ≤ 16) (hn2 : n2 ≤ 16) (hf : ∀ i, 0 ≤ f i ∧ f i ≤ 1000000000) (hf2 : ∀ i, 0 ≤ f2 i ∧ f2 i ≤ 1000000000) {h : Int32} (hh : sp_in h 0 2) : hv_Mv l X 130 yX7_layWorked cX7_layWorked 8 V [.ref mo, .int (nI j), .int (nI j2), .int h] (fun V1 => ∃ ab1 be1 : Int64, V1 = hv_up V mo (mE mo ab1 be1 tx pl cl sg se ev bk ik) ∧ fm (sp_cw (fx_reckon (ki j) f n) (fx_reckon (ki j2) f2 n2) h) ab1 be1) := by
  refine hv_enter (by decide) (Nat.le_of_ble_eq_true rfl) ?_
  intro p e s m below meth c ls C0 hr hlk hnm w hl
  have hl : lv_has ls 8 [(0, .ref mo), (1, .int (nI j)), (2, .int (nI j2)), (3, .int h)] := hl
  refine lv_aload_n C0.1 C0.2.1 dX7_layWorked_0 rfl (lv_at hl 0 rfl) ?_
  refine lv_iload_n C0.1 C0.2.1 dX7_layWorked_1 rfl (lv_at hl 1 rfl) ?_
  refine lv_aload_n C0.1 C0.2.1 dX7_layWorked_2 rfl (lv_at hl 0 rfl) ?_
  refine gf_X7_15 C0 w hO rfl dX7_layWorked_3 ?_
  refine lv_iload_n C0.1 C0.2.1 dX7_layWorked_6 rfl (lv_at hl 1 rfl) ?_
  refine hv_iald C0 w r2 (hn_in hj (by decide)) dX7_layWorked_7 ?_
  have hc1 : (nI j).toNatClampNeg = j := nI_clamp (by omega)
  rw [hc1]
  rw [hm1]
  refine hv_cVv C0 w kl_X7_154 kv_X7_layWorth rfl hO (c_X7_layWorth (n := n) hO r1 r3 rj hj hN hn hf) (by decide) (by decide) rfl hl.1 rfl (Nat.le_of_ble_eq_true rfl) dX7_layWorked_8 ⟨Nat.le_refl _, Nat.le_refl _⟩ (fun V3 Hq lq hp4 w => ?_)
  obtain ⟨ab5, be6, eV7, fm8⟩ := hp4
  have hV10 : V3 (mo + 1) = some (.inl (X.2.1 0, 6, .inl ki)) := by rw [eV7, hv_un (by omega)]; exact r1
  have hV11 : V3 (mo + 2) = some (.inl (X.2.1 0, 6, .inl ma)) := by rw [eV7, hv_un (by omega)]; exact r2
  have hV12 : V3 (mo + 3) = some (.inl (X.2.1 6, 6, .inr (.inr (.inr (.inr rf))))) := by rw [eV7, hv_un (by omega)]; exact r3
  have hV13 : V3 (mo + 4 + j) = some (.inl (X.2.1 0, 16, .inl f)) := by rw [eV7, hv_un (by omega)]; exact hN
  have hV14 : V3 (mo + 4 + j2) = some (.inl (X.2.1 0, 16, .inl f2)) := by rw [eV7, hv_un (by omega)]; exact hN2
  have hV15 : V3 mo = some (.inr (7, [.ref (mo + 1), .ref (mo + 2), .ref (mo + 3), .long ab5, .long be6, .ref (mo + 10), .int (nI tx), .int pl, .int cl, .ref (mo + 11), .ref (mo + 12), .ref (mo + 13), .int sg, .ref (mo + 14), .ref (mo + 15), .ref (mo + 16), .ref (mo + 17), .int (nI se), .ref (mo + 18), .ref (mo + 19), .int (nI ev), .ref (mo + 20), .ref (mo + 21), .ref (mo + 22), .int (nI bk), .int ik, .ref (mo + 23), .ref (mo + 24), .ref (mo + 25), .ref (mo + 26), .ref (mo + 33), .ref (mo + 41), .ref (mo + 42), .ref (mo + 43)])) := by rw [eV7]; exact hv_us
  refine lv_aload_n C0.1 C0.2.1 dX7_layWorked_11 rfl (lv_at hl 0 rfl) ?_
  refine gf_X7_103 C0 w hV15 rfl dX7_layWorked_12 ?_
  refine lv_lstore (lv' := [(4, .long ab5), (0, .ref mo), (1, .int (nI j)), (2, .int (nI j2)), (3, .int h)]) C0.1 C0.2.1 dX7_layWorked_15 hl (by decide) rfl (fun ls hl => ?_)
  refine lv_aload_n C0.1 C0.2.1 dX7_layWorked_17 rfl (lv_at hl 1 rfl) ?_
  refine gf_X7_107 C0 w hV15 rfl dX7_layWorked_18 ?_
  refine lv_lstore (lv' := [(6, .long be6), (4, .long ab5), (0, .ref mo), (1, .int (nI j)), (2, .int (nI j2)), (3, .int h)]) C0.1 C0.2.1 dX7_layWorked_21 hl (by decide) rfl (fun ls hl => ?_)
  refine lv_aload_n C0.1 C0.2.1 dX7_layWorked_23 rfl (lv_at hl 2 rfl) ?_
  refine lv_iload_n C0.1 C0.2.1 dX7_layWorked_24 rfl (lv_at hl 4 rfl) ?_
  refine lv_aload_n C0.1 C0.2.1 dX7_layWorked_25 rfl (lv_at hl 2 rfl) ?_
  refine gf_X7_15 C0 w hV15 rfl dX7_layWorked_26 ?_
  refine lv_iload_n C0.1 C0.2.1 dX7_layWorked_29 rfl (lv_at hl 4 rfl) ?_
  refine hv_iald C0 w hV11 (hn_in hj2 (by decide)) dX7_layWorked_30 ?_
  have hc16 : (nI j2).toNatClampNeg = j2 := nI_clamp (by omega)
  rw [hc16]
  rw [hm2]
  refine hv_cVv C0 w kl_X7_154 kv_X7_layWorth rfl hV15 (c_X7_layWorth (n := n2) hV15 hV10 hV12 rj2 hj2 hV14 hn2 hf2) (by decide) (by decide) rfl hl.1 rfl (Nat.le_of_ble_eq_true rfl) dX7_layWorked_31 ⟨Nat.le_refl _, Nat.le_refl _⟩ (fun V18 Hq lq hp19 w => ?_)
  obtain ⟨ab20, be21, eV22, fm23⟩ := hp19
  have hV24 : V18 (mo + 1) = some (.inl (X.2.1 0, 6, .inl ki)) := by rw [eV22, hv_un (by omega)]; exact hV10
  have hV25 : V18 (mo + 2) = some (.inl (X.2.1 0, 6, .inl ma)) := by rw [eV22, hv_un (by omega)]; exact hV11
  have hV26 : V18 (mo + 3) = some (.inl (X.2.1 6, 6, .inr (.inr (.inr (.inr rf))))) := by rw [eV22, hv_un (by omega)]; exact hV12
  have hV27 : V18 (mo + 4 + j) = some (.inl (X.2.1 0, 16, .inl f)) := by rw [eV22, hv_un (by omega)]; exact hV13
  have hV28 : V18 (mo + 4 + j2) = some (.inl (X.2.1 0, 16, .inl f2)) := by rw [eV22, hv_un (by omega)]; exact hV14
  have hV30 : V18 mo = some (.inr (7, [.ref (mo + 1), .ref (mo + 2), .ref (mo + 3), .long ab20, .long be21, .ref (mo + 10), .int (nI tx), .int pl, .int cl, .ref (mo + 11), .ref (mo + 12), .ref (mo + 13), .int sg, .ref (mo + 14), .ref (mo + 15), .ref (mo + 16), .ref (mo + 17), .int (nI se), .ref (mo + 18), .ref (mo + 19), .int (nI ev), .ref (mo + 20), .ref (mo + 21), .ref (mo + 22), .int (nI bk), .int ik, .ref (mo + 23), .ref (mo + 24), .ref (mo + 25), .ref (mo + 26), .ref (mo + 33), .ref (mo + 41), .ref (mo + 42), .ref (mo + 43)])) := by rw [eV22]; exact hv_us
  refine lv_lload C0.1 C0.2.1 dX7_layWorked_34 (lv_at hl 0 rfl) ?_
  refine lv_lconst (v := 0) C0.1 C0.2.1 dX7_layWorked_36 (by decide) ?_
  refine hv_lc_ne (tgt := 46) C0.1 C0.2.1 dX7_layWorked_37 dX7_layWorked_38 (by decide) (fun c_37 => ?_) (fun c_37 => ?_)
  · skip
    refine lv_aload_n C0.1 C0.2.1 dX7_layWorked_46 rfl (lv_at hl 2 rfl) ?_
    refine hv_cVi C0 w kl_X7_112 kv_X7_isThere rfl hV30 (c_X7_isThere hV30) (by decide) (by decide) rfl hl.1 rfl (Nat.le_of_ble_eq_true rfl) dX7_layWorked_47 ⟨Nat.le_refl _, Nat.le_refl _⟩ (fun x31 V32 Hq lq hp33 w => ?_)
    obtain ⟨e9, hz9⟩ := hp33
    rw [e9] at w; clear e9
    rcases hz9 with ⟨rfl, hi34⟩ | ⟨rfl, hi34⟩
    · skip
      refine lv_if_ne (tgt := 54) C0.1 C0.2.1 dX7_layWorked_50 (by decide) (fun _ => ?_) (fun h9 => absurd h9 (by decide))
      refine lv_iload_n C0.1 C0.2.1 dX7_layWorked_54 rfl (lv_at hl 5 rfl) ?_
      refine lv_iconst (v := 2) C0.1 C0.2.1 dX7_layWorked_55 (by decide) ?_
      refine lv_icmp_ne (tgt := 68) C0.1 C0.2.1 dX7_layWorked_56 (by decide) (fun c_56 => ?_) (fun c_56 => ?_)
      · skip
        refine lv_iload_n C0.1 C0.2.1 dX7_layWorked_68 rfl (lv_at hl 5 rfl) ?_
        refine lv_iconst (v := 1) C0.1 C0.2.1 dX7_layWorked_69 (by decide) ?_
        refine lv_icmp_ne (tgt := 77) C0.1 C0.2.1 dX7_layWorked_70 (by decide) (fun c_70 => ?_) (fun c_70 => ?_)
        · skip
          refine lv_aload_n C0.1 C0.2.1 dX7_layWorked_77 rfl (lv_at hl 2 rfl) ?_
          refine lv_lload C0.1 C0.2.1 dX7_layWorked_78 (lv_at hl 1 rfl) ?_
          refine lv_lload C0.1 C0.2.1 dX7_layWorked_80 (lv_at hl 0 rfl) ?_
          refine hv_cVv C0 w kl_X7_120 kv_X7_plus rfl hV30 (c_X7_plus hV30 fm23 (fm8.in c_37).1 (fm8.in c_37).2) (by decide) (by decide) rfl hl.1 rfl (Nat.le_of_ble_eq_true rfl) dX7_layWorked_82 ⟨Nat.le_refl _, Nat.le_refl _⟩ (fun V36 Hq lq hp37 w => ?_)
          obtain ⟨ab38, be39, eV40, fm41⟩ := hp37
          have hV42 : V36 (mo + 1) = some (.inl (X.2.1 0, 6, .inl ki)) := by rw [eV40, hv_un (by omega)]; exact hV24
          have hV43 : V36 (mo + 2) = some (.inl (X.2.1 0, 6, .inl ma)) := by rw [eV40, hv_un (by omega)]; exact hV25
          have hV44 : V36 (mo + 3) = some (.inl (X.2.1 6, 6, .inr (.inr (.inr (.inr rf))))) := by rw [eV40, hv_un (by omega)]; exact hV26
          have hV45 : V36 (mo + 4 + j) = some (.inl (X.2.1 0, 16, .inl f)) := by rw [eV40, hv_un (by omega)]; exact hV27
          have hV46 : V36 (mo + 4 + j2) = some (.inl (X.2.1 0, 16, .inl f2)) := by rw [eV40, hv_un (by omega)]; exact hV28
          have hV48 : V36 mo = some (.inr (7, [.ref (mo + 1), .ref (mo + 2), .ref (mo + 3), .long ab38, .long be39, .ref (mo + 10), .int (nI tx), .int pl, .int cl, .ref (mo + 11), .ref (mo + 12), .ref (mo + 13), .int sg, .ref (mo + 14), .ref (mo + 15), .ref (mo + 16), .ref (mo + 17), .int (nI se), .ref (mo + 18), .ref (mo + 19), .int (nI ev), .ref (mo + 20), .ref (mo + 21), .ref (mo + 22), .int (nI bk), .int ik, .ref (mo + 23), .ref (mo + 24), .ref (mo + 25), .ref (mo + 26), .ref (mo + 33), .ref (mo + 41), .ref (mo + 42), .ref (mo + 43)])) := by rw [eV40]; exact hv_us
          exact hv_vret C0 w hr hlk (⟨_, _, by rw [eV40, eV22, eV7, hv_uu, hv_uu], by rw [hs_02 hh c_56 c_70]; exact cw_0 fm8 fm23 c_37 hi34 fm41⟩) dX7_layWorked_85
        · skip
          refine lv_aload_n C0.1 C0.2.1 dX7_layWorked_73 rfl (lv_at hl 2 rfl) ?_
          refine hv_cVv C0 w kl_X7_126 kv_X7_turns rfl hV30 (c_X7_turns hV30) (by decide) (by decide) rfl hl.1 rfl (Nat.le_of_ble_eq_true rfl) dX7_layWorked_74 ⟨Nat.le_refl _, Nat.le_refl _⟩ (fun V50 Hq lq hp51 w => ?_)
          have hV52 : V50 (mo + 1) = some (.inl (X.2.1 0, 6, .inl ki)) := by rw [hp51, hv_un (by omega)]; exact hV24
          have hV53 : V50 (mo + 2) = some (.inl (X.2.1 0, 6, .inl ma)) := by rw [hp51, hv_un (by omega)]; exact hV25
          have hV54 : V50 (mo + 3) = some (.inl (X.2.1 6, 6, .inr (.inr (.inr (.inr rf))))) := by rw [hp51, hv_un (by omega)]; exact hV26
          have hV55 : V50 (mo + 4 + j) = some (.inl (X.2.1 0, 16, .inl f)) := by rw [hp51, hv_un (by omega)]; exact hV27
          have hV56 : V50 (mo + 4 + j2) = some (.inl (X.2.1 0, 16, .inl f2)) := by rw [hp51, hv_un (by omega)]; exact hV28
          have hV58 : V50 mo = some (.inr (7, [.ref (mo + 1), .ref (mo + 2), .ref (mo + 3), .long (-ab20), .long be21, .ref (mo + 10), .int (nI tx), .int pl, .int cl, .ref (mo + 11), .ref (mo + 12), .ref (mo + 13), .int sg, .ref (mo + 14), .ref (mo + 15), .ref (mo + 16), .ref (mo + 17), .int (nI se), .ref (mo + 18), .ref (mo + 19), .int (nI ev), .ref (mo + 20), .ref (mo + 21), .ref (mo + 22), .int (nI bk), .int ik, .ref (mo + 23), .ref (mo + 24), .ref (mo + 25), .ref (mo + 26), .ref (mo + 33), .ref (mo + 41), .ref (mo + 42), .ref (mo + 43)])) := by rw [hp51]; exact hv_us
          refine lv_aload_n C0.1 C0.2.1 dX7_layWorked_77 rfl (lv_at hl 2 rfl) ?_
          refine lv_lload C0.1 C0.2.1 dX7_layWorked_78 (lv_at hl 1 rfl) ?_
          refine lv_lload C0.1 C0.2.1 dX7_layWorked_80 (lv_at hl 0 rfl) ?_
          refine hv_cVv C0 w kl_X7_120 kv_X7_plus rfl hV58 (c_X7_plus hV58 fm23.turns (fm8.in c_37).1 (fm8.in c_37).2) (by decide) (by decide) rfl hl.1 rfl (Nat.le_of_ble_eq_true rfl) dX7_layWorked_82 ⟨Nat.le_refl _, Nat.le_refl _⟩ (fun V60 Hq lq hp61 w => ?_)
          obtain ⟨ab62, be63, eV64, fm65⟩ := hp61
          have hV66 : V60 (mo + 1) = some (.inl (X.2.1 0, 6, .inl ki)) := by rw [eV64, hv_un (by omega)]; exact hV52
          have hV67 : V60 (mo + 2) = some (.inl (X.2.1 0, 6, .inl ma)) := by rw [eV64, hv_un (by omega)]; exact hV53
          have hV68 : V60 (mo + 3) = some (.inl (X.2.1 6, 6, .inr (.inr (.inr (.inr rf))))) := by rw [eV64, hv_un (by omega)]; exact hV54
          have hV69 : V60 (mo + 4 + j) = some (.inl (X.2.1 0, 16, .inl f)) := by rw [eV64, hv_un (by omega)]; exact hV55
          have hV70 : V60 (mo + 4 + j2) = some (.inl (X.2.1 0, 16, .inl f2)) := by rw [eV64, hv_un (by omega)]; exact hV56
          have hV72 : V60 mo = some (.inr (7, [.ref (mo + 1), .ref (mo + 2), .ref (mo + 3), .long ab62, .long be63, .ref (mo + 10), .int (nI tx), .int pl, .int cl, .ref (mo + 11), .ref (mo + 12), .ref (mo + 13), .int sg, .ref (mo + 14), .ref (mo + 15), .ref (mo + 16), .ref (mo + 17), .int (nI se), .ref (mo + 18), .ref (mo + 19), .int (nI ev), .ref (mo + 20), .ref (mo + 21), .ref (mo + 22), .int (nI bk), .int ik, .ref (mo + 23), .ref (mo + 24), .ref (mo + 25), .ref (mo + 26), .ref (mo + 33), .ref (mo + 41), .ref (mo + 42), .ref (mo + 43)])) := by rw [eV64]; exact hv_us
          exact hv_vret C0 w hr hlk (⟨_, _, by rw [eV64, hp51, eV22, eV7, hv_uu, hv_uu, hv_uu], by rw [c_70]; exact cw_1 fm8 fm23 c_37 hi34 fm65⟩) dX7_layWorked_85
      · skip
        refine lv_aload_n C0.1 C0.2.1 dX7_layWorked_59 rfl (lv_at hl 2 rfl) ?_
        refine lv_lload C0.1 C0.2.1 dX7_layWorked_60 (lv_at hl 1 rfl) ?_
        refine lv_lload C0.1 C0.2.1 dX7_layWorked_62 (lv_at hl 0 rfl) ?_
        refine hv_cVv C0 w kl_X7_123 kv_X7_times rfl hV30 (c_X7_times hV30 fm23 (fm8.in c_37).1 (fm8.in c_37).2) (by decide) (by decide) rfl hl.1 rfl (Nat.le_of_ble_eq_true rfl) dX7_layWorked_64 ⟨Nat.le_refl _, Nat.le_refl _⟩ (fun V74 Hq lq hp75 w => ?_)
        obtain ⟨ab76, be77, eV78, fm79⟩ := hp75
        have hV80 : V74 (mo + 1) = some (.inl (X.2.1 0, 6, .inl ki)) := by rw [eV78, hv_un (by omega)]; exact hV24
        have hV81 : V74 (mo + 2) = some (.inl (X.2.1 0, 6, .inl ma)) := by rw [eV78, hv_un (by omega)]; exact hV25
        have hV82 : V74 (mo + 3) = some (.inl (X.2.1 6, 6, .inr (.inr (.inr (.inr rf))))) := by rw [eV78, hv_un (by omega)]; exact hV26
        have hV83 : V74 (mo + 4 + j) = some (.inl (X.2.1 0, 16, .inl f)) := by rw [eV78, hv_un (by omega)]; exact hV27
        have hV84 : V74 (mo + 4 + j2) = some (.inl (X.2.1 0, 16, .inl f2)) := by rw [eV78, hv_un (by omega)]; exact hV28
        have hV86 : V74 mo = some (.inr (7, [.ref (mo + 1), .ref (mo + 2), .ref (mo + 3), .long ab76, .long be77, .ref (mo + 10), .int (nI tx), .int pl, .int cl, .ref (mo + 11), .ref (mo + 12), .ref (mo + 13), .int sg, .ref (mo + 14), .ref (mo + 15), .ref (mo + 16), .ref (mo + 17), .int (nI se), .ref (mo + 18), .ref (mo + 19), .int (nI ev), .ref (mo + 20), .ref (mo + 21), .ref (mo + 22), .int (nI bk), .int ik, .ref (mo + 23), .ref (mo + 24), .ref (mo + 25), .ref (mo + 26), .ref (mo + 33), .ref (mo + 41), .ref (mo + 42), .ref (mo + 43)])) := by rw [eV78]; exact hv_us
        exact hv_vret C0 w hr hlk (⟨_, _, by rw [eV78, eV22, eV7, hv_uu, hv_uu], by rw [c_56]; exact cw_2 fm8 fm23 c_37 hi34 fm79⟩) dX7_layWorked_67
    · skip
      have hi34 := Classical.byContradiction hi34
      refine lv_if_ne (tgt := 54) C0.1 C0.2.1 dX7_layWorked_50 (by decide) (fun h9 => absurd h9 (by decide)) (fun _ => ?_)
      exact hv_vret C0 w hr hlk (⟨_, _, by rw [eV22, eV7, hv_uu], Or.inl ⟨cw_no (Or.inr (fm23.no.mp hi34)), hi34⟩⟩) dX7_layWorked_53
  · skip
    refine lv_aload_n C0.1 C0.2.1 dX7_layWorked_41 rfl (lv_at hl 2 rfl) ?_
    refine lv_lconst (v := 0) C0.1 C0.2.1 dX7_layWorked_42 (by decide) ?_
    refine pf_X7_107 C0 w hV30 (by simp) dX7_layWorked_43 (fun Hq lq w => ?_)
    obtain ⟨V87, eV88⟩ : ∃ W9, W9 = hv_up V18 mo (.inr (7, [.ref (mo + 1), .ref (mo + 2), .ref (mo + 3), .long ab20, .long 0, .ref (mo + 10), .int (nI tx), .int pl, .int cl, .ref (mo + 11), .ref (mo + 12), .ref (mo + 13), .int sg, .ref (mo + 14), .ref (mo + 15), .ref (mo + 16), .ref (mo + 17), .int (nI se), .ref (mo + 18), .ref (mo + 19), .int (nI ev), .ref (mo + 20), .ref (mo + 21), .ref (mo + 22), .int (nI bk), .int ik, .ref (mo + 23), .ref (mo + 24), .ref (mo + 25), .ref (mo + 26), .ref (mo + 33), .ref (mo + 41), .ref (mo + 42), .ref (mo + 43)])) := ⟨_, rfl⟩
    have w : hv_w X s V87 Hq lq := by rw [eV88]; exact w
    have hV89 : V87 (mo + 1) = some (.inl (X.2.1 0, 6, .inl ki)) := by rw [eV88, hv_un (by omega)]; exact hV24
    have hV90 : V87 (mo + 2) = some (.inl (X.2.1 0, 6, .inl ma)) := by rw [eV88, hv_un (by omega)]; exact hV25
    have hV91 : V87 (mo + 3) = some (.inl (X.2.1 6, 6, .inr (.inr (.inr (.inr rf))))) := by rw [eV88, hv_un (by omega)]; exact hV26
    have hV92 : V87 (mo + 4 + j) = some (.inl (X.2.1 0, 16, .inl f)) := by rw [eV88, hv_un (by omega)]; exact hV27
    have hV93 : V87 (mo + 4 + j2) = some (.inl (X.2.1 0, 16, .inl f2)) := by rw [eV88, hv_un (by omega)]; exact hV28
    have hV95 : V87 mo = some (.inr (7, [.ref (mo + 1), .ref (mo + 2), .ref (mo + 3), .long ab20, .long 0, .ref (mo + 10), .int (nI tx), .int pl, .int cl, .ref (mo + 11), .ref (mo + 12), .ref (mo + 13), .int sg, .ref (mo + 14), .ref (mo + 15), .ref (mo + 16), .ref (mo + 17), .int (nI se), .ref (mo + 18), .ref (mo + 19), .int (nI ev), .ref (mo + 20), .ref (mo + 21), .ref (mo + 22), .int (nI bk), .int ik, .ref (mo + 23), .ref (mo + 24), .ref (mo + 25), .ref (mo + 26), .ref (mo + 33), .ref (mo + 41), .ref (mo + 42), .ref (mo + 43)])) := by rw [eV88]; exact hv_us
    refine lv_aload_n C0.1 C0.2.1 dX7_layWorked_46 rfl (lv_at hl 2 rfl) ?_
    refine hv_cVi C0 w kl_X7_112 kv_X7_isThere rfl hV95 (c_X7_isThere hV95) (by decide) (by decide) rfl hl.1 rfl (Nat.le_of_ble_eq_true rfl) dX7_layWorked_47 ⟨Nat.le_refl _, Nat.le_refl _⟩ (fun x96 V97 Hq lq hp98 w => ?_)
    obtain ⟨e9, hz9⟩ := hp98
    rw [e9] at w; clear e9
    rcases hz9 with ⟨rfl, hi99⟩ | ⟨rfl, hi99⟩
    · skip
      refine lv_if_ne (tgt := 54) C0.1 C0.2.1 dX7_layWorked_50 (by decide) (fun _ => ?_) (fun h9 => absurd h9 (by decide))
      exact absurd rfl hi99
    · skip
      have hi99 := Classical.byContradiction hi99
      refine lv_if_ne (tgt := 54) C0.1 C0.2.1 dX7_layWorked_50 (by decide) (fun h9 => absurd h9 (by decide)) (fun _ => ?_)
      exact hv_vret C0 w hr hlk (⟨_, _, by rw [eV88, eV22, eV7, hv_uu, hv_uu], Or.inl ⟨cw_no (Or.inl (fm8.no.mp c_37)), rfl⟩⟩) dX7_layWorked_53

set_option maxHeartbeats 4000000 in
set_option maxRecDepth 100000 in
theorem m_X7_works {l : Launch} {X : hv_X} {V : hv_V} {mo : Nat} {σ : hs_S} (hM : okM X V mo σ) (hB : hs_b σ) {r a b h : Int32} : hv_Mi l X 220 yX7_works cX7_works 5 .int V [.ref mo, .int r, .int a, .int b, .int h] (fun y V1 => y = (sp_works σ r a b h).1 ∧ okM X V1 mo (sp_works σ r a b h).2 ∧ hv_out V V1 mo (mo + 50)) := by
  refine hv_enter (by decide) (Nat.le_of_ble_eq_true rfl) ?_
  intro p e s m below meth c ls C0 hr hlk hnm w hl
  have hl : lv_has ls 5 [(0, .ref mo), (1, .int r), (2, .int a), (3, .int b), (4, .int h)] := hl
  obtain ⟨ab, be, pl, cl, sg, ik, hO, hRw, hTx, hSc, hSe, hEv, hBk, hIm, hTp⟩ := id hM
  obtain ⟨r1, r2, ⟨rf, r3, r4⟩, r5⟩ := id hRw
  obtain ⟨⟨wd, s1⟩, ⟨td, s2⟩, ⟨sn, s3⟩, ⟨ut, s4⟩, kn, s5⟩ := id hSc
  obtain ⟨sf, sg9, sh, e1, e2, e3, ea⟩ := id hSe
  obtain ⟨ef, eg, v1, v2, va⟩ := id hEv
  obtain ⟨bf, bg, b1, b2, ba⟩ := id hBk
  obtain ⟨t1, t2, ⟨tf, t3, t4⟩, t5⟩ := id hTp
  have hbR := hB.1.1
  refine lv_iload_n C0.1 C0.2.1 dX7_works_0 rfl (lv_at hl 1 rfl) ?_
  refine hv_cSi (As := [.int r]) C0 w kl_X7_135 ks_X7_isRow (c_X7_isRow) (by decide) (by decide) rfl hl.1 rfl (Nat.le_of_ble_eq_true rfl) dX7_works_1 ⟨Nat.le_refl _, Nat.le_refl _⟩ (fun x1 V2 Hq lq hp3 w => ?_)
  obtain ⟨e9, hz9⟩ := hp3
  rw [e9] at w; clear e9
  rcases hz9 with ⟨rfl, hb4⟩ | ⟨rfl, hb4⟩
  · skip
    have ihb4 := hb4
    obtain ⟨j1, hj1, rfl⟩ := sp_inN (k := 5) (by decide) hb4
    have kj1 : (nI j1).toNatClampNeg = j1 := nI_clamp (by omega)
    have hN_j1 : V (mo + 4 + j1) = some (nE X (σ.1.1.2.2 j1)) := r5 j1 hj1
    have hn_j1 : σ.1.1.2.1 j1 ≤ 16 := (hbR j1 hj1).2.1
    refine lv_if_eq (tgt := 31) C0.1 C0.2.1 dX7_works_4 (by decide) (fun h9 => absurd h9 (by decide)) (fun _ => ?_)
    refine lv_iload_n C0.1 C0.2.1 dX7_works_7 rfl (lv_at hl 2 rfl) ?_
    refine hv_cSi (As := [.int a]) C0 w kl_X7_135 ks_X7_isRow (c_X7_isRow) (by decide) (by decide) rfl hl.1 rfl (Nat.le_of_ble_eq_true rfl) dX7_works_8 ⟨Nat.le_refl _, Nat.le_refl _⟩ (fun x5 V6 Hq lq hp7 w => ?_)
    obtain ⟨e9, hz9⟩ := hp7
    rw [e9] at w; clear e9
    rcases hz9 with ⟨rfl, hb8⟩ | ⟨rfl, hb8⟩
    · skip
      have ihb8 := hb8
      obtain ⟨j2, hj2, rfl⟩ := sp_inN (k := 5) (by decide) hb8
      have kj2 : (nI j2).toNatClampNeg = j2 := nI_clamp (by omega)
      have hN_j2 : V (mo + 4 + j2) = some (nE X (σ.1.1.2.2 j2)) := r5 j2 hj2
      have hn_j2 : σ.1.1.2.1 j2 ≤ 16 := (hbR j2 hj2).2.1
      refine lv_if_eq (tgt := 31) C0.1 C0.2.1 dX7_works_11 (by decide) (fun h9 => absurd h9 (by decide)) (fun _ => ?_)
      refine lv_iload_n C0.1 C0.2.1 dX7_works_14 rfl (lv_at hl 3 rfl) ?_
      refine hv_cSi (As := [.int b]) C0 w kl_X7_135 ks_X7_isRow (c_X7_isRow) (by decide) (by decide) rfl hl.1 rfl (Nat.le_of_ble_eq_true rfl) dX7_works_15 ⟨Nat.le_refl _, Nat.le_refl _⟩ (fun x9 V10 Hq lq hp11 w => ?_)
      obtain ⟨e9, hz9⟩ := hp11
      rw [e9] at w; clear e9
      rcases hz9 with ⟨rfl, hb12⟩ | ⟨rfl, hb12⟩
      · skip
        have ihb12 := hb12
        obtain ⟨j3, hj3, rfl⟩ := sp_inN (k := 5) (by decide) hb12
        have kj3 : (nI j3).toNatClampNeg = j3 := nI_clamp (by omega)
        have hN_j3 : V (mo + 4 + j3) = some (nE X (σ.1.1.2.2 j3)) := r5 j3 hj3
        have hn_j3 : σ.1.1.2.1 j3 ≤ 16 := (hbR j3 hj3).2.1
        refine lv_if_eq (tgt := 31) C0.1 C0.2.1 dX7_works_18 (by decide) (fun h9 => absurd h9 (by decide)) (fun _ => ?_)
        refine lv_iload C0.1 C0.2.1 dX7_works_21 (lv_at hl 4 rfl) ?_
        refine lv_iconst (v := 0) C0.1 C0.2.1 dX7_works_23 (by decide) ?_
        refine lv_iconst (v := 2) C0.1 C0.2.1 dX7_works_24 (by decide) ?_
        refine hv_cSi (As := [.int h, .int 0, .int 2]) C0 w kl_X7_89 ks_X7_in (c_X7_in) (by decide) (by decide) rfl hl.1 rfl (Nat.le_of_ble_eq_true rfl) dX7_works_25 ⟨Nat.le_refl _, Nat.le_refl _⟩ (fun x13 V14 Hq lq hp15 w => ?_)
        obtain ⟨e9, hz9⟩ := hp15
        rw [e9] at w; clear e9
        rcases hz9 with ⟨rfl, hb16⟩ | ⟨rfl, hb16⟩
        · skip
          refine lv_if_ne (tgt := 33) C0.1 C0.2.1 dX7_works_28 (by decide) (fun _ => ?_) (fun h9 => absurd h9 (by decide))
          refine lv_aload_n C0.1 C0.2.1 dX7_works_33 rfl (lv_at hl 0 rfl) ?_
          refine lv_iload_n C0.1 C0.2.1 dX7_works_34 rfl (lv_at hl 2 rfl) ?_
          refine lv_iload_n C0.1 C0.2.1 dX7_works_35 rfl (lv_at hl 3 rfl) ?_
          refine lv_iload C0.1 C0.2.1 dX7_works_36 (lv_at hl 4 rfl) ?_
          refine hv_cVv C0 w kl_X7_158 kv_X7_layWorked rfl hO (c_X7_layWorked (n := σ.1.1.2.1 j2) (n2 := σ.1.1.2.1 j3) hO r1 r2 rfl rfl r3 (r4 j2 hj2) (r4 j3 hj3) hj2 hj3 hN_j2 hN_j3 (by omega) (by omega) (fun i9 => (hbR j2 hj2).2.2 i9) (fun i9 => (hbR j3 hj3).2.2 i9) hb16) (by decide) (by decide) rfl hl.1 rfl (Nat.le_of_ble_eq_true rfl) dX7_works_38 ⟨Nat.le_refl _, Nat.le_refl _⟩ (fun V18 Hq lq hp19 w => ?_)
          obtain ⟨ab20, be21, eV22, fm23⟩ := hp19
          have hV25 : V18 (mo + 1) = some (.inl (X.2.1 0, 6, .inl σ.1.1.1)) := by rw [eV22, hv_un (by omega)]; exact r1
          have hV26 : V18 (mo + 2) = some (.inl (X.2.1 0, 6, .inl (fun j => nI (σ.1.1.2.1 j)))) := by rw [eV22, hv_un (by omega)]; exact r2
          have hV27 : V18 (mo + 3) = some (.inl (X.2.1 6, 6, .inr (.inr (.inr (.inr rf))))) := by rw [eV22, hv_un (by omega)]; exact r3
          have hV28 : V18 (mo + 10) = some (.inl (X.2.1 2, 100, .inl σ.2.2.1.2)) := by rw [eV22, hv_un (by omega)]; exact hTx
          have hV29 : V18 (mo + 11) = some (.inl (X.2.1 0, 12, .inl wd)) := by rw [eV22, hv_un (by omega)]; exact s1
          have hV30 : V18 (mo + 12) = some (.inl (X.2.1 0, 48, .inl td)) := by rw [eV22, hv_un (by omega)]; exact s2
          have hV31 : V18 (mo + 13) = some (.inl (X.2.1 2, 178, .inl sn)) := by rw [eV22, hv_un (by omega)]; exact s3
          have hV32 : V18 (mo + 14) = some (.inl (X.2.1 0, 3, .inl ut)) := by rw [eV22, hv_un (by omega)]; exact s4
          have hV33 : V18 (mo + 20) = some (.inl (X.2.1 0, 16, .inl kn)) := by rw [eV22, hv_un (by omega)]; exact s5
          have hV34 : V18 (mo + 15) = some (.inl (X.2.1 0, 4, .inl sf)) := by rw [eV22, hv_un (by omega)]; exact e1
          have hV35 : V18 (mo + 16) = some (.inl (X.2.1 0, 4, .inl sg9)) := by rw [eV22, hv_un (by omega)]; exact e2
          have hV36 : V18 (mo + 17) = some (.inl (X.2.1 0, 4, .inl sh)) := by rw [eV22, hv_un (by omega)]; exact e3
          have hV37 : V18 (mo + 18) = some (.inl (X.2.1 0, 8, .inl ef)) := by rw [eV22, hv_un (by omega)]; exact v1
          have hV38 : V18 (mo + 19) = some (.inl (X.2.1 0, 8, .inl eg)) := by rw [eV22, hv_un (by omega)]; exact v2
          have hV39 : V18 (mo + 21) = some (.inl (X.2.1 0, 8, .inl bf)) := by rw [eV22, hv_un (by omega)]; exact b1
          have hV40 : V18 (mo + 22) = some (.inl (X.2.1 0, 8, .inl bg)) := by rw [eV22, hv_un (by omega)]; exact b2
          have hV41 : V18 (mo + 41) = some (.inl (X.2.1 0, 6, .inl σ.2.2.2.1)) := by rw [eV22, hv_un (by omega)]; exact t1
          have hV42 : V18 (mo + 42) = some (.inl (X.2.1 0, 6, .inl (fun j => nI (σ.2.2.2.2.1 j)))) := by rw [eV22, hv_un (by omega)]; exact t2
          have hV43 : V18 (mo + 43) = some (.inl (X.2.1 7, 6, .inr (.inr (.inr (.inr tf))))) := by rw [eV22, hv_un (by omega)]; exact t3
          have hV44 : V18 (mo + 4 + j1) = some (.inl (X.2.1 0, 16, .inl (σ.1.1.2.2 j1))) := by rw [eV22, hv_un (by omega)]; exact hN_j1
          have hV45 : V18 (mo + 4 + j2) = some (.inl (X.2.1 0, 16, .inl (σ.1.1.2.2 j2))) := by rw [eV22, hv_un (by omega)]; exact hN_j2
          have hV46 : V18 (mo + 4 + j3) = some (.inl (X.2.1 0, 16, .inl (σ.1.1.2.2 j3))) := by rw [eV22, hv_un (by omega)]; exact hN_j3
          have hV47 : V18 mo = some (.inr (7, [.ref (mo + 1), .ref (mo + 2), .ref (mo + 3), .long ab20, .long be21, .ref (mo + 10), .int (nI σ.2.2.1.1), .int pl, .int cl, .ref (mo + 11), .ref (mo + 12), .ref (mo + 13), .int sg, .ref (mo + 14), .ref (mo + 15), .ref (mo + 16), .ref (mo + 17), .int (nI σ.1.2.1.1), .ref (mo + 18), .ref (mo + 19), .int (nI σ.1.2.2.1.1), .ref (mo + 20), .ref (mo + 21), .ref (mo + 22), .int (nI σ.1.2.2.2.1), .int ik, .ref (mo + 23), .ref (mo + 24), .ref (mo + 25), .ref (mo + 26), .ref (mo + 33), .ref (mo + 41), .ref (mo + 42), .ref (mo + 43)])) := by rw [eV22]; exact hv_us
          refine lv_aload_n C0.1 C0.2.1 dX7_works_41 rfl (lv_at hl 0 rfl) ?_
          refine hv_cVi C0 w kl_X7_112 kv_X7_isThere rfl hV47 (c_X7_isThere hV47) (by decide) (by decide) rfl hl.1 rfl (Nat.le_of_ble_eq_true rfl) dX7_works_42 ⟨Nat.le_refl _, Nat.le_refl _⟩ (fun x48 V49 Hq lq hp50 w => ?_)
          obtain ⟨e9, hz9⟩ := hp50
          rw [e9] at w; clear e9
          rcases hz9 with ⟨rfl, hi51⟩ | ⟨rfl, hi51⟩
          · skip
            refine lv_if_eq (tgt := 69) C0.1 C0.2.1 dX7_works_45 (by decide) (fun h9 => absurd h9 (by decide)) (fun _ => ?_)
            refine lv_aload_n C0.1 C0.2.1 dX7_works_48 rfl (lv_at hl 0 rfl) ?_
            refine gf_X7_103 C0 w hV47 rfl dX7_works_49 ?_
            refine lv_lconst (v := 0) C0.1 C0.2.1 dX7_works_52 (by decide) ?_
            refine hv_lc_le (tgt := 69) C0.1 C0.2.1 dX7_works_53 dX7_works_54 (by decide) (fun c_53 => ?_) (fun c_53 => ?_)
            · skip
              refine lv_bipush (v := -3) C0.1 C0.2.1 dX7_works_69 (by decide) ?_
              exact hv_iret C0 w hr hlk (by rw [sp_works, if_pos ⟨ihb4, ihb8, ihb12, hb16⟩, kj1, kj2, kj3, sp_wk, if_neg (fm23.np (Or.inr (Or.inl c_53)))]; exact ⟨rfl, ⟨ab20, be21, pl, cl, sg, ik, (by rw [eV22]; exact hv_us), hRw.fr (fun q h7 h8 => by rw [eV22, hv_un (by omega)]), (by rw [eV22, hv_un (by omega)] : _ = V (mo + 10)).trans hTx, hSc.fr (fun q h7 h8 => by rw [eV22, hv_un (by omega)]) (fun q h7 h8 => by rw [eV22, hv_un (by omega)]), hSe.fr (fun q h7 h8 => by rw [eV22, hv_un (by omega)]), hEv.fr (by rw [eV22, hv_un (by omega)]) (by rw [eV22, hv_un (by omega)]), hBk.fr (by rw [eV22, hv_un (by omega)]) (by rw [eV22, hv_un (by omega)]), hIm.fr (fun q h7 h8 => by rw [eV22, hv_un (by omega)]), hTp.fr (fun q h7 h8 => by rw [eV22, hv_un (by omega)])⟩, (fun q h7 => by rw [eV22, hv_un (by omega)])⟩) dX7_works_71
            · skip
              refine lv_aload_n C0.1 C0.2.1 dX7_works_57 rfl (lv_at hl 0 rfl) ?_
              refine gf_X7_103 C0 w hV47 rfl dX7_works_58 ?_
              refine lv_aload_n C0.1 C0.2.1 dX7_works_61 rfl (lv_at hl 0 rfl) ?_
              refine gf_X7_107 C0 w hV47 rfl dX7_works_62 ?_
              refine hv_lc_lt (tgt := 72) C0.1 C0.2.1 dX7_works_65 dX7_works_66 (by decide) (fun c_65 => ?_) (fun c_65 => ?_)
              · skip
                obtain ⟨pr9, lt9, ea9, eb9⟩ := fm23.prop hi51 c_53 c_65
                refine lv_aload_n C0.1 C0.2.1 dX7_works_72 rfl (lv_at hl 0 rfl) ?_
                refine lv_iload_n C0.1 C0.2.1 dX7_works_73 rfl (lv_at hl 1 rfl) ?_
                refine hv_cVi C0 w kl_X7_143 kv_X7_spreads rfl hV47 (c_X7_spreads hV47 hV25 hV26 hV27 (r4 j1 hj1) hj1 hV44 lt9 ea9 eb9) (by decide) (by decide) rfl hl.1 rfl (Nat.le_of_ble_eq_true rfl) dX7_works_74 ⟨Nat.le_refl _, Nat.le_refl _⟩ (fun x52 V53 Hq lq hp54 w => ?_)
                obtain ⟨ab55, be56, eV57, ey58⟩ := hp54
                exact hv_iret C0 w hr hlk (by rw [sp_works, if_pos ⟨ihb4, ihb8, ihb12, hb16⟩, kj1, kj2, kj3, sp_wk, if_pos pr9, sp_sprd]; exact ⟨ey58, ⟨ab55, be56, pl, cl, sg, ik, (by rw [eV57, hv_un (by omega), hv_un (by omega)]; exact hv_us), hRw.set hj1 (by rw [hs_uid, eV57, hv_un (by omega), hv_un (by omega), hv_un (by omega), eV22, hv_un (by omega)]; exact r1) (by rw [eV57]; exact hv_us) (by rw [eV57, hv_un (by omega)]; exact hv_us) (by rw [eV57, hv_un (by omega), hv_un (by omega), hv_un (by omega), eV22, hv_un (by omega)]) (fun i9 hi9 hne9 => by rw [eV57, hv_un (by omega), hv_un (by omega), hv_un (by omega), eV22, hv_un (by omega)]), (by rw [eV57, hv_un (by omega), hv_un (by omega), hv_un (by omega), eV22, hv_un (by omega)] : _ = V (mo + 10)).trans hTx, hSc.fr (fun q h7 h8 => by rw [eV57, hv_un (by omega), hv_un (by omega), hv_un (by omega), eV22, hv_un (by omega)]) (fun q h7 h8 => by rw [eV57, hv_un (by omega), hv_un (by omega), hv_un (by omega), eV22, hv_un (by omega)]), hSe.fr (fun q h7 h8 => by rw [eV57, hv_un (by omega), hv_un (by omega), hv_un (by omega), eV22, hv_un (by omega)]), hEv.fr (by rw [eV57, hv_un (by omega), hv_un (by omega), hv_un (by omega), eV22, hv_un (by omega)]) (by rw [eV57, hv_un (by omega), hv_un (by omega), hv_un (by omega), eV22, hv_un (by omega)]), hBk.fr (by rw [eV57, hv_un (by omega), hv_un (by omega), hv_un (by omega), eV22, hv_un (by omega)]) (by rw [eV57, hv_un (by omega), hv_un (by omega), hv_un (by omega), eV22, hv_un (by omega)]), hIm.fr (fun q h7 h8 => by rw [eV57, hv_un (by omega), hv_un (by omega), hv_un (by omega), eV22, hv_un (by omega)]), hTp.fr (fun q h7 h8 => by rw [eV57, hv_un (by omega), hv_un (by omega), hv_un (by omega), eV22, hv_un (by omega)])⟩, (fun q h7 => by rw [eV57, hv_un (by omega), hv_un (by omega), hv_un (by omega), eV22, hv_un (by omega)])⟩) dX7_works_77
              · skip
                refine lv_bipush (v := -3) C0.1 C0.2.1 dX7_works_69 (by decide) ?_
                exact hv_iret C0 w hr hlk (by rw [sp_works, if_pos ⟨ihb4, ihb8, ihb12, hb16⟩, kj1, kj2, kj3, sp_wk, if_neg (fm23.np (Or.inr (Or.inr c_65)))]; exact ⟨rfl, ⟨ab20, be21, pl, cl, sg, ik, (by rw [eV22]; exact hv_us), hRw.fr (fun q h7 h8 => by rw [eV22, hv_un (by omega)]), (by rw [eV22, hv_un (by omega)] : _ = V (mo + 10)).trans hTx, hSc.fr (fun q h7 h8 => by rw [eV22, hv_un (by omega)]) (fun q h7 h8 => by rw [eV22, hv_un (by omega)]), hSe.fr (fun q h7 h8 => by rw [eV22, hv_un (by omega)]), hEv.fr (by rw [eV22, hv_un (by omega)]) (by rw [eV22, hv_un (by omega)]), hBk.fr (by rw [eV22, hv_un (by omega)]) (by rw [eV22, hv_un (by omega)]), hIm.fr (fun q h7 h8 => by rw [eV22, hv_un (by omega)]), hTp.fr (fun q h7 h8 => by rw [eV22, hv_un (by omega)])⟩, (fun q h7 => by rw [eV22, hv_un (by omega)])⟩) dX7_works_71
          · skip
            have hi51 := Classical.byContradiction hi51
            refine lv_if_eq (tgt := 69) C0.1 C0.2.1 dX7_works_45 (by decide) (fun _ => ?_) (fun h9 => absurd h9 (by decide))
            refine lv_bipush (v := -3) C0.1 C0.2.1 dX7_works_69 (by decide) ?_
            exact hv_iret C0 w hr hlk (by rw [sp_works, if_pos ⟨ihb4, ihb8, ihb12, hb16⟩, kj1, kj2, kj3, sp_wk, if_neg (fm23.np (Or.inl hi51))]; exact ⟨rfl, ⟨ab20, be21, pl, cl, sg, ik, (by rw [eV22]; exact hv_us), hRw.fr (fun q h7 h8 => by rw [eV22, hv_un (by omega)]), (by rw [eV22, hv_un (by omega)] : _ = V (mo + 10)).trans hTx, hSc.fr (fun q h7 h8 => by rw [eV22, hv_un (by omega)]) (fun q h7 h8 => by rw [eV22, hv_un (by omega)]), hSe.fr (fun q h7 h8 => by rw [eV22, hv_un (by omega)]), hEv.fr (by rw [eV22, hv_un (by omega)]) (by rw [eV22, hv_un (by omega)]), hBk.fr (by rw [eV22, hv_un (by omega)]) (by rw [eV22, hv_un (by omega)]), hIm.fr (fun q h7 h8 => by rw [eV22, hv_un (by omega)]), hTp.fr (fun q h7 h8 => by rw [eV22, hv_un (by omega)])⟩, (fun q h7 => by rw [eV22, hv_un (by omega)])⟩) dX7_works_71
        · skip
          refine lv_if_ne (tgt := 33) C0.1 C0.2.1 dX7_works_28 (by decide) (fun h9 => absurd h9 (by decide)) (fun _ => ?_)
          refine lv_iconst (v := -1) C0.1 C0.2.1 dX7_works_31 (by decide) ?_
          exact hv_iret C0 w hr hlk (by rw [sp_works, if_neg (fun h9 => hb16 h9.2.2.2)]; exact ⟨rfl, hM, hv_out.rf⟩) dX7_works_32
      · skip
        refine lv_if_eq (tgt := 31) C0.1 C0.2.1 dX7_works_18 (by decide) (fun _ => ?_) (fun h9 => absurd h9 (by decide))
        refine lv_iconst (v := -1) C0.1 C0.2.1 dX7_works_31 (by decide) ?_
        exact hv_iret C0 w hr hlk (by rw [sp_works, if_neg (fun h9 => hb12 h9.2.2.1)]; exact ⟨rfl, hM, hv_out.rf⟩) dX7_works_32
    · skip
      refine lv_if_eq (tgt := 31) C0.1 C0.2.1 dX7_works_11 (by decide) (fun _ => ?_) (fun h9 => absurd h9 (by decide))
      refine lv_iconst (v := -1) C0.1 C0.2.1 dX7_works_31 (by decide) ?_
      exact hv_iret C0 w hr hlk (by rw [sp_works, if_neg (fun h9 => hb8 h9.2.1)]; exact ⟨rfl, hM, hv_out.rf⟩) dX7_works_32
  · skip
    refine lv_if_eq (tgt := 31) C0.1 C0.2.1 dX7_works_4 (by decide) (fun _ => ?_) (fun h9 => absurd h9 (by decide))
    refine lv_iconst (v := -1) C0.1 C0.2.1 dX7_works_31 (by decide) ?_
    exact hv_iret C0 w hr hlk (by rw [sp_works, if_neg (fun h9 => hb4 h9.1)]; exact ⟨rfl, hM, hv_out.rf⟩) dX7_works_32

