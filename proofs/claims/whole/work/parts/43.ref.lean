theorem hs_01 {w : Int32} (h : sp_in w 0 1) (h1 : ¬ w = 1) : w = 0 := by
  obtain ⟨j, hj, rfl⟩ := sp_inN (k := 1) (by decide) h
  rcases (show j = 0 ∨ j = 1 by omega) with rfl | rfl
  · rfl
  · exact absurd rfl h1
theorem fm.in {F : fx_F} {ab be : Int64} (h : fm F ab be) (hn : ¬ be = 0) : i64_in ab ∧ i64_ip be := by
  obtain ⟨h1, h2, h3, h4, h5⟩ := h.yes hn
  rw [h2, h3]
  exact ⟨h4, by have := h5.1; omega, h5.2⟩
theorem fm.inn {F : fx_F} {ab be : Int64} (h : fm F ab be) (hn : ¬ be = 0) : i64_in (-ab) := by
  have h1 := (h.in hn).1
  have e := i64_neg (a := ab) (by have := h1.1; omega)
  show -1000000000 ≤ (-ab).toInt ∧ (-ab).toInt ≤ 1000000000
  have := h1.1; have := h1.2
  omega
theorem fm.tk {A B : fx_F} {a b x y : Int64} (h : fm A a b) (hn : ¬ b = 0) (g : fm (fx_addOn B (-a) b) x y) : fm (fx_takeAway B A) x y := by
  obtain ⟨h1, h2, h3, h4⟩ := h.yes hn
  have n1 : ¬ A.2.2 = 0 := by rw [h1]; decide
  by_cases q : B.2.2 = 0
  · have e : (fx_takeAway B A).2.2 = 0 := by unfold fx_takeAway; rw [if_pos (Or.inl q)]; rfl
    exact Or.inl ⟨e, g.no.mpr (fx_no0 q)⟩
  · refine g.as ?_
    unfold fx_takeAway
    rw [if_neg (fun h9 => h9.elim q n1), h2, h3]
theorem fx_tkno {A B : fx_F} (h : A.2.2 = 0) : (fx_takeAway B A).2.2 = 0 := by unfold fx_takeAway; rw [if_pos (Or.inr h)]; rfl
theorem fm.cut {A B : fx_F} {a b : Int64} (h : fm A a b) (hb : b = 0) : fm (fx_takeAway B A) a b := Or.inl ⟨fx_tkno (h.no.mp hb), hb⟩
set_option maxHeartbeats 4000000 in
set_option maxRecDepth 100000 in
theorem m_X7_beginning {l : Launch} {X : hv_X} {V : hv_V} {mo : Nat} {σ : hs_S} (hM : okM X V mo σ) (hB : hs_b σ) {r m9 w9 k : Int32} : hv_Ml l X 220 yX7_beginning cX7_beginning 9 V [.ref mo, .int r, .int m9, .int w9, .int k] (fun y V1 => y = sp_beginning σ r m9 w9 k ∧ okM X V1 mo σ ∧ hv_out V V1 mo (mo + 50)) := by
  refine hv_enter (by decide) (Nat.le_of_ble_eq_true rfl) ?_
  intro p e s m below meth c ls C0 hr hlk hnm w hl
  have hl : lv_has ls 9 [(0, .ref mo), (1, .int r), (2, .int m9), (3, .int w9), (4, .int k)] := hl
  obtain ⟨ab, be, pl, cl, sg, ik, hO, hRw, hTx, hSc, hSe, hEv, hBk, hIm, hTp⟩ := id hM
  obtain ⟨r1, r2, ⟨rf, r3, r4⟩, r5⟩ := id hRw
  obtain ⟨⟨wd, s1⟩, ⟨td, s2⟩, ⟨sn, s3⟩, ⟨ut, s4⟩, kn, s5⟩ := id hSc
  obtain ⟨sf, sg9, sh, e1, e2, e3, ea⟩ := id hSe
  obtain ⟨ef, eg, v1, v2, va⟩ := id hEv
  obtain ⟨bf, bg, b1, b2, ba⟩ := id hBk
  obtain ⟨t1, t2, ⟨tf, t3, t4⟩, t5⟩ := id hTp
  have hbR := hB.1.1
  refine lv_iload_n C0.1 C0.2.1 dX7_beginning_0 rfl (lv_at hl 1 rfl) ?_
  refine hv_cSi (As := [.int r]) C0 w kl_X7_135 ks_X7_isRow (c_X7_isRow) (by decide) (by decide) rfl hl.1 rfl (Nat.le_of_ble_eq_true rfl) dX7_beginning_1 ⟨Nat.le_refl _, Nat.le_refl _⟩ (fun x1 V2 Hq lq hp3 w => ?_)
  obtain ⟨e9, hz9⟩ := hp3
  rw [e9] at w; clear e9
  rcases hz9 with ⟨rfl, hb4⟩ | ⟨rfl, hb4⟩
  · skip
    have ihb4 := hb4
    obtain ⟨j1, hj1, rfl⟩ := sp_inN (k := 5) (by decide) hb4
    have kj1 : (nI j1).toNatClampNeg = j1 := nI_clamp (by omega)
    have hN_j1 : V (mo + 4 + j1) = some (nE X (σ.1.1.2.2 j1)) := r5 j1 hj1
    have hn_j1 : σ.1.1.2.1 j1 ≤ 16 := (hbR j1 hj1).2.1
    refine lv_if_eq (tgt := 38) C0.1 C0.2.1 dX7_beginning_4 (by decide) (fun h9 => absurd h9 (by decide)) (fun _ => ?_)
    refine lv_iload_n C0.1 C0.2.1 dX7_beginning_7 rfl (lv_at hl 2 rfl) ?_
    refine lv_iconst (v := 0) C0.1 C0.2.1 dX7_beginning_8 (by decide) ?_
    refine lv_aload_n C0.1 C0.2.1 dX7_beginning_9 rfl (lv_at hl 0 rfl) ?_
    refine gf_X7_15 C0 w hO rfl dX7_beginning_10 ?_
    refine lv_iload_n C0.1 C0.2.1 dX7_beginning_13 rfl (lv_at hl 1 rfl) ?_
    refine hv_iald C0 w r2 (hn_in hj1 (by decide)) dX7_beginning_14 ?_
    have hc5 : (nI j1).toNatClampNeg = j1 := nI_clamp (by omega)
    rw [hc5]
    refine hv_cSi (As := [.int m9, .int 0, .int (nI (σ.1.1.2.1 j1))]) C0 w kl_X7_89 ks_X7_in (c_X7_in) (by decide) (by decide) rfl hl.1 rfl (Nat.le_of_ble_eq_true rfl) dX7_beginning_15 ⟨Nat.le_refl _, Nat.le_refl _⟩ (fun x6 V7 Hq lq hp8 w => ?_)
    obtain ⟨e9, hz9⟩ := hp8
    rw [e9] at w; clear e9
    rcases hz9 with ⟨rfl, hb9⟩ | ⟨rfl, hb9⟩
    · skip
      refine lv_if_eq (tgt := 38) C0.1 C0.2.1 dX7_beginning_18 (by decide) (fun h9 => absurd h9 (by decide)) (fun _ => ?_)
      refine lv_iload_n C0.1 C0.2.1 dX7_beginning_21 rfl (lv_at hl 3 rfl) ?_
      refine lv_iconst (v := 0) C0.1 C0.2.1 dX7_beginning_22 (by decide) ?_
      refine lv_iconst (v := 1) C0.1 C0.2.1 dX7_beginning_23 (by decide) ?_
      refine hv_cSi (As := [.int w9, .int 0, .int 1]) C0 w kl_X7_89 ks_X7_in (c_X7_in) (by decide) (by decide) rfl hl.1 rfl (Nat.le_of_ble_eq_true rfl) dX7_beginning_24 ⟨Nat.le_refl _, Nat.le_refl _⟩ (fun x10 V11 Hq lq hp12 w => ?_)
      obtain ⟨e9, hz9⟩ := hp12
      rw [e9] at w; clear e9
      rcases hz9 with ⟨rfl, hb13⟩ | ⟨rfl, hb13⟩
      · skip
        refine lv_if_eq (tgt := 38) C0.1 C0.2.1 dX7_beginning_27 (by decide) (fun h9 => absurd h9 (by decide)) (fun _ => ?_)
        refine lv_iload C0.1 C0.2.1 dX7_beginning_30 (lv_at hl 4 rfl) ?_
        refine hv_cSi (As := [.int k]) C0 w kl_X7_245 ks_X7_isPart (c_X7_isPart) (by decide) (by decide) rfl hl.1 rfl (Nat.le_of_ble_eq_true rfl) dX7_beginning_32 ⟨Nat.le_refl _, Nat.le_refl _⟩ (fun x14 V15 Hq lq hp16 w => ?_)
        obtain ⟨e9, hz9⟩ := hp16
        rw [e9] at w; clear e9
        rcases hz9 with ⟨rfl, hb17⟩ | ⟨rfl, hb17⟩
        · skip
          refine lv_if_ne (tgt := 42) C0.1 C0.2.1 dX7_beginning_35 (by decide) (fun _ => ?_) (fun h9 => absurd h9 (by decide))
          have hb9x := hb9
          obtain ⟨n1, hn1, rfl⟩ := sp_inN (by omega) hb9
          have kn1 : (nI n1).toNatClampNeg = n1 := nI_clamp (by omega)
          refine lv_aload_n C0.1 C0.2.1 dX7_beginning_42 rfl (lv_at hl 0 rfl) ?_
          refine lv_iload_n C0.1 C0.2.1 dX7_beginning_43 rfl (lv_at hl 1 rfl) ?_
          refine lv_iload_n C0.1 C0.2.1 dX7_beginning_44 rfl (lv_at hl 2 rfl) ?_
          refine hv_cVv C0 w kl_X7_154 kv_X7_layWorth rfl hO (c_X7_layWorth (n := n1) hO r1 r3 (r4 j1 hj1) hj1 hN_j1 (by omega) (fun i9 => (hbR j1 hj1).2.2 i9)) (by decide) (by decide) rfl hl.1 rfl (Nat.le_of_ble_eq_true rfl) dX7_beginning_45 ⟨Nat.le_refl _, Nat.le_refl _⟩ (fun V19 Hq lq hp20 w => ?_)
          obtain ⟨ab21, be22, eV23, fm24⟩ := hp20
          have hV26 : V19 (mo + 1) = some (.inl (X.2.1 0, 6, .inl σ.1.1.1)) := by rw [eV23, hv_un (by omega)]; exact r1
          have hV27 : V19 (mo + 2) = some (.inl (X.2.1 0, 6, .inl (fun j => nI (σ.1.1.2.1 j)))) := by rw [eV23, hv_un (by omega)]; exact r2
          have hV28 : V19 (mo + 3) = some (.inl (X.2.1 6, 6, .inr (.inr (.inr (.inr rf))))) := by rw [eV23, hv_un (by omega)]; exact r3
          have hV29 : V19 (mo + 10) = some (.inl (X.2.1 2, 100, .inl σ.2.2.1.2)) := by rw [eV23, hv_un (by omega)]; exact hTx
          have hV30 : V19 (mo + 11) = some (.inl (X.2.1 0, 12, .inl wd)) := by rw [eV23, hv_un (by omega)]; exact s1
          have hV31 : V19 (mo + 12) = some (.inl (X.2.1 0, 48, .inl td)) := by rw [eV23, hv_un (by omega)]; exact s2
          have hV32 : V19 (mo + 13) = some (.inl (X.2.1 2, 178, .inl sn)) := by rw [eV23, hv_un (by omega)]; exact s3
          have hV33 : V19 (mo + 14) = some (.inl (X.2.1 0, 3, .inl ut)) := by rw [eV23, hv_un (by omega)]; exact s4
          have hV34 : V19 (mo + 20) = some (.inl (X.2.1 0, 16, .inl kn)) := by rw [eV23, hv_un (by omega)]; exact s5
          have hV35 : V19 (mo + 15) = some (.inl (X.2.1 0, 4, .inl sf)) := by rw [eV23, hv_un (by omega)]; exact e1
          have hV36 : V19 (mo + 16) = some (.inl (X.2.1 0, 4, .inl sg9)) := by rw [eV23, hv_un (by omega)]; exact e2
          have hV37 : V19 (mo + 17) = some (.inl (X.2.1 0, 4, .inl sh)) := by rw [eV23, hv_un (by omega)]; exact e3
          have hV38 : V19 (mo + 18) = some (.inl (X.2.1 0, 8, .inl ef)) := by rw [eV23, hv_un (by omega)]; exact v1
          have hV39 : V19 (mo + 19) = some (.inl (X.2.1 0, 8, .inl eg)) := by rw [eV23, hv_un (by omega)]; exact v2
          have hV40 : V19 (mo + 21) = some (.inl (X.2.1 0, 8, .inl bf)) := by rw [eV23, hv_un (by omega)]; exact b1
          have hV41 : V19 (mo + 22) = some (.inl (X.2.1 0, 8, .inl bg)) := by rw [eV23, hv_un (by omega)]; exact b2
          have hV42 : V19 (mo + 41) = some (.inl (X.2.1 0, 6, .inl σ.2.2.2.1)) := by rw [eV23, hv_un (by omega)]; exact t1
          have hV43 : V19 (mo + 42) = some (.inl (X.2.1 0, 6, .inl (fun j => nI (σ.2.2.2.2.1 j)))) := by rw [eV23, hv_un (by omega)]; exact t2
          have hV44 : V19 (mo + 43) = some (.inl (X.2.1 7, 6, .inr (.inr (.inr (.inr tf))))) := by rw [eV23, hv_un (by omega)]; exact t3
          have hV45 : V19 (mo + 4 + j1) = some (.inl (X.2.1 0, 16, .inl (σ.1.1.2.2 j1))) := by rw [eV23, hv_un (by omega)]; exact hN_j1
          have hV46 : V19 mo = some (.inr (7, [.ref (mo + 1), .ref (mo + 2), .ref (mo + 3), .long ab21, .long be22, .ref (mo + 10), .int (nI σ.2.2.1.1), .int pl, .int cl, .ref (mo + 11), .ref (mo + 12), .ref (mo + 13), .int sg, .ref (mo + 14), .ref (mo + 15), .ref (mo + 16), .ref (mo + 17), .int (nI σ.1.2.1.1), .ref (mo + 18), .ref (mo + 19), .int (nI σ.1.2.2.1.1), .ref (mo + 20), .ref (mo + 21), .ref (mo + 22), .int (nI σ.1.2.2.2.1), .int ik, .ref (mo + 23), .ref (mo + 24), .ref (mo + 25), .ref (mo + 26), .ref (mo + 33), .ref (mo + 41), .ref (mo + 42), .ref (mo + 43)])) := by rw [eV23]; exact hv_us
          refine lv_iload_n C0.1 C0.2.1 dX7_beginning_48 rfl (lv_at hl 3 rfl) ?_
          refine lv_iconst (v := 1) C0.1 C0.2.1 dX7_beginning_49 (by decide) ?_
          refine lv_icmp_ne (tgt := 92) C0.1 C0.2.1 dX7_beginning_50 (by decide) (fun c_50 => ?_) (fun c_50 => ?_)
          · skip
            refine lv_aload_n C0.1 C0.2.1 dX7_beginning_92 rfl (lv_at hl 0 rfl) ?_
            refine lv_iload C0.1 C0.2.1 dX7_beginning_93 (lv_at hl 4 rfl) ?_
            refine hv_cVl C0 w kl_X7_248 kv_X7_partOf rfl hV46 (c_X7_partOf hV46) (by decide) (by decide) rfl hl.1 rfl (Nat.le_of_ble_eq_true rfl) dX7_beginning_95 ⟨Nat.le_refl _, Nat.le_refl _⟩ (fun x47 V48 Hq lq hp49 w => ?_)
            obtain ⟨e9, e8⟩ := hp49
            rw [e9] at w; rw [e8]; clear e9 e8
            exact hv_lret C0 w hr hlk (by rw [sp_beginning, if_pos ⟨ihb4, by rw [kj1]; exact hb9x, hb13, hb17⟩, kj1, kn1, if_pos (hs_01 hb13 c_50)]; exact ⟨fm24.part k, ⟨ab21, be22, pl, cl, sg, ik, (by rw [eV23]; exact hv_us), hRw.fr (fun q h7 h8 => by rw [eV23, hv_un (by omega)]), (by rw [eV23, hv_un (by omega)] : _ = V (mo + 10)).trans hTx, hSc.fr (fun q h7 h8 => by rw [eV23, hv_un (by omega)]) (fun q h7 h8 => by rw [eV23, hv_un (by omega)]), hSe.fr (fun q h7 h8 => by rw [eV23, hv_un (by omega)]), hEv.fr (by rw [eV23, hv_un (by omega)]) (by rw [eV23, hv_un (by omega)]), hBk.fr (by rw [eV23, hv_un (by omega)]) (by rw [eV23, hv_un (by omega)]), hIm.fr (fun q h7 h8 => by rw [eV23, hv_un (by omega)]), hTp.fr (fun q h7 h8 => by rw [eV23, hv_un (by omega)])⟩, (fun q h7 => by rw [eV23, hv_un (by omega)])⟩) dX7_beginning_98
          · skip
            refine lv_aload_n C0.1 C0.2.1 dX7_beginning_53 rfl (lv_at hl 0 rfl) ?_
            refine hv_cVi C0 w kl_X7_112 kv_X7_isThere rfl hV46 (c_X7_isThere hV46) (by decide) (by decide) rfl hl.1 rfl (Nat.le_of_ble_eq_true rfl) dX7_beginning_54 ⟨Nat.le_refl _, Nat.le_refl _⟩ (fun x50 V51 Hq lq hp52 w => ?_)
            obtain ⟨e9, hz9⟩ := hp52
            rw [e9] at w; clear e9
            rcases hz9 with ⟨rfl, hi53⟩ | ⟨rfl, hi53⟩
            · skip
              refine lv_if_eq (tgt := 92) C0.1 C0.2.1 dX7_beginning_57 (by decide) (fun h9 => absurd h9 (by decide)) (fun _ => ?_)
              refine lv_aload_n C0.1 C0.2.1 dX7_beginning_60 rfl (lv_at hl 0 rfl) ?_
              refine gf_X7_103 C0 w hV46 rfl dX7_beginning_61 ?_
              refine lv_lstore (lv' := [(5, .long ab21), (0, .ref mo), (1, .int (nI j1)), (2, .int (nI n1)), (3, .int w9), (4, .int k)]) C0.1 C0.2.1 dX7_beginning_64 hl (by decide) rfl (fun ls hl => ?_)
              refine lv_aload_n C0.1 C0.2.1 dX7_beginning_66 rfl (lv_at hl 1 rfl) ?_
              refine gf_X7_107 C0 w hV46 rfl dX7_beginning_67 ?_
              refine lv_lstore (lv' := [(7, .long be22), (5, .long ab21), (0, .ref mo), (1, .int (nI j1)), (2, .int (nI n1)), (3, .int w9), (4, .int k)]) C0.1 C0.2.1 dX7_beginning_70 hl (by decide) rfl (fun ls hl => ?_)
              refine lv_aload_n C0.1 C0.2.1 dX7_beginning_72 rfl (lv_at hl 2 rfl) ?_
              refine lv_iload_n C0.1 C0.2.1 dX7_beginning_73 rfl (lv_at hl 3 rfl) ?_
              refine lv_aload_n C0.1 C0.2.1 dX7_beginning_74 rfl (lv_at hl 2 rfl) ?_
              refine gf_X7_15 C0 w hV46 rfl dX7_beginning_75 ?_
              refine lv_iload_n C0.1 C0.2.1 dX7_beginning_78 rfl (lv_at hl 3 rfl) ?_
              refine hv_iald C0 w hV27 (hn_in hj1 (by decide)) dX7_beginning_79 ?_
              have hc54 : (nI j1).toNatClampNeg = j1 := nI_clamp (by omega)
              rw [hc54]
              refine hv_cVv C0 w kl_X7_154 kv_X7_layWorth rfl hV46 (c_X7_layWorth (n := (σ.1.1.2.1 j1)) hV46 hV26 hV28 (r4 j1 hj1) hj1 hV45 (by omega) (fun i9 => (hbR j1 hj1).2.2 i9)) (by decide) (by decide) rfl hl.1 rfl (Nat.le_of_ble_eq_true rfl) dX7_beginning_80 ⟨Nat.le_refl _, Nat.le_refl _⟩ (fun V56 Hq lq hp57 w => ?_)
              obtain ⟨ab58, be59, eV60, fm61⟩ := hp57
              have hV62 : V56 (mo + 1) = some (.inl (X.2.1 0, 6, .inl σ.1.1.1)) := by rw [eV60, hv_un (by omega)]; exact hV26
              have hV63 : V56 (mo + 2) = some (.inl (X.2.1 0, 6, .inl (fun j => nI (σ.1.1.2.1 j)))) := by rw [eV60, hv_un (by omega)]; exact hV27
              have hV64 : V56 (mo + 3) = some (.inl (X.2.1 6, 6, .inr (.inr (.inr (.inr rf))))) := by rw [eV60, hv_un (by omega)]; exact hV28
              have hV65 : V56 (mo + 10) = some (.inl (X.2.1 2, 100, .inl σ.2.2.1.2)) := by rw [eV60, hv_un (by omega)]; exact hV29
              have hV66 : V56 (mo + 11) = some (.inl (X.2.1 0, 12, .inl wd)) := by rw [eV60, hv_un (by omega)]; exact hV30
              have hV67 : V56 (mo + 12) = some (.inl (X.2.1 0, 48, .inl td)) := by rw [eV60, hv_un (by omega)]; exact hV31
              have hV68 : V56 (mo + 13) = some (.inl (X.2.1 2, 178, .inl sn)) := by rw [eV60, hv_un (by omega)]; exact hV32
              have hV69 : V56 (mo + 14) = some (.inl (X.2.1 0, 3, .inl ut)) := by rw [eV60, hv_un (by omega)]; exact hV33
              have hV70 : V56 (mo + 20) = some (.inl (X.2.1 0, 16, .inl kn)) := by rw [eV60, hv_un (by omega)]; exact hV34
              have hV71 : V56 (mo + 15) = some (.inl (X.2.1 0, 4, .inl sf)) := by rw [eV60, hv_un (by omega)]; exact hV35
              have hV72 : V56 (mo + 16) = some (.inl (X.2.1 0, 4, .inl sg9)) := by rw [eV60, hv_un (by omega)]; exact hV36
              have hV73 : V56 (mo + 17) = some (.inl (X.2.1 0, 4, .inl sh)) := by rw [eV60, hv_un (by omega)]; exact hV37
              have hV74 : V56 (mo + 18) = some (.inl (X.2.1 0, 8, .inl ef)) := by rw [eV60, hv_un (by omega)]; exact hV38
              have hV75 : V56 (mo + 19) = some (.inl (X.2.1 0, 8, .inl eg)) := by rw [eV60, hv_un (by omega)]; exact hV39
              have hV76 : V56 (mo + 21) = some (.inl (X.2.1 0, 8, .inl bf)) := by rw [eV60, hv_un (by omega)]; exact hV40
              have hV77 : V56 (mo + 22) = some (.inl (X.2.1 0, 8, .inl bg)) := by rw [eV60, hv_un (by omega)]; exact hV41
              have hV78 : V56 (mo + 41) = some (.inl (X.2.1 0, 6, .inl σ.2.2.2.1)) := by rw [eV60, hv_un (by omega)]; exact hV42
              have hV79 : V56 (mo + 42) = some (.inl (X.2.1 0, 6, .inl (fun j => nI (σ.2.2.2.2.1 j)))) := by rw [eV60, hv_un (by omega)]; exact hV43
              have hV80 : V56 (mo + 43) = some (.inl (X.2.1 7, 6, .inr (.inr (.inr (.inr tf))))) := by rw [eV60, hv_un (by omega)]; exact hV44
              have hV81 : V56 (mo + 4 + j1) = some (.inl (X.2.1 0, 16, .inl (σ.1.1.2.2 j1))) := by rw [eV60, hv_un (by omega)]; exact hV45
              have hV83 : V56 mo = some (.inr (7, [.ref (mo + 1), .ref (mo + 2), .ref (mo + 3), .long ab58, .long be59, .ref (mo + 10), .int (nI σ.2.2.1.1), .int pl, .int cl, .ref (mo + 11), .ref (mo + 12), .ref (mo + 13), .int sg, .ref (mo + 14), .ref (mo + 15), .ref (mo + 16), .ref (mo + 17), .int (nI σ.1.2.1.1), .ref (mo + 18), .ref (mo + 19), .int (nI σ.1.2.2.1.1), .ref (mo + 20), .ref (mo + 21), .ref (mo + 22), .int (nI σ.1.2.2.2.1), .int ik, .ref (mo + 23), .ref (mo + 24), .ref (mo + 25), .ref (mo + 26), .ref (mo + 33), .ref (mo + 41), .ref (mo + 42), .ref (mo + 43)])) := by rw [eV60]; exact hv_us
              refine lv_aload_n C0.1 C0.2.1 dX7_beginning_83 rfl (lv_at hl 2 rfl) ?_
              refine lv_lload C0.1 C0.2.1 dX7_beginning_84 (lv_at hl 1 rfl) ?_
              refine lv_lneg C0.1 C0.2.1 dX7_beginning_86 ?_
              refine lv_lload C0.1 C0.2.1 dX7_beginning_87 (lv_at hl 0 rfl) ?_
              refine hv_cVv C0 w kl_X7_120 kv_X7_plus rfl hV83 (c_X7_plus hV83 fm61 (fm24.inn hi53) (fm24.in hi53).2) (by decide) (by decide) rfl hl.1 rfl (Nat.le_of_ble_eq_true rfl) dX7_beginning_89 ⟨Nat.le_refl _, Nat.le_refl _⟩ (fun V85 Hq lq hp86 w => ?_)
              obtain ⟨ab87, be88, eV89, fm90⟩ := hp86
              have hV91 : V85 (mo + 1) = some (.inl (X.2.1 0, 6, .inl σ.1.1.1)) := by rw [eV89, hv_un (by omega)]; exact hV62
              have hV92 : V85 (mo + 2) = some (.inl (X.2.1 0, 6, .inl (fun j => nI (σ.1.1.2.1 j)))) := by rw [eV89, hv_un (by omega)]; exact hV63
              have hV93 : V85 (mo + 3) = some (.inl (X.2.1 6, 6, .inr (.inr (.inr (.inr rf))))) := by rw [eV89, hv_un (by omega)]; exact hV64
              have hV94 : V85 (mo + 10) = some (.inl (X.2.1 2, 100, .inl σ.2.2.1.2)) := by rw [eV89, hv_un (by omega)]; exact hV65
              have hV95 : V85 (mo + 11) = some (.inl (X.2.1 0, 12, .inl wd)) := by rw [eV89, hv_un (by omega)]; exact hV66
              have hV96 : V85 (mo + 12) = some (.inl (X.2.1 0, 48, .inl td)) := by rw [eV89, hv_un (by omega)]; exact hV67
              have hV97 : V85 (mo + 13) = some (.inl (X.2.1 2, 178, .inl sn)) := by rw [eV89, hv_un (by omega)]; exact hV68
              have hV98 : V85 (mo + 14) = some (.inl (X.2.1 0, 3, .inl ut)) := by rw [eV89, hv_un (by omega)]; exact hV69
              have hV99 : V85 (mo + 20) = some (.inl (X.2.1 0, 16, .inl kn)) := by rw [eV89, hv_un (by omega)]; exact hV70
              have hV100 : V85 (mo + 15) = some (.inl (X.2.1 0, 4, .inl sf)) := by rw [eV89, hv_un (by omega)]; exact hV71
              have hV101 : V85 (mo + 16) = some (.inl (X.2.1 0, 4, .inl sg9)) := by rw [eV89, hv_un (by omega)]; exact hV72
              have hV102 : V85 (mo + 17) = some (.inl (X.2.1 0, 4, .inl sh)) := by rw [eV89, hv_un (by omega)]; exact hV73
              have hV103 : V85 (mo + 18) = some (.inl (X.2.1 0, 8, .inl ef)) := by rw [eV89, hv_un (by omega)]; exact hV74
              have hV104 : V85 (mo + 19) = some (.inl (X.2.1 0, 8, .inl eg)) := by rw [eV89, hv_un (by omega)]; exact hV75
              have hV105 : V85 (mo + 21) = some (.inl (X.2.1 0, 8, .inl bf)) := by rw [eV89, hv_un (by omega)]; exact hV76
              have hV106 : V85 (mo + 22) = some (.inl (X.2.1 0, 8, .inl bg)) := by rw [eV89, hv_un (by omega)]; exact hV77
              have hV107 : V85 (mo + 41) = some (.inl (X.2.1 0, 6, .inl σ.2.2.2.1)) := by rw [eV89, hv_un (by omega)]; exact hV78
              have hV108 : V85 (mo + 42) = some (.inl (X.2.1 0, 6, .inl (fun j => nI (σ.2.2.2.2.1 j)))) := by rw [eV89, hv_un (by omega)]; exact hV79
              have hV109 : V85 (mo + 43) = some (.inl (X.2.1 7, 6, .inr (.inr (.inr (.inr tf))))) := by rw [eV89, hv_un (by omega)]; exact hV80
              have hV110 : V85 (mo + 4 + j1) = some (.inl (X.2.1 0, 16, .inl (σ.1.1.2.2 j1))) := by rw [eV89, hv_un (by omega)]; exact hV81
              have hV112 : V85 mo = some (.inr (7, [.ref (mo + 1), .ref (mo + 2), .ref (mo + 3), .long ab87, .long be88, .ref (mo + 10), .int (nI σ.2.2.1.1), .int pl, .int cl, .ref (mo + 11), .ref (mo + 12), .ref (mo + 13), .int sg, .ref (mo + 14), .ref (mo + 15), .ref (mo + 16), .ref (mo + 17), .int (nI σ.1.2.1.1), .ref (mo + 18), .ref (mo + 19), .int (nI σ.1.2.2.1.1), .ref (mo + 20), .ref (mo + 21), .ref (mo + 22), .int (nI σ.1.2.2.2.1), .int ik, .ref (mo + 23), .ref (mo + 24), .ref (mo + 25), .ref (mo + 26), .ref (mo + 33), .ref (mo + 41), .ref (mo + 42), .ref (mo + 43)])) := by rw [eV89]; exact hv_us
              refine lv_aload_n C0.1 C0.2.1 dX7_beginning_92 rfl (lv_at hl 2 rfl) ?_
              refine lv_iload C0.1 C0.2.1 dX7_beginning_93 (lv_at hl 6 rfl) ?_
              refine hv_cVl C0 w kl_X7_248 kv_X7_partOf rfl hV112 (c_X7_partOf hV112) (by decide) (by decide) rfl hl.1 rfl (Nat.le_of_ble_eq_true rfl) dX7_beginning_95 ⟨Nat.le_refl _, Nat.le_refl _⟩ (fun x113 V114 Hq lq hp115 w => ?_)
              obtain ⟨e9, e8⟩ := hp115
              rw [e9] at w; rw [e8]; clear e9 e8
              exact hv_lret C0 w hr hlk (by rw [sp_beginning, if_pos ⟨ihb4, by rw [kj1]; exact hb9x, hb13, hb17⟩, kj1, kn1, if_neg (by rw [c_50]; decide)]; exact ⟨(fm24.tk hi53 fm90).part k, ⟨ab87, be88, pl, cl, sg, ik, (by rw [eV89]; exact hv_us), hRw.fr (fun q h7 h8 => by rw [eV89, hv_un (by omega), eV60, hv_un (by omega), eV23, hv_un (by omega)]), (by rw [eV89, hv_un (by omega), eV60, hv_un (by omega), eV23, hv_un (by omega)] : _ = V (mo + 10)).trans hTx, hSc.fr (fun q h7 h8 => by rw [eV89, hv_un (by omega), eV60, hv_un (by omega), eV23, hv_un (by omega)]) (fun q h7 h8 => by rw [eV89, hv_un (by omega), eV60, hv_un (by omega), eV23, hv_un (by omega)]), hSe.fr (fun q h7 h8 => by rw [eV89, hv_un (by omega), eV60, hv_un (by omega), eV23, hv_un (by omega)]), hEv.fr (by rw [eV89, hv_un (by omega), eV60, hv_un (by omega), eV23, hv_un (by omega)]) (by rw [eV89, hv_un (by omega), eV60, hv_un (by omega), eV23, hv_un (by omega)]), hBk.fr (by rw [eV89, hv_un (by omega), eV60, hv_un (by omega), eV23, hv_un (by omega)]) (by rw [eV89, hv_un (by omega), eV60, hv_un (by omega), eV23, hv_un (by omega)]), hIm.fr (fun q h7 h8 => by rw [eV89, hv_un (by omega), eV60, hv_un (by omega), eV23, hv_un (by omega)]), hTp.fr (fun q h7 h8 => by rw [eV89, hv_un (by omega), eV60, hv_un (by omega), eV23, hv_un (by omega)])⟩, (fun q h7 => by rw [eV89, hv_un (by omega), eV60, hv_un (by omega), eV23, hv_un (by omega)])⟩) dX7_beginning_98
            · skip
              have hi53 := Classical.byContradiction hi53
              refine lv_if_eq (tgt := 92) C0.1 C0.2.1 dX7_beginning_57 (by decide) (fun _ => ?_) (fun h9 => absurd h9 (by decide))
              refine lv_aload_n C0.1 C0.2.1 dX7_beginning_92 rfl (lv_at hl 0 rfl) ?_
              refine lv_iload C0.1 C0.2.1 dX7_beginning_93 (lv_at hl 4 rfl) ?_
              refine hv_cVl C0 w kl_X7_248 kv_X7_partOf rfl hV46 (c_X7_partOf hV46) (by decide) (by decide) rfl hl.1 rfl (Nat.le_of_ble_eq_true rfl) dX7_beginning_95 ⟨Nat.le_refl _, Nat.le_refl _⟩ (fun x116 V117 Hq lq hp118 w => ?_)
              obtain ⟨e9, e8⟩ := hp118
              rw [e9] at w; rw [e8]; clear e9 e8
              exact hv_lret C0 w hr hlk (by rw [sp_beginning, if_pos ⟨ihb4, by rw [kj1]; exact hb9x, hb13, hb17⟩, kj1, kn1, if_neg (by rw [c_50]; decide)]; exact ⟨(fm24.cut hi53).part k, ⟨ab21, be22, pl, cl, sg, ik, (by rw [eV23]; exact hv_us), hRw.fr (fun q h7 h8 => by rw [eV23, hv_un (by omega)]), (by rw [eV23, hv_un (by omega)] : _ = V (mo + 10)).trans hTx, hSc.fr (fun q h7 h8 => by rw [eV23, hv_un (by omega)]) (fun q h7 h8 => by rw [eV23, hv_un (by omega)]), hSe.fr (fun q h7 h8 => by rw [eV23, hv_un (by omega)]), hEv.fr (by rw [eV23, hv_un (by omega)]) (by rw [eV23, hv_un (by omega)]), hBk.fr (by rw [eV23, hv_un (by omega)]) (by rw [eV23, hv_un (by omega)]), hIm.fr (fun q h7 h8 => by rw [eV23, hv_un (by omega)]), hTp.fr (fun q h7 h8 => by rw [eV23, hv_un (by omega)])⟩, (fun q h7 => by rw [eV23, hv_un (by omega)])⟩) dX7_beginning_98
        · skip
          refine lv_if_ne (tgt := 42) C0.1 C0.2.1 dX7_beginning_35 (by decide) (fun h9 => absurd h9 (by decide)) (fun _ => ?_)
          refine lv_ldc2 C0.1 C0.2.1 C0.2.2.2.1 (C0.2.2.2.2.1 _ kk_X7_243) dX7_beginning_38 ?_
          exact hv_lret C0 w hr hlk (by rw [sp_beginning, if_neg (fun h9 => hb17 (h9.2.2.2))]; exact ⟨rfl, hM, hv_out.rf⟩) dX7_beginning_41
      · skip
        refine lv_if_eq (tgt := 38) C0.1 C0.2.1 dX7_beginning_27 (by decide) (fun _ => ?_) (fun h9 => absurd h9 (by decide))
        refine lv_ldc2 C0.1 C0.2.1 C0.2.2.2.1 (C0.2.2.2.2.1 _ kk_X7_243) dX7_beginning_38 ?_
        exact hv_lret C0 w hr hlk (by rw [sp_beginning, if_neg (fun h9 => hb13 (h9.2.2.1))]; exact ⟨rfl, hM, hv_out.rf⟩) dX7_beginning_41
    · skip
      refine lv_if_eq (tgt := 38) C0.1 C0.2.1 dX7_beginning_18 (by decide) (fun _ => ?_) (fun h9 => absurd h9 (by decide))
      refine lv_ldc2 C0.1 C0.2.1 C0.2.2.2.1 (C0.2.2.2.2.1 _ kk_X7_243) dX7_beginning_38 ?_
      exact hv_lret C0 w hr hlk (by rw [sp_beginning, if_neg (fun h9 => hb9 (by have h8 := h9.2.1; rw [kj1] at h8; exact h8))]; exact ⟨rfl, hM, hv_out.rf⟩) dX7_beginning_41
  · skip
    refine lv_if_eq (tgt := 38) C0.1 C0.2.1 dX7_beginning_4 (by decide) (fun _ => ?_) (fun h9 => absurd h9 (by decide))
    refine lv_ldc2 C0.1 C0.2.1 C0.2.2.2.1 (C0.2.2.2.2.1 _ kk_X7_243) dX7_beginning_38 ?_
    exact hv_lret C0 w hr hlk (by rw [sp_beginning, if_neg (fun h9 => hb4 h9.1)]; exact ⟨rfl, hM, hv_out.rf⟩) dX7_beginning_41

theorem hs_ul {u lo : Int32} (hu : sp_in u 1 999999) (hl : sp_in lo 1 999999) (h : u < lo) : -9223372036854775808 < u.toInt64.toInt ∧ 0 ≤ lo.toInt64.toInt ∧ fx_lt1 (fx_become u.toInt64 lo.toInt64) ∧ fl_a u.toInt64 lo.toInt64 = (fx_become u.toInt64 lo.toInt64).1 ∧ fl_b u.toInt64 lo.toInt64 = (fx_become u.toInt64 lo.toInt64).2.1 := by
  have e1 : (1 : Int32).toInt = 1 := by decide
  have e2 : (999999 : Int32).toInt = 999999 := by decide
  have a1 := Int32.le_iff_toInt_le.mp hu.1
  have a2 := Int32.le_iff_toInt_le.mp hu.2
  have a3 := Int32.le_iff_toInt_le.mp hl.1
  have a4 := Int32.le_iff_toInt_le.mp hl.2
  have a5 := Int32.lt_iff_toInt_lt.mp h
  rw [e1] at a1 a3
  rw [e2] at a2 a4
  have c1 := Int32.toInt_toInt64 u
  have c2 := Int32.toInt_toInt64 lo
  have q1 : -9223372036854775808 < u.toInt64.toInt := by omega
  have q2 : 0 ≤ lo.toInt64.toInt := by omega
  have q3 := fx_become_ok q1 q2
  refine ⟨q1, q2, fx_lt1_of (by omega) (by omega) q3 (fun h9 => ?_)⟩
  have hx : 0 < lo.toInt64.toInt := by omega
  have ha := fx_abs_i q1
  have hnd := fx_nd q1 hx
  have dne : ¬ fl_d u.toInt64 lo.toInt64 = 0 := by
    unfold fl_d
    rw [if_neg (fun e => by rw [e, i64_0] at hx; omega)]
    intro e
    have := hnd.1
    rw [e, i64_0] at this
    omega
  have e9 : fl_d u.toInt64 lo.toInt64 = fx_gd 126 (fx_abs u.toInt64) lo.toInt64 := if_neg (fun e => by rw [e, i64_0] at hx; omega)
  have f1 : fl_a u.toInt64 lo.toInt64 = u.toInt64 / fl_d u.toInt64 lo.toInt64 := if_neg dne
  have f2 : fl_c u.toInt64 lo.toInt64 = lo.toInt64 / fl_d u.toInt64 lo.toInt64 := if_neg dne
  rw [← e9] at hnd
  obtain ⟨d, hd⟩ : ∃ d, d = fl_d u.toInt64 lo.toInt64 := ⟨_, rfl⟩
  rw [← hd] at hnd f1 f2
  have g1 := i64_div (a := u.toInt64) (b := d) (by omega) hnd.1
  have g2 := i64_div (a := lo.toInt64) (b := d) (by omega) hnd.1
  have g3 : u.toInt64.toInt / d.toInt ≤ u.toInt64.toInt := Int.ediv_le_self _ (by omega)
  have g4 : 0 ≤ u.toInt64.toInt / d.toInt := Int.ediv_nonneg (by omega) (by have := hnd.1; omega)
  have g5 : lo.toInt64.toInt / d.toInt ≤ lo.toInt64.toInt := Int.ediv_le_self _ (by omega)
  have g6 := i64_dvd hnd.1 hnd.2.2 (by omega)
  have k1 : ¬ 1000000000 < fx_abs (fl_a u.toInt64 lo.toInt64) := by
    rw [f1]
    exact (fx_abs_lt (by omega)).mpr (by omega)
  have k2 : ¬ 1000000000 < fl_c u.toInt64 lo.toInt64 := by
    rw [f2, Int64.lt_iff_toInt_lt, i64_M]
    omega
  unfold fl_b at h9
  rw [if_neg (fun h8 => h8.elim k1 k2), f2] at h9
  rw [h9, i64_0] at g6
  omega
set_option maxHeartbeats 4000000 in
set_option maxRecDepth 100000 in
theorem m_X7_spread {l : Launch} {X : hv_X} {V : hv_V} {mo : Nat} {σ : hs_S} (hM : okM X V mo σ) (hB : hs_b σ) {r k u lo : Int32} : hv_Mi l X 220 yX7_spread cX7_spread 5 .int V [.ref mo, .int r, .int k, .int u, .int lo] (fun y V1 => y = (sp_spread σ r k u lo).1 ∧ okM X V1 mo (sp_spread σ r k u lo).2 ∧ hv_out V V1 mo (mo + 50)) := by
  refine hv_enter (by decide) (Nat.le_of_ble_eq_true rfl) ?_
  intro p e s m below meth c ls C0 hr hlk hnm w hl
  have hl : lv_has ls 5 [(0, .ref mo), (1, .int r), (2, .int k), (3, .int u), (4, .int lo)] := hl
  obtain ⟨ab, be, pl, cl, sg, ik, hO, hRw, hTx, hSc, hSe, hEv, hBk, hIm, hTp⟩ := id hM
  obtain ⟨r1, r2, ⟨rf, r3, r4⟩, r5⟩ := id hRw
  obtain ⟨⟨wd, s1⟩, ⟨td, s2⟩, ⟨sn, s3⟩, ⟨ut, s4⟩, kn, s5⟩ := id hSc
  obtain ⟨sf, sg9, sh, e1, e2, e3, ea⟩ := id hSe
  obtain ⟨ef, eg, v1, v2, va⟩ := id hEv
  obtain ⟨bf, bg, b1, b2, ba⟩ := id hBk
  obtain ⟨t1, t2, ⟨tf, t3, t4⟩, t5⟩ := id hTp
  have hbR := hB.1.1
  refine lv_iload_n C0.1 C0.2.1 dX7_spread_0 rfl (lv_at hl 1 rfl) ?_
  refine hv_cSi (As := [.int r]) C0 w kl_X7_135 ks_X7_isRow (c_X7_isRow) (by decide) (by decide) rfl hl.1 rfl (Nat.le_of_ble_eq_true rfl) dX7_spread_1 ⟨Nat.le_refl _, Nat.le_refl _⟩ (fun x1 V2 Hq lq hp3 w => ?_)
  obtain ⟨e9, hz9⟩ := hp3
  rw [e9] at w; clear e9
  rcases hz9 with ⟨rfl, hb4⟩ | ⟨rfl, hb4⟩
  · skip
    have ihb4 := hb4
    obtain ⟨j1, hj1, rfl⟩ := sp_inN (k := 5) (by decide) hb4
    have kj1 : (nI j1).toNatClampNeg = j1 := nI_clamp (by omega)
    have hN_j1 : V (mo + 4 + j1) = some (nE X (σ.1.1.2.2 j1)) := r5 j1 hj1
    have hn_j1 : σ.1.1.2.1 j1 ≤ 16 := (hbR j1 hj1).2.1
    refine lv_if_eq (tgt := 14) C0.1 C0.2.1 dX7_spread_4 (by decide) (fun h9 => absurd h9 (by decide)) (fun _ => ?_)
    refine lv_iload_n C0.1 C0.2.1 dX7_spread_7 rfl (lv_at hl 2 rfl) ?_
    refine hv_cSi (As := [.int k]) C0 w kl_X7_139 ks_X7_isKind (c_X7_isKind) (by decide) (by decide) rfl hl.1 rfl (Nat.le_of_ble_eq_true rfl) dX7_spread_8 ⟨Nat.le_refl _, Nat.le_refl _⟩ (fun x5 V6 Hq lq hp7 w => ?_)
    obtain ⟨e9, hz9⟩ := hp7
    rw [e9] at w; clear e9
    rcases hz9 with ⟨rfl, hb8⟩ | ⟨rfl, hb8⟩
    · skip
      refine lv_if_ne (tgt := 16) C0.1 C0.2.1 dX7_spread_11 (by decide) (fun _ => ?_) (fun h9 => absurd h9 (by decide))
      refine lv_iload_n C0.1 C0.2.1 dX7_spread_16 rfl (lv_at hl 3 rfl) ?_
      refine lv_iconst (v := 1) C0.1 C0.2.1 dX7_spread_17 (by decide) ?_
      refine lv_ldc C0.1 C0.2.1 C0.2.2.2.1 (C0.2.2.2.2.1 _ kk_X7_142) dX7_spread_18 ?_
      refine hv_cSi (As := [.int u, .int 1, .int 999999]) C0 w kl_X7_89 ks_X7_in (c_X7_in) (by decide) (by decide) rfl hl.1 rfl (Nat.le_of_ble_eq_true rfl) dX7_spread_20 ⟨Nat.le_refl _, Nat.le_refl _⟩ (fun x9 V10 Hq lq hp11 w => ?_)
      obtain ⟨e9, hz9⟩ := hp11
      rw [e9] at w; clear e9
      rcases hz9 with ⟨rfl, hb12⟩ | ⟨rfl, hb12⟩
      · skip
        refine lv_if_eq (tgt := 43) C0.1 C0.2.1 dX7_spread_23 (by decide) (fun h9 => absurd h9 (by decide)) (fun _ => ?_)
        refine lv_iload C0.1 C0.2.1 dX7_spread_26 (lv_at hl 4 rfl) ?_
        refine lv_iconst (v := 1) C0.1 C0.2.1 dX7_spread_28 (by decide) ?_
        refine lv_ldc C0.1 C0.2.1 C0.2.2.2.1 (C0.2.2.2.2.1 _ kk_X7_142) dX7_spread_29 ?_
        refine hv_cSi (As := [.int lo, .int 1, .int 999999]) C0 w kl_X7_89 ks_X7_in (c_X7_in) (by decide) (by decide) rfl hl.1 rfl (Nat.le_of_ble_eq_true rfl) dX7_spread_31 ⟨Nat.le_refl _, Nat.le_refl _⟩ (fun x13 V14 Hq lq hp15 w => ?_)
        obtain ⟨e9, hz9⟩ := hp15
        rw [e9] at w; clear e9
        rcases hz9 with ⟨rfl, hb16⟩ | ⟨rfl, hb16⟩
        · skip
          refine lv_if_eq (tgt := 43) C0.1 C0.2.1 dX7_spread_34 (by decide) (fun h9 => absurd h9 (by decide)) (fun _ => ?_)
          refine lv_iload_n C0.1 C0.2.1 dX7_spread_37 rfl (lv_at hl 3 rfl) ?_
          refine lv_iload C0.1 C0.2.1 dX7_spread_38 (lv_at hl 4 rfl) ?_
          refine lv_icmp_lt (tgt := 46) C0.1 C0.2.1 dX7_spread_40 (by decide) (fun c_40 => ?_) (fun c_40 => ?_)
          · skip
            have hbU := hb12
            have hbL := hb16
            have hlt9 := c_40
            refine lv_aload_n C0.1 C0.2.1 dX7_spread_46 rfl (lv_at hl 0 rfl) ?_
            refine gf_X7_11 C0 w hO rfl dX7_spread_47 ?_
            refine lv_iload_n C0.1 C0.2.1 dX7_spread_50 rfl (lv_at hl 1 rfl) ?_
            refine lv_iload_n C0.1 C0.2.1 dX7_spread_51 rfl (lv_at hl 2 rfl) ?_
            refine hv_iast C0 w r1 (hn_in hj1 (by decide)) dX7_spread_52 (fun Hq lq w => ?_)
            have hc17 : (nI j1).toNatClampNeg = j1 := nI_clamp (by omega)
            rw [hc17] at w
            obtain ⟨V18, eV19⟩ : ∃ W9, W9 = hv_up V (mo + 1) (.inl (X.2.1 0, 6, .inl (upd (σ.1.1.1) j1 k))) := ⟨_, rfl⟩
            have w : hv_w X s V18 Hq lq := by rw [eV19]; exact w
            have hV20 : V18 mo = some (.inr (7, [.ref (mo + 1), .ref (mo + 2), .ref (mo + 3), .long ab, .long be, .ref (mo + 10), .int (nI σ.2.2.1.1), .int pl, .int cl, .ref (mo + 11), .ref (mo + 12), .ref (mo + 13), .int sg, .ref (mo + 14), .ref (mo + 15), .ref (mo + 16), .ref (mo + 17), .int (nI σ.1.2.1.1), .ref (mo + 18), .ref (mo + 19), .int (nI σ.1.2.2.1.1), .ref (mo + 20), .ref (mo + 21), .ref (mo + 22), .int (nI σ.1.2.2.2.1), .int ik, .ref (mo + 23), .ref (mo + 24), .ref (mo + 25), .ref (mo + 26), .ref (mo + 33), .ref (mo + 41), .ref (mo + 42), .ref (mo + 43)])) := by rw [eV19, hv_un (by omega)]; exact hO
            have hV22 : V18 (mo + 2) = some (.inl (X.2.1 0, 6, .inl (fun j => nI (σ.1.1.2.1 j)))) := by rw [eV19, hv_un (by omega)]; exact r2
            have hV23 : V18 (mo + 3) = some (.inl (X.2.1 6, 6, .inr (.inr (.inr (.inr rf))))) := by rw [eV19, hv_un (by omega)]; exact r3
            have hV24 : V18 (mo + 10) = some (.inl (X.2.1 2, 100, .inl σ.2.2.1.2)) := by rw [eV19, hv_un (by omega)]; exact hTx
            have hV25 : V18 (mo + 11) = some (.inl (X.2.1 0, 12, .inl wd)) := by rw [eV19, hv_un (by omega)]; exact s1
            have hV26 : V18 (mo + 12) = some (.inl (X.2.1 0, 48, .inl td)) := by rw [eV19, hv_un (by omega)]; exact s2
            have hV27 : V18 (mo + 13) = some (.inl (X.2.1 2, 178, .inl sn)) := by rw [eV19, hv_un (by omega)]; exact s3
            have hV28 : V18 (mo + 14) = some (.inl (X.2.1 0, 3, .inl ut)) := by rw [eV19, hv_un (by omega)]; exact s4
            have hV29 : V18 (mo + 20) = some (.inl (X.2.1 0, 16, .inl kn)) := by rw [eV19, hv_un (by omega)]; exact s5
            have hV30 : V18 (mo + 15) = some (.inl (X.2.1 0, 4, .inl sf)) := by rw [eV19, hv_un (by omega)]; exact e1
            have hV31 : V18 (mo + 16) = some (.inl (X.2.1 0, 4, .inl sg9)) := by rw [eV19, hv_un (by omega)]; exact e2
            have hV32 : V18 (mo + 17) = some (.inl (X.2.1 0, 4, .inl sh)) := by rw [eV19, hv_un (by omega)]; exact e3
            have hV33 : V18 (mo + 18) = some (.inl (X.2.1 0, 8, .inl ef)) := by rw [eV19, hv_un (by omega)]; exact v1
            have hV34 : V18 (mo + 19) = some (.inl (X.2.1 0, 8, .inl eg)) := by rw [eV19, hv_un (by omega)]; exact v2
            have hV35 : V18 (mo + 21) = some (.inl (X.2.1 0, 8, .inl bf)) := by rw [eV19, hv_un (by omega)]; exact b1
            have hV36 : V18 (mo + 22) = some (.inl (X.2.1 0, 8, .inl bg)) := by rw [eV19, hv_un (by omega)]; exact b2
            have hV37 : V18 (mo + 41) = some (.inl (X.2.1 0, 6, .inl σ.2.2.2.1)) := by rw [eV19, hv_un (by omega)]; exact t1
            have hV38 : V18 (mo + 42) = some (.inl (X.2.1 0, 6, .inl (fun j => nI (σ.2.2.2.2.1 j)))) := by rw [eV19, hv_un (by omega)]; exact t2
            have hV39 : V18 (mo + 43) = some (.inl (X.2.1 7, 6, .inr (.inr (.inr (.inr tf))))) := by rw [eV19, hv_un (by omega)]; exact t3
            have hV40 : V18 (mo + 4 + j1) = some (.inl (X.2.1 0, 16, .inl (σ.1.1.2.2 j1))) := by rw [eV19, hv_un (by omega)]; exact hN_j1
            have hV41 : V18 (mo + 1) = some (.inl (X.2.1 0, 6, .inl (upd (σ.1.1.1) j1 k))) := by rw [eV19]; exact hv_us
            refine lv_aload_n C0.1 C0.2.1 dX7_spread_53 rfl (lv_at hl 0 rfl) ?_
            refine lv_iload_n C0.1 C0.2.1 dX7_spread_54 rfl (lv_at hl 3 rfl) ?_
            refine lv_i2l (v := u.toInt64) C0.1 C0.2.1 dX7_spread_55 rfl ?_
            refine lv_iload C0.1 C0.2.1 dX7_spread_56 (lv_at hl 4 rfl) ?_
            refine lv_i2l (v := lo.toInt64) C0.1 C0.2.1 dX7_spread_58 rfl ?_
            have bd9 := hs_ul hbU hbL hlt9
            refine hv_cVv C0 w kl_X7_116 kv_X7_lay rfl hV20 (c_X7_lay hV20 (a := u.toInt64) (b := lo.toInt64) bd9.1 bd9.2.1) (by decide) (by decide) rfl hl.1 rfl (Nat.le_of_ble_eq_true rfl) dX7_spread_59 ⟨Nat.le_refl _, Nat.le_refl _⟩ (fun V43 Hq lq hp44 w => ?_)
            have hV46 : V43 (mo + 2) = some (.inl (X.2.1 0, 6, .inl (fun j => nI (σ.1.1.2.1 j)))) := by rw [hp44, hv_un (by omega)]; exact hV22
            have hV47 : V43 (mo + 3) = some (.inl (X.2.1 6, 6, .inr (.inr (.inr (.inr rf))))) := by rw [hp44, hv_un (by omega)]; exact hV23
            have hV48 : V43 (mo + 10) = some (.inl (X.2.1 2, 100, .inl σ.2.2.1.2)) := by rw [hp44, hv_un (by omega)]; exact hV24
            have hV49 : V43 (mo + 11) = some (.inl (X.2.1 0, 12, .inl wd)) := by rw [hp44, hv_un (by omega)]; exact hV25
            have hV50 : V43 (mo + 12) = some (.inl (X.2.1 0, 48, .inl td)) := by rw [hp44, hv_un (by omega)]; exact hV26
            have hV51 : V43 (mo + 13) = some (.inl (X.2.1 2, 178, .inl sn)) := by rw [hp44, hv_un (by omega)]; exact hV27
            have hV52 : V43 (mo + 14) = some (.inl (X.2.1 0, 3, .inl ut)) := by rw [hp44, hv_un (by omega)]; exact hV28
            have hV53 : V43 (mo + 20) = some (.inl (X.2.1 0, 16, .inl kn)) := by rw [hp44, hv_un (by omega)]; exact hV29
            have hV54 : V43 (mo + 15) = some (.inl (X.2.1 0, 4, .inl sf)) := by rw [hp44, hv_un (by omega)]; exact hV30
            have hV55 : V43 (mo + 16) = some (.inl (X.2.1 0, 4, .inl sg9)) := by rw [hp44, hv_un (by omega)]; exact hV31
            have hV56 : V43 (mo + 17) = some (.inl (X.2.1 0, 4, .inl sh)) := by rw [hp44, hv_un (by omega)]; exact hV32
            have hV57 : V43 (mo + 18) = some (.inl (X.2.1 0, 8, .inl ef)) := by rw [hp44, hv_un (by omega)]; exact hV33
            have hV58 : V43 (mo + 19) = some (.inl (X.2.1 0, 8, .inl eg)) := by rw [hp44, hv_un (by omega)]; exact hV34
            have hV59 : V43 (mo + 21) = some (.inl (X.2.1 0, 8, .inl bf)) := by rw [hp44, hv_un (by omega)]; exact hV35
            have hV60 : V43 (mo + 22) = some (.inl (X.2.1 0, 8, .inl bg)) := by rw [hp44, hv_un (by omega)]; exact hV36
            have hV61 : V43 (mo + 41) = some (.inl (X.2.1 0, 6, .inl σ.2.2.2.1)) := by rw [hp44, hv_un (by omega)]; exact hV37
            have hV62 : V43 (mo + 42) = some (.inl (X.2.1 0, 6, .inl (fun j => nI (σ.2.2.2.2.1 j)))) := by rw [hp44, hv_un (by omega)]; exact hV38
            have hV63 : V43 (mo + 43) = some (.inl (X.2.1 7, 6, .inr (.inr (.inr (.inr tf))))) := by rw [hp44, hv_un (by omega)]; exact hV39
            have hV64 : V43 (mo + 4 + j1) = some (.inl (X.2.1 0, 16, .inl (σ.1.1.2.2 j1))) := by rw [hp44, hv_un (by omega)]; exact hV40
            have hV65 : V43 (mo + 1) = some (.inl (X.2.1 0, 6, .inl (upd (σ.1.1.1) j1 k))) := by rw [hp44, hv_un (by omega)]; exact hV41
            have hV66 : V43 mo = some (.inr (7, [.ref (mo + 1), .ref (mo + 2), .ref (mo + 3), .long (fl_a u.toInt64 lo.toInt64), .long (fl_b u.toInt64 lo.toInt64), .ref (mo + 10), .int (nI σ.2.2.1.1), .int pl, .int cl, .ref (mo + 11), .ref (mo + 12), .ref (mo + 13), .int sg, .ref (mo + 14), .ref (mo + 15), .ref (mo + 16), .ref (mo + 17), .int (nI σ.1.2.1.1), .ref (mo + 18), .ref (mo + 19), .int (nI σ.1.2.2.1.1), .ref (mo + 20), .ref (mo + 21), .ref (mo + 22), .int (nI σ.1.2.2.2.1), .int ik, .ref (mo + 23), .ref (mo + 24), .ref (mo + 25), .ref (mo + 26), .ref (mo + 33), .ref (mo + 41), .ref (mo + 42), .ref (mo + 43)])) := by rw [hp44]; exact hv_us
            refine lv_aload_n C0.1 C0.2.1 dX7_spread_62 rfl (lv_at hl 0 rfl) ?_
            refine lv_iload_n C0.1 C0.2.1 dX7_spread_63 rfl (lv_at hl 1 rfl) ?_
            refine hv_cVi C0 w kl_X7_143 kv_X7_spreads rfl hV66 (c_X7_spreads hV66 hV65 hV46 hV47 (r4 j1 hj1) hj1 hV64 bd9.2.2.1 bd9.2.2.2.1 bd9.2.2.2.2) (by decide) (by decide) rfl hl.1 rfl (Nat.le_of_ble_eq_true rfl) dX7_spread_64 ⟨Nat.le_refl _, Nat.le_refl _⟩ (fun x67 V68 Hq lq hp69 w => ?_)
            obtain ⟨ab70, be71, eV72, ey73⟩ := hp69
            exact hv_iret C0 w hr hlk (by rw [sp_spread, if_pos ⟨ihb4, hb8⟩, if_pos ⟨hb12, hb16, c_40⟩, kj1, sp_sprd]; exact ⟨by rw [ey73, hs_uself], ⟨ab70, be71, pl, cl, sg, ik, (by rw [eV72, hv_un (by omega), hv_un (by omega)]; exact hv_us), hRw.set hj1 (by rw [eV72, hv_un (by omega), hv_un (by omega), hv_un (by omega), hp44, hv_un (by omega), eV19]; exact hv_us) (by rw [eV72, hs_uself]; exact hv_us) (by rw [eV72, hv_un (by omega), hs_uself]; exact hv_us) (by rw [eV72, hv_un (by omega), hv_un (by omega), hv_un (by omega), hp44, hv_un (by omega), eV19, hv_un (by omega)]) (fun i9 hi9 hne9 => by rw [eV72, hv_un (by omega), hv_un (by omega), hv_un (by omega), hp44, hv_un (by omega), eV19, hv_un (by omega)]), (by rw [eV72, hv_un (by omega), hv_un (by omega), hv_un (by omega), hp44, hv_un (by omega), eV19, hv_un (by omega)] : _ = V (mo + 10)).trans hTx, hSc.fr (fun q h7 h8 => by rw [eV72, hv_un (by omega), hv_un (by omega), hv_un (by omega), hp44, hv_un (by omega), eV19, hv_un (by omega)]) (fun q h7 h8 => by rw [eV72, hv_un (by omega), hv_un (by omega), hv_un (by omega), hp44, hv_un (by omega), eV19, hv_un (by omega)]), hSe.fr (fun q h7 h8 => by rw [eV72, hv_un (by omega), hv_un (by omega), hv_un (by omega), hp44, hv_un (by omega), eV19, hv_un (by omega)]), hEv.fr (by rw [eV72, hv_un (by omega), hv_un (by omega), hv_un (by omega), hp44, hv_un (by omega), eV19, hv_un (by omega)]) (by rw [eV72, hv_un (by omega), hv_un (by omega), hv_un (by omega), hp44, hv_un (by omega), eV19, hv_un (by omega)]), hBk.fr (by rw [eV72, hv_un (by omega), hv_un (by omega), hv_un (by omega), hp44, hv_un (by omega), eV19, hv_un (by omega)]) (by rw [eV72, hv_un (by omega), hv_un (by omega), hv_un (by omega), hp44, hv_un (by omega), eV19, hv_un (by omega)]), hIm.fr (fun q h7 h8 => by rw [eV72, hv_un (by omega), hv_un (by omega), hv_un (by omega), hp44, hv_un (by omega), eV19, hv_un (by omega)]), hTp.fr (fun q h7 h8 => by rw [eV72, hv_un (by omega), hv_un (by omega), hv_un (by omega), hp44, hv_un (by omega), eV19, hv_un (by omega)])⟩, (fun q h7 => by rw [eV72, hv_un (by omega), hv_un (by omega), hv_un (by omega), hp44, hv_un (by omega), eV19, hv_un (by omega)])⟩) dX7_spread_67
          · skip
            refine lv_bipush (v := -2) C0.1 C0.2.1 dX7_spread_43 (by decide) ?_
            exact hv_iret C0 w hr hlk (by rw [sp_spread, if_pos ⟨ihb4, hb8⟩, if_neg (fun h9 => c_40 h9.2.2)]; exact ⟨rfl, hM, hv_out.rf⟩) dX7_spread_45
        · skip
          refine lv_if_eq (tgt := 43) C0.1 C0.2.1 dX7_spread_34 (by decide) (fun _ => ?_) (fun h9 => absurd h9 (by decide))
          refine lv_bipush (v := -2) C0.1 C0.2.1 dX7_spread_43 (by decide) ?_
          exact hv_iret C0 w hr hlk (by rw [sp_spread, if_pos ⟨ihb4, hb8⟩, if_neg (fun h9 => hb16 h9.2.1)]; exact ⟨rfl, hM, hv_out.rf⟩) dX7_spread_45
      · skip
        refine lv_if_eq (tgt := 43) C0.1 C0.2.1 dX7_spread_23 (by decide) (fun _ => ?_) (fun h9 => absurd h9 (by decide))
        refine lv_bipush (v := -2) C0.1 C0.2.1 dX7_spread_43 (by decide) ?_
        exact hv_iret C0 w hr hlk (by rw [sp_spread, if_pos ⟨ihb4, hb8⟩, if_neg (fun h9 => hb12 h9.1)]; exact ⟨rfl, hM, hv_out.rf⟩) dX7_spread_45
    · skip
      refine lv_if_ne (tgt := 16) C0.1 C0.2.1 dX7_spread_11 (by decide) (fun h9 => absurd h9 (by decide)) (fun _ => ?_)
      refine lv_iconst (v := -1) C0.1 C0.2.1 dX7_spread_14 (by decide) ?_
      exact hv_iret C0 w hr hlk (by rw [sp_spread, if_neg (fun h9 => hb8 h9.2)]; exact ⟨rfl, hM, hv_out.rf⟩) dX7_spread_15
  · skip
    refine lv_if_eq (tgt := 14) C0.1 C0.2.1 dX7_spread_4 (by decide) (fun _ => ?_) (fun h9 => absurd h9 (by decide))
    refine lv_iconst (v := -1) C0.1 C0.2.1 dX7_spread_14 (by decide) ?_
    exact hv_iret C0 w hr hlk (by rw [sp_spread, if_neg (fun h9 => hb4 h9.1)]; exact ⟨rfl, hM, hv_out.rf⟩) dX7_spread_15

