set_option maxHeartbeats 4000000 in
set_option maxRecDepth 100000 in
theorem law_see {p : Program} {l : Launch} {e : Env} {s : State} {m : MethodId} {args : Array Value} {below : List Frame} {meth : Method} {c : Code} {X : hv_X} {V : hv_V} {σ : hs_S} {x b L i : Nat} {xs : Nat → Int32} {Hq : Heap} {lq : List Loc} {ls : Array Slot} {Q : State → Prop} (C0 : hv_C X p s m args c cL_law 4 RL) (hXs : va_X b L xs s s.heap) (hbl : b < s.heap.size) (hbA : ¬ X.2.2.1 b) (hx : okX X V x σ) (hm : okM X V (x + 92) σ) (hB : hs_b σ) (w : hv_w X s V Hq lq) (hl : lv_has ls 4 [(0, .ref b), (1, .ref x), (2, .ref (x + 92)), (3, .int (nI i))]) (hi : i + 6 ≤ L) (hL : L ≤ 3072) (kk : ∀ (σ1 : hs_S) (V1 : hv_V) (Hq : Heap) (lq : List Loc), okX X V1 x σ1 → okM X V1 (x + 92) σ1 → hs_b σ1 → hv_w X s V1 Hq lq → W p l e (hv_rm 2048 600000 7302250) s m args below meth c Hq lq 142 2151 Q (F0 m 1317 ls [])) : W p l e (hv_rm 2048 600000 7302250) s m args below meth c Hq lq 142 2151 Q (F0 m 746 ls []) := by
  obtain ⟨kk0, hX0, -⟩ := id hx
  refine lv_aload_n C0.1 C0.2.1 dL_law_746 rfl (lv_at hl 1 rfl) ?_
  refine lv_aload_n C0.1 C0.2.1 dL_law_747 rfl (lv_at hl 0 rfl) ?_
  refine lv_iload_n C0.1 C0.2.1 dL_law_748 rfl (lv_at hl 3 rfl) ?_
  refine lv_iconst (v := 1) C0.1 C0.2.1 dL_law_749 (by decide) ?_
  refine lv_iadd C0.1 C0.2.1 dL_law_750 ?_
  rw [show nI i + 1 = nI (i + 1) from nI_add i 1]
  refine va_sld C0.1 C0.2.1 hXs hbl hbA w.2 (hn_in (by omega) (by omega)) dL_law_751 ?_
  refine lv_aload_n C0.1 C0.2.1 dL_law_752 rfl (lv_at hl 0 rfl) ?_
  refine lv_iload_n C0.1 C0.2.1 dL_law_753 rfl (lv_at hl 3 rfl) ?_
  refine lv_iconst (v := 2) C0.1 C0.2.1 dL_law_754 (by decide) ?_
  refine lv_iadd C0.1 C0.2.1 dL_law_755 ?_
  rw [show nI i + 2 = nI (i + 2) from nI_add i 2]
  refine va_sld C0.1 C0.2.1 hXs hbl hbA w.2 (hn_in (by omega) (by omega)) dL_law_756 ?_
  refine lv_aload_n C0.1 C0.2.1 dL_law_757 rfl (lv_at hl 0 rfl) ?_
  refine lv_iload_n C0.1 C0.2.1 dL_law_758 rfl (lv_at hl 3 rfl) ?_
  refine lv_iconst (v := 3) C0.1 C0.2.1 dL_law_759 (by decide) ?_
  refine lv_iadd C0.1 C0.2.1 dL_law_760 ?_
  rw [show nI i + 3 = nI (i + 3) from nI_add i 3]
  refine va_sld C0.1 C0.2.1 hXs hbl hbA w.2 (hn_in (by omega) (by omega)) dL_law_761 ?_
  refine hv_cVi C0 w kl_L_84 kv_X6_see rfl hX0 (m_X6_see hx hB) (by decide) (by decide) rfl hl.1 rfl (Nat.le_of_ble_eq_true rfl) dL_law_762 ⟨Nat.le_of_ble_eq_true rfl, Nat.le_of_ble_eq_true rfl⟩ (fun x1 V2 Hq lq hp3 w => ?_)
  obtain ⟨ey, hx1, ho1⟩ := hp3
  have hm1 : okM X V2 (x + 92) σ := hm.fr (fun q h1 h2 => ho1 q (Or.inr h1))
  obtain ⟨ab, be, pl, cl, sg, ik, hM0, -⟩ := id hm1
  refine lv_aload_n C0.1 C0.2.1 dL_law_765 rfl (lv_at hl 2 rfl) ?_
  refine lv_aload_n C0.1 C0.2.1 dL_law_766 rfl (lv_at hl 0 rfl) ?_
  refine lv_iload_n C0.1 C0.2.1 dL_law_767 rfl (lv_at hl 3 rfl) ?_
  refine lv_iconst (v := 1) C0.1 C0.2.1 dL_law_768 (by decide) ?_
  refine lv_iadd C0.1 C0.2.1 dL_law_769 ?_
  rw [show nI i + 1 = nI (i + 1) from nI_add i 1]
  refine va_sld C0.1 C0.2.1 hXs hbl hbA w.2 (hn_in (by omega) (by omega)) dL_law_770 ?_
  refine lv_aload_n C0.1 C0.2.1 dL_law_771 rfl (lv_at hl 0 rfl) ?_
  refine lv_iload_n C0.1 C0.2.1 dL_law_772 rfl (lv_at hl 3 rfl) ?_
  refine lv_iconst (v := 2) C0.1 C0.2.1 dL_law_773 (by decide) ?_
  refine lv_iadd C0.1 C0.2.1 dL_law_774 ?_
  rw [show nI i + 2 = nI (i + 2) from nI_add i 2]
  refine va_sld C0.1 C0.2.1 hXs hbl hbA w.2 (hn_in (by omega) (by omega)) dL_law_775 ?_
  refine lv_aload_n C0.1 C0.2.1 dL_law_776 rfl (lv_at hl 0 rfl) ?_
  refine lv_iload_n C0.1 C0.2.1 dL_law_777 rfl (lv_at hl 3 rfl) ?_
  refine lv_iconst (v := 3) C0.1 C0.2.1 dL_law_778 (by decide) ?_
  refine lv_iadd C0.1 C0.2.1 dL_law_779 ?_
  rw [show nI i + 3 = nI (i + 3) from nI_add i 3]
  refine va_sld C0.1 C0.2.1 hXs hbl hbA w.2 (hn_in (by omega) (by omega)) dL_law_780 ?_
  refine hv_cVi C0 w kl_L_87 kv_X7_see rfl hM0 (m_X7_see hm1 hB) (by decide) (by decide) rfl hl.1 rfl (Nat.le_of_ble_eq_true rfl) dL_law_781 ⟨Nat.le_of_ble_eq_true rfl, Nat.le_of_ble_eq_true rfl⟩ (fun x4 V5 Hq lq hp6 w => ?_)
  obtain ⟨ez, hm2, ho2⟩ := hp6
  have hx2 := hx1.fr (V1 := V5) (fun q h1 h2 => ho2 q (Or.inl h2))
  refine lv_icmp_eq (tgt := 1317) C0.1 C0.2.1 dL_law_784 (by decide) (fun c_784 => ?_) (fun c_784 => absurd (ey.trans ez.symm) c_784)
  exact kk _ _ _ _ hx2 hm2 (hb_see hB _ _ _) w

set_option maxHeartbeats 4000000 in
set_option maxRecDepth 100000 in
theorem law_fits {p : Program} {l : Launch} {e : Env} {s : State} {m : MethodId} {args : Array Value} {below : List Frame} {meth : Method} {c : Code} {X : hv_X} {V : hv_V} {σ : hs_S} {x b L i : Nat} {xs : Nat → Int32} {Hq : Heap} {lq : List Loc} {ls : Array Slot} {Q : State → Prop} (C0 : hv_C X p s m args c cL_law 4 RL) (hXs : va_X b L xs s s.heap) (hbl : b < s.heap.size) (hbA : ¬ X.2.2.1 b) (hx : okX X V x σ) (hm : okM X V (x + 92) σ) (hB : hs_b σ) (w : hv_w X s V Hq lq) (hl : lv_has ls 4 [(0, .ref b), (1, .ref x), (2, .ref (x + 92)), (3, .int (nI i))]) (hi : i + 6 ≤ L) (hL : L ≤ 3072) (kk : ∀ (σ1 : hs_S) (V1 : hv_V) (Hq : Heap) (lq : List Loc), okX X V1 x σ1 → okM X V1 (x + 92) σ1 → hs_b σ1 → hv_w X s V1 Hq lq → W p l e (hv_rm 2048 600000 7302250) s m args below meth c Hq lq 142 2151 Q (F0 m 1317 ls [])) : W p l e (hv_rm 2048 600000 7302250) s m args below meth c Hq lq 142 2151 Q (F0 m 789 ls []) := by
  obtain ⟨kk0, hX0, -⟩ := id hx
  refine lv_aload_n C0.1 C0.2.1 dL_law_789 rfl (lv_at hl 1 rfl) ?_
  refine lv_aload_n C0.1 C0.2.1 dL_law_790 rfl (lv_at hl 0 rfl) ?_
  refine lv_iload_n C0.1 C0.2.1 dL_law_791 rfl (lv_at hl 3 rfl) ?_
  refine lv_iconst (v := 1) C0.1 C0.2.1 dL_law_792 (by decide) ?_
  refine lv_iadd C0.1 C0.2.1 dL_law_793 ?_
  rw [show nI i + 1 = nI (i + 1) from nI_add i 1]
  refine va_sld C0.1 C0.2.1 hXs hbl hbA w.2 (hn_in (by omega) (by omega)) dL_law_794 ?_
  refine lv_aload_n C0.1 C0.2.1 dL_law_795 rfl (lv_at hl 0 rfl) ?_
  refine lv_iload_n C0.1 C0.2.1 dL_law_796 rfl (lv_at hl 3 rfl) ?_
  refine lv_iconst (v := 2) C0.1 C0.2.1 dL_law_797 (by decide) ?_
  refine lv_iadd C0.1 C0.2.1 dL_law_798 ?_
  rw [show nI i + 2 = nI (i + 2) from nI_add i 2]
  refine va_sld C0.1 C0.2.1 hXs hbl hbA w.2 (hn_in (by omega) (by omega)) dL_law_799 ?_
  refine lv_aload_n C0.1 C0.2.1 dL_law_800 rfl (lv_at hl 0 rfl) ?_
  refine lv_iload_n C0.1 C0.2.1 dL_law_801 rfl (lv_at hl 3 rfl) ?_
  refine lv_iconst (v := 3) C0.1 C0.2.1 dL_law_802 (by decide) ?_
  refine lv_iadd C0.1 C0.2.1 dL_law_803 ?_
  rw [show nI i + 3 = nI (i + 3) from nI_add i 3]
  refine va_sld C0.1 C0.2.1 hXs hbl hbA w.2 (hn_in (by omega) (by omega)) dL_law_804 ?_
  refine hv_cVi C0 w kl_L_88 kv_X6_fits rfl hX0 (m_X6_fits hx hB) (by decide) (by decide) rfl hl.1 rfl (Nat.le_of_ble_eq_true rfl) dL_law_805 ⟨Nat.le_of_ble_eq_true rfl, Nat.le_of_ble_eq_true rfl⟩ (fun x1 V2 Hq lq hp3 w => ?_)
  obtain ⟨ey, hx1, ho1⟩ := hp3
  have hm1 : okM X V2 (x + 92) σ := hm.fr (fun q h1 h2 => ho1 q (Or.inr h1))
  obtain ⟨ab, be, pl, cl, sg, ik, hM0, -⟩ := id hm1
  refine lv_aload_n C0.1 C0.2.1 dL_law_808 rfl (lv_at hl 2 rfl) ?_
  refine lv_aload_n C0.1 C0.2.1 dL_law_809 rfl (lv_at hl 0 rfl) ?_
  refine lv_iload_n C0.1 C0.2.1 dL_law_810 rfl (lv_at hl 3 rfl) ?_
  refine lv_iconst (v := 1) C0.1 C0.2.1 dL_law_811 (by decide) ?_
  refine lv_iadd C0.1 C0.2.1 dL_law_812 ?_
  rw [show nI i + 1 = nI (i + 1) from nI_add i 1]
  refine va_sld C0.1 C0.2.1 hXs hbl hbA w.2 (hn_in (by omega) (by omega)) dL_law_813 ?_
  refine lv_aload_n C0.1 C0.2.1 dL_law_814 rfl (lv_at hl 0 rfl) ?_
  refine lv_iload_n C0.1 C0.2.1 dL_law_815 rfl (lv_at hl 3 rfl) ?_
  refine lv_iconst (v := 2) C0.1 C0.2.1 dL_law_816 (by decide) ?_
  refine lv_iadd C0.1 C0.2.1 dL_law_817 ?_
  rw [show nI i + 2 = nI (i + 2) from nI_add i 2]
  refine va_sld C0.1 C0.2.1 hXs hbl hbA w.2 (hn_in (by omega) (by omega)) dL_law_818 ?_
  refine lv_aload_n C0.1 C0.2.1 dL_law_819 rfl (lv_at hl 0 rfl) ?_
  refine lv_iload_n C0.1 C0.2.1 dL_law_820 rfl (lv_at hl 3 rfl) ?_
  refine lv_iconst (v := 3) C0.1 C0.2.1 dL_law_821 (by decide) ?_
  refine lv_iadd C0.1 C0.2.1 dL_law_822 ?_
  rw [show nI i + 3 = nI (i + 3) from nI_add i 3]
  refine va_sld C0.1 C0.2.1 hXs hbl hbA w.2 (hn_in (by omega) (by omega)) dL_law_823 ?_
  refine hv_cVi C0 w kl_L_91 kv_X7_fits rfl hM0 (m_X7_fits hm1 hB) (by decide) (by decide) rfl hl.1 rfl (Nat.le_of_ble_eq_true rfl) dL_law_824 ⟨Nat.le_of_ble_eq_true rfl, Nat.le_of_ble_eq_true rfl⟩ (fun x4 V5 Hq lq hp6 w => ?_)
  obtain ⟨ez, hm2, ho2⟩ := hp6
  have hx2 := hx1.fr (V1 := V5) (fun q h1 h2 => ho2 q (Or.inl h2))
  refine lv_icmp_eq (tgt := 1317) C0.1 C0.2.1 dL_law_827 (by decide) (fun c_827 => ?_) (fun c_827 => absurd (ey.trans ez.symm) c_827)
  exact kk _ _ _ _ hx2 hm2 (hB) w

set_option maxHeartbeats 4000000 in
set_option maxRecDepth 100000 in
theorem law_odds {p : Program} {l : Launch} {e : Env} {s : State} {m : MethodId} {args : Array Value} {below : List Frame} {meth : Method} {c : Code} {X : hv_X} {V : hv_V} {σ : hs_S} {x b L i : Nat} {xs : Nat → Int32} {Hq : Heap} {lq : List Loc} {ls : Array Slot} {Q : State → Prop} (C0 : hv_C X p s m args c cL_law 4 RL) (hXs : va_X b L xs s s.heap) (hbl : b < s.heap.size) (hbA : ¬ X.2.2.1 b) (hx : okX X V x σ) (hm : okM X V (x + 92) σ) (hB : hs_b σ) (w : hv_w X s V Hq lq) (hl : lv_has ls 4 [(0, .ref b), (1, .ref x), (2, .ref (x + 92)), (3, .int (nI i))]) (hi : i + 6 ≤ L) (hL : L ≤ 3072) (kk : ∀ (σ1 : hs_S) (V1 : hv_V) (Hq : Heap) (lq : List Loc), okX X V1 x σ1 → okM X V1 (x + 92) σ1 → hs_b σ1 → hv_w X s V1 Hq lq → W p l e (hv_rm 2048 600000 7302250) s m args below meth c Hq lq 142 2151 Q (F0 m 1317 ls [])) : W p l e (hv_rm 2048 600000 7302250) s m args below meth c Hq lq 142 2151 Q (F0 m 832 ls []) := by
  obtain ⟨kk0, hX0, -⟩ := id hx
  refine lv_aload_n C0.1 C0.2.1 dL_law_832 rfl (lv_at hl 1 rfl) ?_
  refine lv_aload_n C0.1 C0.2.1 dL_law_833 rfl (lv_at hl 0 rfl) ?_
  refine lv_iload_n C0.1 C0.2.1 dL_law_834 rfl (lv_at hl 3 rfl) ?_
  refine lv_iconst (v := 1) C0.1 C0.2.1 dL_law_835 (by decide) ?_
  refine lv_iadd C0.1 C0.2.1 dL_law_836 ?_
  rw [show nI i + 1 = nI (i + 1) from nI_add i 1]
  refine va_sld C0.1 C0.2.1 hXs hbl hbA w.2 (hn_in (by omega) (by omega)) dL_law_837 ?_
  refine lv_aload_n C0.1 C0.2.1 dL_law_838 rfl (lv_at hl 0 rfl) ?_
  refine lv_iload_n C0.1 C0.2.1 dL_law_839 rfl (lv_at hl 3 rfl) ?_
  refine lv_iconst (v := 2) C0.1 C0.2.1 dL_law_840 (by decide) ?_
  refine lv_iadd C0.1 C0.2.1 dL_law_841 ?_
  rw [show nI i + 2 = nI (i + 2) from nI_add i 2]
  refine va_sld C0.1 C0.2.1 hXs hbl hbA w.2 (hn_in (by omega) (by omega)) dL_law_842 ?_
  refine lv_aload_n C0.1 C0.2.1 dL_law_843 rfl (lv_at hl 0 rfl) ?_
  refine lv_iload_n C0.1 C0.2.1 dL_law_844 rfl (lv_at hl 3 rfl) ?_
  refine lv_iconst (v := 3) C0.1 C0.2.1 dL_law_845 (by decide) ?_
  refine lv_iadd C0.1 C0.2.1 dL_law_846 ?_
  rw [show nI i + 3 = nI (i + 3) from nI_add i 3]
  refine va_sld C0.1 C0.2.1 hXs hbl hbA w.2 (hn_in (by omega) (by omega)) dL_law_847 ?_
  refine hv_cVl C0 w kl_L_92 kv_X6_odds rfl hX0 (m_X6_odds hx hB) (by decide) (by decide) rfl hl.1 rfl (Nat.le_of_ble_eq_true rfl) dL_law_848 ⟨Nat.le_of_ble_eq_true rfl, Nat.le_of_ble_eq_true rfl⟩ (fun x1 V2 Hq lq hp3 w => ?_)
  obtain ⟨ey, hx1, ho1⟩ := hp3
  have hm1 : okM X V2 (x + 92) σ := hm.fr (fun q h1 h2 => ho1 q (Or.inr h1))
  obtain ⟨ab, be, pl, cl, sg, ik, hM0, -⟩ := id hm1
  refine lv_aload_n C0.1 C0.2.1 dL_law_851 rfl (lv_at hl 2 rfl) ?_
  refine lv_aload_n C0.1 C0.2.1 dL_law_852 rfl (lv_at hl 0 rfl) ?_
  refine lv_iload_n C0.1 C0.2.1 dL_law_853 rfl (lv_at hl 3 rfl) ?_
  refine lv_iconst (v := 1) C0.1 C0.2.1 dL_law_854 (by decide) ?_
  refine lv_iadd C0.1 C0.2.1 dL_law_855 ?_
  rw [show nI i + 1 = nI (i + 1) from nI_add i 1]
  refine va_sld C0.1 C0.2.1 hXs hbl hbA w.2 (hn_in (by omega) (by omega)) dL_law_856 ?_
  refine lv_aload_n C0.1 C0.2.1 dL_law_857 rfl (lv_at hl 0 rfl) ?_
  refine lv_iload_n C0.1 C0.2.1 dL_law_858 rfl (lv_at hl 3 rfl) ?_
  refine lv_iconst (v := 2) C0.1 C0.2.1 dL_law_859 (by decide) ?_
  refine lv_iadd C0.1 C0.2.1 dL_law_860 ?_
  rw [show nI i + 2 = nI (i + 2) from nI_add i 2]
  refine va_sld C0.1 C0.2.1 hXs hbl hbA w.2 (hn_in (by omega) (by omega)) dL_law_861 ?_
  refine lv_aload_n C0.1 C0.2.1 dL_law_862 rfl (lv_at hl 0 rfl) ?_
  refine lv_iload_n C0.1 C0.2.1 dL_law_863 rfl (lv_at hl 3 rfl) ?_
  refine lv_iconst (v := 3) C0.1 C0.2.1 dL_law_864 (by decide) ?_
  refine lv_iadd C0.1 C0.2.1 dL_law_865 ?_
  rw [show nI i + 3 = nI (i + 3) from nI_add i 3]
  refine va_sld C0.1 C0.2.1 hXs hbl hbA w.2 (hn_in (by omega) (by omega)) dL_law_866 ?_
  refine hv_cVl C0 w kl_L_96 kv_X7_odds rfl hM0 (m_X7_odds hm1 hB) (by decide) (by decide) rfl hl.1 rfl (Nat.le_of_ble_eq_true rfl) dL_law_867 ⟨Nat.le_of_ble_eq_true rfl, Nat.le_of_ble_eq_true rfl⟩ (fun x4 V5 Hq lq hp6 w => ?_)
  obtain ⟨ez, hm2, ho2⟩ := hp6
  have hx2 := hx1.fr (V1 := V5) (fun q h1 h2 => ho2 q (Or.inl h2))
  refine hv_lc_eq (tgt := 1317) C0.1 C0.2.1 dL_law_870 dL_law_871 (by decide) (fun c_870 => ?_) (fun c_870 => absurd (ey.trans ez.symm) c_870)
  exact kk _ _ _ _ hx2 hm2 (hB) w

set_option maxHeartbeats 4000000 in
set_option maxRecDepth 100000 in
theorem law_mean {p : Program} {l : Launch} {e : Env} {s : State} {m : MethodId} {args : Array Value} {below : List Frame} {meth : Method} {c : Code} {X : hv_X} {V : hv_V} {σ : hs_S} {x b L i : Nat} {xs : Nat → Int32} {Hq : Heap} {lq : List Loc} {ls : Array Slot} {Q : State → Prop} (C0 : hv_C X p s m args c cL_law 4 RL) (hXs : va_X b L xs s s.heap) (hbl : b < s.heap.size) (hbA : ¬ X.2.2.1 b) (hx : okX X V x σ) (hm : okM X V (x + 92) σ) (hB : hs_b σ) (w : hv_w X s V Hq lq) (hl : lv_has ls 4 [(0, .ref b), (1, .ref x), (2, .ref (x + 92)), (3, .int (nI i))]) (hi : i + 6 ≤ L) (hL : L ≤ 3072) (kk : ∀ (σ1 : hs_S) (V1 : hv_V) (Hq : Heap) (lq : List Loc), okX X V1 x σ1 → okM X V1 (x + 92) σ1 → hs_b σ1 → hv_w X s V1 Hq lq → W p l e (hv_rm 2048 600000 7302250) s m args below meth c Hq lq 142 2151 Q (F0 m 1317 ls [])) : W p l e (hv_rm 2048 600000 7302250) s m args below meth c Hq lq 142 2151 Q (F0 m 876 ls []) := by
  obtain ⟨kk0, hX0, -⟩ := id hx
  refine lv_aload_n C0.1 C0.2.1 dL_law_876 rfl (lv_at hl 1 rfl) ?_
  refine lv_aload_n C0.1 C0.2.1 dL_law_877 rfl (lv_at hl 0 rfl) ?_
  refine lv_iload_n C0.1 C0.2.1 dL_law_878 rfl (lv_at hl 3 rfl) ?_
  refine lv_iconst (v := 1) C0.1 C0.2.1 dL_law_879 (by decide) ?_
  refine lv_iadd C0.1 C0.2.1 dL_law_880 ?_
  rw [show nI i + 1 = nI (i + 1) from nI_add i 1]
  refine va_sld C0.1 C0.2.1 hXs hbl hbA w.2 (hn_in (by omega) (by omega)) dL_law_881 ?_
  refine hv_cVl C0 w kl_L_97 kv_X6_mean rfl hX0 (m_X6_mean hx hB) (by decide) (by decide) rfl hl.1 rfl (Nat.le_of_ble_eq_true rfl) dL_law_882 ⟨Nat.le_of_ble_eq_true rfl, Nat.le_of_ble_eq_true rfl⟩ (fun x1 V2 Hq lq hp3 w => ?_)
  obtain ⟨ey, hx1, ho1⟩ := hp3
  have hm1 : okM X V2 (x + 92) σ := hm.fr (fun q h1 h2 => ho1 q (Or.inr h1))
  obtain ⟨ab, be, pl, cl, sg, ik, hM0, -⟩ := id hm1
  refine lv_aload_n C0.1 C0.2.1 dL_law_885 rfl (lv_at hl 2 rfl) ?_
  refine lv_aload_n C0.1 C0.2.1 dL_law_886 rfl (lv_at hl 0 rfl) ?_
  refine lv_iload_n C0.1 C0.2.1 dL_law_887 rfl (lv_at hl 3 rfl) ?_
  refine lv_iconst (v := 1) C0.1 C0.2.1 dL_law_888 (by decide) ?_
  refine lv_iadd C0.1 C0.2.1 dL_law_889 ?_
  rw [show nI i + 1 = nI (i + 1) from nI_add i 1]
  refine va_sld C0.1 C0.2.1 hXs hbl hbA w.2 (hn_in (by omega) (by omega)) dL_law_890 ?_
  refine hv_cVl C0 w kl_L_101 kv_X7_mean rfl hM0 (m_X7_mean hm1 hB) (by decide) (by decide) rfl hl.1 rfl (Nat.le_of_ble_eq_true rfl) dL_law_891 ⟨Nat.le_of_ble_eq_true rfl, Nat.le_of_ble_eq_true rfl⟩ (fun x4 V5 Hq lq hp6 w => ?_)
  obtain ⟨ez, hm2, ho2⟩ := hp6
  have hx2 := hx1.fr (V1 := V5) (fun q h1 h2 => ho2 q (Or.inl h2))
  refine hv_lc_eq (tgt := 1317) C0.1 C0.2.1 dL_law_894 dL_law_895 (by decide) (fun c_894 => ?_) (fun c_894 => absurd (ey.trans ez.symm) c_894)
  exact kk _ _ _ _ hx2 hm2 (hB) w

set_option maxHeartbeats 4000000 in
set_option maxRecDepth 100000 in
theorem law_event {p : Program} {l : Launch} {e : Env} {s : State} {m : MethodId} {args : Array Value} {below : List Frame} {meth : Method} {c : Code} {X : hv_X} {V : hv_V} {σ : hs_S} {x b L i : Nat} {xs : Nat → Int32} {Hq : Heap} {lq : List Loc} {ls : Array Slot} {Q : State → Prop} (C0 : hv_C X p s m args c cL_law 4 RL) (hXs : va_X b L xs s s.heap) (hbl : b < s.heap.size) (hbA : ¬ X.2.2.1 b) (hx : okX X V x σ) (hm : okM X V (x + 92) σ) (hB : hs_b σ) (w : hv_w X s V Hq lq) (hl : lv_has ls 4 [(0, .ref b), (1, .ref x), (2, .ref (x + 92)), (3, .int (nI i))]) (hi : i + 6 ≤ L) (hL : L ≤ 3072) (kk : ∀ (σ1 : hs_S) (V1 : hv_V) (Hq : Heap) (lq : List Loc), okX X V1 x σ1 → okM X V1 (x + 92) σ1 → hs_b σ1 → hv_w X s V1 Hq lq → W p l e (hv_rm 2048 600000 7302250) s m args below meth c Hq lq 142 2151 Q (F0 m 1317 ls [])) : W p l e (hv_rm 2048 600000 7302250) s m args below meth c Hq lq 142 2151 Q (F0 m 900 ls []) := by
  obtain ⟨kk0, hX0, -⟩ := id hx
  refine lv_aload_n C0.1 C0.2.1 dL_law_900 rfl (lv_at hl 1 rfl) ?_
  refine lv_aload_n C0.1 C0.2.1 dL_law_901 rfl (lv_at hl 0 rfl) ?_
  refine lv_iload_n C0.1 C0.2.1 dL_law_902 rfl (lv_at hl 3 rfl) ?_
  refine lv_iconst (v := 1) C0.1 C0.2.1 dL_law_903 (by decide) ?_
  refine lv_iadd C0.1 C0.2.1 dL_law_904 ?_
  rw [show nI i + 1 = nI (i + 1) from nI_add i 1]
  refine va_sld C0.1 C0.2.1 hXs hbl hbA w.2 (hn_in (by omega) (by omega)) dL_law_905 ?_
  refine lv_aload_n C0.1 C0.2.1 dL_law_906 rfl (lv_at hl 0 rfl) ?_
  refine lv_iload_n C0.1 C0.2.1 dL_law_907 rfl (lv_at hl 3 rfl) ?_
  refine lv_iconst (v := 2) C0.1 C0.2.1 dL_law_908 (by decide) ?_
  refine lv_iadd C0.1 C0.2.1 dL_law_909 ?_
  rw [show nI i + 2 = nI (i + 2) from nI_add i 2]
  refine va_sld C0.1 C0.2.1 hXs hbl hbA w.2 (hn_in (by omega) (by omega)) dL_law_910 ?_
  refine hv_cVi C0 w kl_L_102 kv_X6_event rfl hX0 (m_X6_event hx hB) (by decide) (by decide) rfl hl.1 rfl (Nat.le_of_ble_eq_true rfl) dL_law_911 ⟨Nat.le_of_ble_eq_true rfl, Nat.le_of_ble_eq_true rfl⟩ (fun x1 V2 Hq lq hp3 w => ?_)
  obtain ⟨ey, hx1, ho1⟩ := hp3
  have hm1 : okM X V2 (x + 92) σ := hm.fr (fun q h1 h2 => ho1 q (Or.inr h1))
  obtain ⟨ab, be, pl, cl, sg, ik, hM0, -⟩ := id hm1
  refine lv_aload_n C0.1 C0.2.1 dL_law_914 rfl (lv_at hl 2 rfl) ?_
  refine lv_aload_n C0.1 C0.2.1 dL_law_915 rfl (lv_at hl 0 rfl) ?_
  refine lv_iload_n C0.1 C0.2.1 dL_law_916 rfl (lv_at hl 3 rfl) ?_
  refine lv_iconst (v := 1) C0.1 C0.2.1 dL_law_917 (by decide) ?_
  refine lv_iadd C0.1 C0.2.1 dL_law_918 ?_
  rw [show nI i + 1 = nI (i + 1) from nI_add i 1]
  refine va_sld C0.1 C0.2.1 hXs hbl hbA w.2 (hn_in (by omega) (by omega)) dL_law_919 ?_
  refine lv_aload_n C0.1 C0.2.1 dL_law_920 rfl (lv_at hl 0 rfl) ?_
  refine lv_iload_n C0.1 C0.2.1 dL_law_921 rfl (lv_at hl 3 rfl) ?_
  refine lv_iconst (v := 2) C0.1 C0.2.1 dL_law_922 (by decide) ?_
  refine lv_iadd C0.1 C0.2.1 dL_law_923 ?_
  rw [show nI i + 2 = nI (i + 2) from nI_add i 2]
  refine va_sld C0.1 C0.2.1 hXs hbl hbA w.2 (hn_in (by omega) (by omega)) dL_law_924 ?_
  refine hv_cVi C0 w kl_L_105 kv_X7_event rfl hM0 (m_X7_event hm1 hB) (by decide) (by decide) rfl hl.1 rfl (Nat.le_of_ble_eq_true rfl) dL_law_925 ⟨Nat.le_of_ble_eq_true rfl, Nat.le_of_ble_eq_true rfl⟩ (fun x4 V5 Hq lq hp6 w => ?_)
  obtain ⟨ez, hm2, ho2⟩ := hp6
  have hx2 := hx1.fr (V1 := V5) (fun q h1 h2 => ho2 q (Or.inl h2))
  refine lv_icmp_eq (tgt := 1317) C0.1 C0.2.1 dL_law_928 (by decide) (fun c_928 => ?_) (fun c_928 => absurd (ey.trans ez.symm) c_928)
  exact kk _ _ _ _ hx2 hm2 (hb_event hB _ _) w

set_option maxHeartbeats 4000000 in
set_option maxRecDepth 100000 in
theorem law_after {p : Program} {l : Launch} {e : Env} {s : State} {m : MethodId} {args : Array Value} {below : List Frame} {meth : Method} {c : Code} {X : hv_X} {V : hv_V} {σ : hs_S} {x b L i : Nat} {xs : Nat → Int32} {Hq : Heap} {lq : List Loc} {ls : Array Slot} {Q : State → Prop} (C0 : hv_C X p s m args c cL_law 4 RL) (hXs : va_X b L xs s s.heap) (hbl : b < s.heap.size) (hbA : ¬ X.2.2.1 b) (hx : okX X V x σ) (hm : okM X V (x + 92) σ) (hB : hs_b σ) (w : hv_w X s V Hq lq) (hl : lv_has ls 4 [(0, .ref b), (1, .ref x), (2, .ref (x + 92)), (3, .int (nI i))]) (hi : i + 6 ≤ L) (hL : L ≤ 3072) (kk : ∀ (σ1 : hs_S) (V1 : hv_V) (Hq : Heap) (lq : List Loc), okX X V1 x σ1 → okM X V1 (x + 92) σ1 → hs_b σ1 → hv_w X s V1 Hq lq → W p l e (hv_rm 2048 600000 7302250) s m args below meth c Hq lq 142 2151 Q (F0 m 1317 ls [])) : W p l e (hv_rm 2048 600000 7302250) s m args below meth c Hq lq 142 2151 Q (F0 m 933 ls []) := by
  obtain ⟨kk0, hX0, -⟩ := id hx
  refine lv_aload_n C0.1 C0.2.1 dL_law_933 rfl (lv_at hl 1 rfl) ?_
  refine lv_aload_n C0.1 C0.2.1 dL_law_934 rfl (lv_at hl 0 rfl) ?_
  refine lv_iload_n C0.1 C0.2.1 dL_law_935 rfl (lv_at hl 3 rfl) ?_
  refine lv_iconst (v := 1) C0.1 C0.2.1 dL_law_936 (by decide) ?_
  refine lv_iadd C0.1 C0.2.1 dL_law_937 ?_
  rw [show nI i + 1 = nI (i + 1) from nI_add i 1]
  refine va_sld C0.1 C0.2.1 hXs hbl hbA w.2 (hn_in (by omega) (by omega)) dL_law_938 ?_
  refine lv_aload_n C0.1 C0.2.1 dL_law_939 rfl (lv_at hl 0 rfl) ?_
  refine lv_iload_n C0.1 C0.2.1 dL_law_940 rfl (lv_at hl 3 rfl) ?_
  refine lv_iconst (v := 2) C0.1 C0.2.1 dL_law_941 (by decide) ?_
  refine lv_iadd C0.1 C0.2.1 dL_law_942 ?_
  rw [show nI i + 2 = nI (i + 2) from nI_add i 2]
  refine va_sld C0.1 C0.2.1 hXs hbl hbA w.2 (hn_in (by omega) (by omega)) dL_law_943 ?_
  refine hv_cVi C0 w kl_L_106 kv_X6_after rfl hX0 (m_X6_after hx hB) (by decide) (by decide) rfl hl.1 rfl (Nat.le_of_ble_eq_true rfl) dL_law_944 ⟨Nat.le_of_ble_eq_true rfl, Nat.le_of_ble_eq_true rfl⟩ (fun x1 V2 Hq lq hp3 w => ?_)
  obtain ⟨ey, hx1, ho1⟩ := hp3
  have hm1 : okM X V2 (x + 92) σ := hm.fr (fun q h1 h2 => ho1 q (Or.inr h1))
  obtain ⟨ab, be, pl, cl, sg, ik, hM0, -⟩ := id hm1
  refine lv_aload_n C0.1 C0.2.1 dL_law_947 rfl (lv_at hl 2 rfl) ?_
  refine lv_aload_n C0.1 C0.2.1 dL_law_948 rfl (lv_at hl 0 rfl) ?_
  refine lv_iload_n C0.1 C0.2.1 dL_law_949 rfl (lv_at hl 3 rfl) ?_
  refine lv_iconst (v := 1) C0.1 C0.2.1 dL_law_950 (by decide) ?_
  refine lv_iadd C0.1 C0.2.1 dL_law_951 ?_
  rw [show nI i + 1 = nI (i + 1) from nI_add i 1]
  refine va_sld C0.1 C0.2.1 hXs hbl hbA w.2 (hn_in (by omega) (by omega)) dL_law_952 ?_
  refine lv_aload_n C0.1 C0.2.1 dL_law_953 rfl (lv_at hl 0 rfl) ?_
  refine lv_iload_n C0.1 C0.2.1 dL_law_954 rfl (lv_at hl 3 rfl) ?_
  refine lv_iconst (v := 2) C0.1 C0.2.1 dL_law_955 (by decide) ?_
  refine lv_iadd C0.1 C0.2.1 dL_law_956 ?_
  rw [show nI i + 2 = nI (i + 2) from nI_add i 2]
  refine va_sld C0.1 C0.2.1 hXs hbl hbA w.2 (hn_in (by omega) (by omega)) dL_law_957 ?_
  refine hv_cVi C0 w kl_L_109 kv_X7_after rfl hM0 (m_X7_after hm1 hB) (by decide) (by decide) rfl hl.1 rfl (Nat.le_of_ble_eq_true rfl) dL_law_958 ⟨Nat.le_of_ble_eq_true rfl, Nat.le_of_ble_eq_true rfl⟩ (fun x4 V5 Hq lq hp6 w => ?_)
  obtain ⟨ez, hm2, ho2⟩ := hp6
  have hx2 := hx1.fr (V1 := V5) (fun q h1 h2 => ho2 q (Or.inl h2))
  refine lv_icmp_eq (tgt := 1317) C0.1 C0.2.1 dL_law_961 (by decide) (fun c_961 => ?_) (fun c_961 => absurd (ey.trans ez.symm) c_961)
  exact kk _ _ _ _ hx2 hm2 (hB) w

set_option maxHeartbeats 4000000 in
set_option maxRecDepth 100000 in
theorem law_book {p : Program} {l : Launch} {e : Env} {s : State} {m : MethodId} {args : Array Value} {below : List Frame} {meth : Method} {c : Code} {X : hv_X} {V : hv_V} {σ : hs_S} {x b L i : Nat} {xs : Nat → Int32} {Hq : Heap} {lq : List Loc} {ls : Array Slot} {Q : State → Prop} (C0 : hv_C X p s m args c cL_law 4 RL) (hXs : va_X b L xs s s.heap) (hbl : b < s.heap.size) (hbA : ¬ X.2.2.1 b) (hx : okX X V x σ) (hm : okM X V (x + 92) σ) (hB : hs_b σ) (w : hv_w X s V Hq lq) (hl : lv_has ls 4 [(0, .ref b), (1, .ref x), (2, .ref (x + 92)), (3, .int (nI i))]) (hi : i + 6 ≤ L) (hL : L ≤ 3072) (kk : ∀ (σ1 : hs_S) (V1 : hv_V) (Hq : Heap) (lq : List Loc), okX X V1 x σ1 → okM X V1 (x + 92) σ1 → hs_b σ1 → hv_w X s V1 Hq lq → W p l e (hv_rm 2048 600000 7302250) s m args below meth c Hq lq 142 2151 Q (F0 m 1317 ls [])) : W p l e (hv_rm 2048 600000 7302250) s m args below meth c Hq lq 142 2151 Q (F0 m 966 ls []) := by
  obtain ⟨kk0, hX0, -⟩ := id hx
  refine lv_aload_n C0.1 C0.2.1 dL_law_966 rfl (lv_at hl 1 rfl) ?_
  refine lv_aload_n C0.1 C0.2.1 dL_law_967 rfl (lv_at hl 0 rfl) ?_
  refine lv_iload_n C0.1 C0.2.1 dL_law_968 rfl (lv_at hl 3 rfl) ?_
  refine lv_iconst (v := 1) C0.1 C0.2.1 dL_law_969 (by decide) ?_
  refine lv_iadd C0.1 C0.2.1 dL_law_970 ?_
  rw [show nI i + 1 = nI (i + 1) from nI_add i 1]
  refine va_sld C0.1 C0.2.1 hXs hbl hbA w.2 (hn_in (by omega) (by omega)) dL_law_971 ?_
  refine lv_aload_n C0.1 C0.2.1 dL_law_972 rfl (lv_at hl 0 rfl) ?_
  refine lv_iload_n C0.1 C0.2.1 dL_law_973 rfl (lv_at hl 3 rfl) ?_
  refine lv_iconst (v := 2) C0.1 C0.2.1 dL_law_974 (by decide) ?_
  refine lv_iadd C0.1 C0.2.1 dL_law_975 ?_
  rw [show nI i + 2 = nI (i + 2) from nI_add i 2]
  refine va_sld C0.1 C0.2.1 hXs hbl hbA w.2 (hn_in (by omega) (by omega)) dL_law_976 ?_
  refine hv_cVi C0 w kl_L_110 kv_X6_book rfl hX0 (m_X6_book hx hB) (by decide) (by decide) rfl hl.1 rfl (Nat.le_of_ble_eq_true rfl) dL_law_977 ⟨Nat.le_of_ble_eq_true rfl, Nat.le_of_ble_eq_true rfl⟩ (fun x1 V2 Hq lq hp3 w => ?_)
  obtain ⟨ey, hx1, ho1⟩ := hp3
  have hm1 : okM X V2 (x + 92) σ := hm.fr (fun q h1 h2 => ho1 q (Or.inr h1))
  obtain ⟨ab, be, pl, cl, sg, ik, hM0, -⟩ := id hm1
  refine lv_aload_n C0.1 C0.2.1 dL_law_980 rfl (lv_at hl 2 rfl) ?_
  refine lv_aload_n C0.1 C0.2.1 dL_law_981 rfl (lv_at hl 0 rfl) ?_
  refine lv_iload_n C0.1 C0.2.1 dL_law_982 rfl (lv_at hl 3 rfl) ?_
  refine lv_iconst (v := 1) C0.1 C0.2.1 dL_law_983 (by decide) ?_
  refine lv_iadd C0.1 C0.2.1 dL_law_984 ?_
  rw [show nI i + 1 = nI (i + 1) from nI_add i 1]
  refine va_sld C0.1 C0.2.1 hXs hbl hbA w.2 (hn_in (by omega) (by omega)) dL_law_985 ?_
  refine lv_aload_n C0.1 C0.2.1 dL_law_986 rfl (lv_at hl 0 rfl) ?_
  refine lv_iload_n C0.1 C0.2.1 dL_law_987 rfl (lv_at hl 3 rfl) ?_
  refine lv_iconst (v := 2) C0.1 C0.2.1 dL_law_988 (by decide) ?_
  refine lv_iadd C0.1 C0.2.1 dL_law_989 ?_
  rw [show nI i + 2 = nI (i + 2) from nI_add i 2]
  refine va_sld C0.1 C0.2.1 hXs hbl hbA w.2 (hn_in (by omega) (by omega)) dL_law_990 ?_
  refine hv_cVi C0 w kl_L_113 kv_X7_book rfl hM0 (m_X7_book hm1 hB) (by decide) (by decide) rfl hl.1 rfl (Nat.le_of_ble_eq_true rfl) dL_law_991 ⟨Nat.le_of_ble_eq_true rfl, Nat.le_of_ble_eq_true rfl⟩ (fun x4 V5 Hq lq hp6 w => ?_)
  obtain ⟨ez, hm2, ho2⟩ := hp6
  have hx2 := hx1.fr (V1 := V5) (fun q h1 h2 => ho2 q (Or.inl h2))
  refine lv_icmp_eq (tgt := 1317) C0.1 C0.2.1 dL_law_994 (by decide) (fun c_994 => ?_) (fun c_994 => absurd (ey.trans ez.symm) c_994)
  exact kk _ _ _ _ hx2 hm2 (hb_book hB _ _) w

set_option maxHeartbeats 4000000 in
set_option maxRecDepth 100000 in
theorem law_looked {p : Program} {l : Launch} {e : Env} {s : State} {m : MethodId} {args : Array Value} {below : List Frame} {meth : Method} {c : Code} {X : hv_X} {V : hv_V} {σ : hs_S} {x b L i : Nat} {xs : Nat → Int32} {Hq : Heap} {lq : List Loc} {ls : Array Slot} {Q : State → Prop} (C0 : hv_C X p s m args c cL_law 4 RL) (hXs : va_X b L xs s s.heap) (hbl : b < s.heap.size) (hbA : ¬ X.2.2.1 b) (hx : okX X V x σ) (hm : okM X V (x + 92) σ) (hB : hs_b σ) (w : hv_w X s V Hq lq) (hl : lv_has ls 4 [(0, .ref b), (1, .ref x), (2, .ref (x + 92)), (3, .int (nI i))]) (hi : i + 6 ≤ L) (hL : L ≤ 3072) (kk : ∀ (σ1 : hs_S) (V1 : hv_V) (Hq : Heap) (lq : List Loc), okX X V1 x σ1 → okM X V1 (x + 92) σ1 → hs_b σ1 → hv_w X s V1 Hq lq → W p l e (hv_rm 2048 600000 7302250) s m args below meth c Hq lq 142 2151 Q (F0 m 1317 ls [])) : W p l e (hv_rm 2048 600000 7302250) s m args below meth c Hq lq 142 2151 Q (F0 m 999 ls []) := by
  obtain ⟨kk0, hX0, -⟩ := id hx
  refine lv_aload_n C0.1 C0.2.1 dL_law_999 rfl (lv_at hl 1 rfl) ?_
  refine hv_cVi C0 w kl_L_114 kv_X6_looked rfl hX0 (m_X6_looked hx hB) (by decide) (by decide) rfl hl.1 rfl (Nat.le_of_ble_eq_true rfl) dL_law_1000 ⟨Nat.le_of_ble_eq_true rfl, Nat.le_of_ble_eq_true rfl⟩ (fun x1 V2 Hq lq hp3 w => ?_)
  obtain ⟨ey, hx1, ho1⟩ := hp3
  have hm1 : okM X V2 (x + 92) σ := hm.fr (fun q h1 h2 => ho1 q (Or.inr h1))
  obtain ⟨ab, be, pl, cl, sg, ik, hM0, -⟩ := id hm1
  refine lv_aload_n C0.1 C0.2.1 dL_law_1003 rfl (lv_at hl 2 rfl) ?_
  refine hv_cVi C0 w kl_L_117 kv_X7_looked rfl hM0 (m_X7_looked hm1 hB) (by decide) (by decide) rfl hl.1 rfl (Nat.le_of_ble_eq_true rfl) dL_law_1004 ⟨Nat.le_of_ble_eq_true rfl, Nat.le_of_ble_eq_true rfl⟩ (fun x4 V5 Hq lq hp6 w => ?_)
  obtain ⟨ez, hm2, ho2⟩ := hp6
  have hx2 := hx1.fr (V1 := V5) (fun q h1 h2 => ho2 q (Or.inl h2))
  refine lv_icmp_eq (tgt := 1317) C0.1 C0.2.1 dL_law_1007 (by decide) (fun c_1007 => ?_) (fun c_1007 => absurd (ey.trans ez.symm) c_1007)
  exact kk _ _ _ _ hx2 hm2 (hB) w

set_option maxHeartbeats 4000000 in
set_option maxRecDepth 100000 in
theorem law_judge {p : Program} {l : Launch} {e : Env} {s : State} {m : MethodId} {args : Array Value} {below : List Frame} {meth : Method} {c : Code} {X : hv_X} {V : hv_V} {σ : hs_S} {x b L i : Nat} {xs : Nat → Int32} {Hq : Heap} {lq : List Loc} {ls : Array Slot} {Q : State → Prop} (C0 : hv_C X p s m args c cL_law 4 RL) (hXs : va_X b L xs s s.heap) (hbl : b < s.heap.size) (hbA : ¬ X.2.2.1 b) (hx : okX X V x σ) (hm : okM X V (x + 92) σ) (hB : hs_b σ) (w : hv_w X s V Hq lq) (hl : lv_has ls 4 [(0, .ref b), (1, .ref x), (2, .ref (x + 92)), (3, .int (nI i))]) (hi : i + 6 ≤ L) (hL : L ≤ 3072) (kk : ∀ (σ1 : hs_S) (V1 : hv_V) (Hq : Heap) (lq : List Loc), okX X V1 x σ1 → okM X V1 (x + 92) σ1 → hs_b σ1 → hv_w X s V1 Hq lq → W p l e (hv_rm 2048 600000 7302250) s m args below meth c Hq lq 142 2151 Q (F0 m 1317 ls [])) : W p l e (hv_rm 2048 600000 7302250) s m args below meth c Hq lq 142 2151 Q (F0 m 1012 ls []) := by
  obtain ⟨kk0, hX0, -⟩ := id hx
  refine lv_aload_n C0.1 C0.2.1 dL_law_1012 rfl (lv_at hl 1 rfl) ?_
  refine lv_aload_n C0.1 C0.2.1 dL_law_1013 rfl (lv_at hl 0 rfl) ?_
  refine lv_iload_n C0.1 C0.2.1 dL_law_1014 rfl (lv_at hl 3 rfl) ?_
  refine lv_iconst (v := 1) C0.1 C0.2.1 dL_law_1015 (by decide) ?_
  refine lv_iadd C0.1 C0.2.1 dL_law_1016 ?_
  rw [show nI i + 1 = nI (i + 1) from nI_add i 1]
  refine va_sld C0.1 C0.2.1 hXs hbl hbA w.2 (hn_in (by omega) (by omega)) dL_law_1017 ?_
  refine lv_aload_n C0.1 C0.2.1 dL_law_1018 rfl (lv_at hl 0 rfl) ?_
  refine lv_iload_n C0.1 C0.2.1 dL_law_1019 rfl (lv_at hl 3 rfl) ?_
  refine lv_iconst (v := 2) C0.1 C0.2.1 dL_law_1020 (by decide) ?_
  refine lv_iadd C0.1 C0.2.1 dL_law_1021 ?_
  rw [show nI i + 2 = nI (i + 2) from nI_add i 2]
  refine va_sld C0.1 C0.2.1 hXs hbl hbA w.2 (hn_in (by omega) (by omega)) dL_law_1022 ?_
  refine lv_aload_n C0.1 C0.2.1 dL_law_1023 rfl (lv_at hl 0 rfl) ?_
  refine lv_iload_n C0.1 C0.2.1 dL_law_1024 rfl (lv_at hl 3 rfl) ?_
  refine lv_iconst (v := 3) C0.1 C0.2.1 dL_law_1025 (by decide) ?_
  refine lv_iadd C0.1 C0.2.1 dL_law_1026 ?_
  rw [show nI i + 3 = nI (i + 3) from nI_add i 3]
  refine va_sld C0.1 C0.2.1 hXs hbl hbA w.2 (hn_in (by omega) (by omega)) dL_law_1027 ?_
  refine hv_cVi C0 w kl_L_118 kv_X6_judge rfl hX0 (m_X6_judge hx hB) (by decide) (by decide) rfl hl.1 rfl (Nat.le_of_ble_eq_true rfl) dL_law_1028 ⟨Nat.le_of_ble_eq_true rfl, Nat.le_of_ble_eq_true rfl⟩ (fun x1 V2 Hq lq hp3 w => ?_)
  obtain ⟨ey, hx1, ho1⟩ := hp3
  have hm1 : okM X V2 (x + 92) σ := hm.fr (fun q h1 h2 => ho1 q (Or.inr h1))
  obtain ⟨ab, be, pl, cl, sg, ik, hM0, -⟩ := id hm1
  refine lv_aload_n C0.1 C0.2.1 dL_law_1031 rfl (lv_at hl 2 rfl) ?_
  refine lv_aload_n C0.1 C0.2.1 dL_law_1032 rfl (lv_at hl 0 rfl) ?_
  refine lv_iload_n C0.1 C0.2.1 dL_law_1033 rfl (lv_at hl 3 rfl) ?_
  refine lv_iconst (v := 1) C0.1 C0.2.1 dL_law_1034 (by decide) ?_
  refine lv_iadd C0.1 C0.2.1 dL_law_1035 ?_
  rw [show nI i + 1 = nI (i + 1) from nI_add i 1]
  refine va_sld C0.1 C0.2.1 hXs hbl hbA w.2 (hn_in (by omega) (by omega)) dL_law_1036 ?_
  refine lv_aload_n C0.1 C0.2.1 dL_law_1037 rfl (lv_at hl 0 rfl) ?_
  refine lv_iload_n C0.1 C0.2.1 dL_law_1038 rfl (lv_at hl 3 rfl) ?_
  refine lv_iconst (v := 2) C0.1 C0.2.1 dL_law_1039 (by decide) ?_
  refine lv_iadd C0.1 C0.2.1 dL_law_1040 ?_
  rw [show nI i + 2 = nI (i + 2) from nI_add i 2]
  refine va_sld C0.1 C0.2.1 hXs hbl hbA w.2 (hn_in (by omega) (by omega)) dL_law_1041 ?_
  refine lv_aload_n C0.1 C0.2.1 dL_law_1042 rfl (lv_at hl 0 rfl) ?_
  refine lv_iload_n C0.1 C0.2.1 dL_law_1043 rfl (lv_at hl 3 rfl) ?_
  refine lv_iconst (v := 3) C0.1 C0.2.1 dL_law_1044 (by decide) ?_
  refine lv_iadd C0.1 C0.2.1 dL_law_1045 ?_
  rw [show nI i + 3 = nI (i + 3) from nI_add i 3]
  refine va_sld C0.1 C0.2.1 hXs hbl hbA w.2 (hn_in (by omega) (by omega)) dL_law_1046 ?_
  refine hv_cVi C0 w kl_L_121 kv_X7_judge rfl hM0 (m_X7_judge hm1 hB) (by decide) (by decide) rfl hl.1 rfl (Nat.le_of_ble_eq_true rfl) dL_law_1047 ⟨Nat.le_of_ble_eq_true rfl, Nat.le_of_ble_eq_true rfl⟩ (fun x4 V5 Hq lq hp6 w => ?_)
  obtain ⟨ez, hm2, ho2⟩ := hp6
  have hx2 := hx1.fr (V1 := V5) (fun q h1 h2 => ho2 q (Or.inl h2))
  refine lv_icmp_eq (tgt := 1317) C0.1 C0.2.1 dL_law_1050 (by decide) (fun c_1050 => ?_) (fun c_1050 => absurd (ey.trans ez.symm) c_1050)
  exact kk _ _ _ _ hx2 hm2 (hB) w

set_option maxHeartbeats 4000000 in
set_option maxRecDepth 100000 in
theorem law_image {p : Program} {l : Launch} {e : Env} {s : State} {m : MethodId} {args : Array Value} {below : List Frame} {meth : Method} {c : Code} {X : hv_X} {V : hv_V} {σ : hs_S} {x b L i : Nat} {xs : Nat → Int32} {Hq : Heap} {lq : List Loc} {ls : Array Slot} {Q : State → Prop} (C0 : hv_C X p s m args c cL_law 4 RL) (hXs : va_X b L xs s s.heap) (hbl : b < s.heap.size) (hbA : ¬ X.2.2.1 b) (hx : okX X V x σ) (hm : okM X V (x + 92) σ) (hB : hs_b σ) (w : hv_w X s V Hq lq) (hl : lv_has ls 4 [(0, .ref b), (1, .ref x), (2, .ref (x + 92)), (3, .int (nI i))]) (hi : i + 6 ≤ L) (hL : L ≤ 3072) (kk : ∀ (σ1 : hs_S) (V1 : hv_V) (Hq : Heap) (lq : List Loc), okX X V1 x σ1 → okM X V1 (x + 92) σ1 → hs_b σ1 → hv_w X s V1 Hq lq → W p l e (hv_rm 2048 600000 7302250) s m args below meth c Hq lq 142 2151 Q (F0 m 1317 ls [])) : W p l e (hv_rm 2048 600000 7302250) s m args below meth c Hq lq 142 2151 Q (F0 m 1055 ls []) := by
  obtain ⟨kk0, hX0, -⟩ := id hx
  refine lv_aload_n C0.1 C0.2.1 dL_law_1055 rfl (lv_at hl 1 rfl) ?_
  refine hv_cVi C0 w kl_L_122 kv_X6_image rfl hX0 (m_X6_image hx hB) (by decide) (by decide) rfl hl.1 rfl (Nat.le_of_ble_eq_true rfl) dL_law_1056 ⟨Nat.le_of_ble_eq_true rfl, Nat.le_of_ble_eq_true rfl⟩ (fun x1 V2 Hq lq hp3 w => ?_)
  obtain ⟨ey, hx1, ho1⟩ := hp3
  have hm1 : okM X V2 (x + 92) σ := hm.fr (fun q h1 h2 => ho1 q (Or.inr h1))
  obtain ⟨ab, be, pl, cl, sg, ik, hM0, -⟩ := id hm1
  refine lv_aload_n C0.1 C0.2.1 dL_law_1059 rfl (lv_at hl 2 rfl) ?_
  refine hv_cVi C0 w kl_L_125 kv_X7_image rfl hM0 (m_X7_image hm1 hB) (by decide) (by decide) rfl hl.1 rfl (Nat.le_of_ble_eq_true rfl) dL_law_1060 ⟨Nat.le_of_ble_eq_true rfl, Nat.le_of_ble_eq_true rfl⟩ (fun x4 V5 Hq lq hp6 w => ?_)
  obtain ⟨ez, hm2, ho2⟩ := hp6
  have hx2 := hx1.fr (V1 := V5) (fun q h1 h2 => ho2 q (Or.inl h2))
  refine lv_icmp_eq (tgt := 1317) C0.1 C0.2.1 dL_law_1063 (by decide) (fun c_1063 => ?_) (fun c_1063 => absurd (ey.trans ez.symm) c_1063)
  exact kk _ _ _ _ hx2 hm2 (hb_image hB) w

set_option maxHeartbeats 4000000 in
set_option maxRecDepth 100000 in
theorem law_undo {p : Program} {l : Launch} {e : Env} {s : State} {m : MethodId} {args : Array Value} {below : List Frame} {meth : Method} {c : Code} {X : hv_X} {V : hv_V} {σ : hs_S} {x b L i : Nat} {xs : Nat → Int32} {Hq : Heap} {lq : List Loc} {ls : Array Slot} {Q : State → Prop} (C0 : hv_C X p s m args c cL_law 4 RL) (hXs : va_X b L xs s s.heap) (hbl : b < s.heap.size) (hbA : ¬ X.2.2.1 b) (hx : okX X V x σ) (hm : okM X V (x + 92) σ) (hB : hs_b σ) (w : hv_w X s V Hq lq) (hl : lv_has ls 4 [(0, .ref b), (1, .ref x), (2, .ref (x + 92)), (3, .int (nI i))]) (hi : i + 6 ≤ L) (hL : L ≤ 3072) (kk : ∀ (σ1 : hs_S) (V1 : hv_V) (Hq : Heap) (lq : List Loc), okX X V1 x σ1 → okM X V1 (x + 92) σ1 → hs_b σ1 → hv_w X s V1 Hq lq → W p l e (hv_rm 2048 600000 7302250) s m args below meth c Hq lq 142 2151 Q (F0 m 1317 ls [])) : W p l e (hv_rm 2048 600000 7302250) s m args below meth c Hq lq 142 2151 Q (F0 m 1068 ls []) := by
  obtain ⟨kk0, hX0, -⟩ := id hx
  refine lv_aload_n C0.1 C0.2.1 dL_law_1068 rfl (lv_at hl 1 rfl) ?_
  refine hv_cVi C0 w kl_L_126 kv_X6_undo rfl hX0 (m_X6_undo hx hB) (by decide) (by decide) rfl hl.1 rfl (Nat.le_of_ble_eq_true rfl) dL_law_1069 ⟨Nat.le_of_ble_eq_true rfl, Nat.le_of_ble_eq_true rfl⟩ (fun x1 V2 Hq lq hp3 w => ?_)
  obtain ⟨ey, hx1, ho1⟩ := hp3
  have hm1 : okM X V2 (x + 92) σ := hm.fr (fun q h1 h2 => ho1 q (Or.inr h1))
  obtain ⟨ab, be, pl, cl, sg, ik, hM0, -⟩ := id hm1
  refine lv_aload_n C0.1 C0.2.1 dL_law_1072 rfl (lv_at hl 2 rfl) ?_
  refine hv_cVi C0 w kl_L_129 kv_X7_undo rfl hM0 (m_X7_undo hm1 hB) (by decide) (by decide) rfl hl.1 rfl (Nat.le_of_ble_eq_true rfl) dL_law_1073 ⟨Nat.le_of_ble_eq_true rfl, Nat.le_of_ble_eq_true rfl⟩ (fun x4 V5 Hq lq hp6 w => ?_)
  obtain ⟨ez, hm2, ho2⟩ := hp6
  have hx2 := hx1.fr (V1 := V5) (fun q h1 h2 => ho2 q (Or.inl h2))
  refine lv_icmp_eq (tgt := 1317) C0.1 C0.2.1 dL_law_1076 (by decide) (fun c_1076 => ?_) (fun c_1076 => absurd (ey.trans ez.symm) c_1076)
  exact kk _ _ _ _ hx2 hm2 (hb_undo hB) w

set_option maxHeartbeats 4000000 in
set_option maxRecDepth 100000 in
theorem law_count {p : Program} {l : Launch} {e : Env} {s : State} {m : MethodId} {args : Array Value} {below : List Frame} {meth : Method} {c : Code} {X : hv_X} {V : hv_V} {σ : hs_S} {x b L i : Nat} {xs : Nat → Int32} {Hq : Heap} {lq : List Loc} {ls : Array Slot} {Q : State → Prop} (C0 : hv_C X p s m args c cL_law 4 RL) (hXs : va_X b L xs s s.heap) (hbl : b < s.heap.size) (hbA : ¬ X.2.2.1 b) (hx : okX X V x σ) (hm : okM X V (x + 92) σ) (hB : hs_b σ) (w : hv_w X s V Hq lq) (hl : lv_has ls 4 [(0, .ref b), (1, .ref x), (2, .ref (x + 92)), (3, .int (nI i))]) (hi : i + 6 ≤ L) (hL : L ≤ 3072) (kk : ∀ (σ1 : hs_S) (V1 : hv_V) (Hq : Heap) (lq : List Loc), okX X V1 x σ1 → okM X V1 (x + 92) σ1 → hs_b σ1 → hv_w X s V1 Hq lq → W p l e (hv_rm 2048 600000 7302250) s m args below meth c Hq lq 142 2151 Q (F0 m 1317 ls [])) : W p l e (hv_rm 2048 600000 7302250) s m args below meth c Hq lq 142 2151 Q (F0 m 1081 ls []) := by
  obtain ⟨kk0, hX0, -⟩ := id hx
  refine lv_aload_n C0.1 C0.2.1 dL_law_1081 rfl (lv_at hl 1 rfl) ?_
  refine lv_aload_n C0.1 C0.2.1 dL_law_1082 rfl (lv_at hl 0 rfl) ?_
  refine lv_iload_n C0.1 C0.2.1 dL_law_1083 rfl (lv_at hl 3 rfl) ?_
  refine lv_iconst (v := 1) C0.1 C0.2.1 dL_law_1084 (by decide) ?_
  refine lv_iadd C0.1 C0.2.1 dL_law_1085 ?_
  rw [show nI i + 1 = nI (i + 1) from nI_add i 1]
  refine va_sld C0.1 C0.2.1 hXs hbl hbA w.2 (hn_in (by omega) (by omega)) dL_law_1086 ?_
  refine hv_cVi C0 w kl_L_130 kv_X6_count rfl hX0 (m_X6_count hx hB) (by decide) (by decide) rfl hl.1 rfl (Nat.le_of_ble_eq_true rfl) dL_law_1087 ⟨Nat.le_of_ble_eq_true rfl, Nat.le_of_ble_eq_true rfl⟩ (fun x1 V2 Hq lq hp3 w => ?_)
  obtain ⟨ey, hx1, ho1⟩ := hp3
  have hm1 : okM X V2 (x + 92) σ := hm.fr (fun q h1 h2 => ho1 q (Or.inr h1))
  obtain ⟨ab, be, pl, cl, sg, ik, hM0, -⟩ := id hm1
  refine lv_aload_n C0.1 C0.2.1 dL_law_1090 rfl (lv_at hl 2 rfl) ?_
  refine lv_aload_n C0.1 C0.2.1 dL_law_1091 rfl (lv_at hl 0 rfl) ?_
  refine lv_iload_n C0.1 C0.2.1 dL_law_1092 rfl (lv_at hl 3 rfl) ?_
  refine lv_iconst (v := 1) C0.1 C0.2.1 dL_law_1093 (by decide) ?_
  refine lv_iadd C0.1 C0.2.1 dL_law_1094 ?_
  rw [show nI i + 1 = nI (i + 1) from nI_add i 1]
  refine va_sld C0.1 C0.2.1 hXs hbl hbA w.2 (hn_in (by omega) (by omega)) dL_law_1095 ?_
  refine hv_cVi C0 w kl_L_133 kv_X7_count rfl hM0 (m_X7_count hm1 hB) (by decide) (by decide) rfl hl.1 rfl (Nat.le_of_ble_eq_true rfl) dL_law_1096 ⟨Nat.le_of_ble_eq_true rfl, Nat.le_of_ble_eq_true rfl⟩ (fun x4 V5 Hq lq hp6 w => ?_)
  obtain ⟨ez, hm2, ho2⟩ := hp6
  have hx2 := hx1.fr (V1 := V5) (fun q h1 h2 => ho2 q (Or.inl h2))
  refine lv_icmp_eq (tgt := 1317) C0.1 C0.2.1 dL_law_1099 (by decide) (fun c_1099 => ?_) (fun c_1099 => absurd (ey.trans ez.symm) c_1099)
  exact kk _ _ _ _ hx2 hm2 (hB) w

set_option maxHeartbeats 4000000 in
set_option maxRecDepth 100000 in
theorem law_tape {p : Program} {l : Launch} {e : Env} {s : State} {m : MethodId} {args : Array Value} {below : List Frame} {meth : Method} {c : Code} {X : hv_X} {V : hv_V} {σ : hs_S} {x b L i : Nat} {xs : Nat → Int32} {Hq : Heap} {lq : List Loc} {ls : Array Slot} {Q : State → Prop} (C0 : hv_C X p s m args c cL_law 4 RL) (hXs : va_X b L xs s s.heap) (hbl : b < s.heap.size) (hbA : ¬ X.2.2.1 b) (hx : okX X V x σ) (hm : okM X V (x + 92) σ) (hB : hs_b σ) (w : hv_w X s V Hq lq) (hl : lv_has ls 4 [(0, .ref b), (1, .ref x), (2, .ref (x + 92)), (3, .int (nI i))]) (hi : i + 6 ≤ L) (hL : L ≤ 3072) (kk : ∀ (σ1 : hs_S) (V1 : hv_V) (Hq : Heap) (lq : List Loc), okX X V1 x σ1 → okM X V1 (x + 92) σ1 → hs_b σ1 → hv_w X s V1 Hq lq → W p l e (hv_rm 2048 600000 7302250) s m args below meth c Hq lq 142 2151 Q (F0 m 1317 ls [])) : W p l e (hv_rm 2048 600000 7302250) s m args below meth c Hq lq 142 2151 Q (F0 m 1104 ls []) := by
  obtain ⟨kk0, hX0, -⟩ := id hx
  refine lv_aload_n C0.1 C0.2.1 dL_law_1104 rfl (lv_at hl 1 rfl) ?_
  refine lv_aload_n C0.1 C0.2.1 dL_law_1105 rfl (lv_at hl 0 rfl) ?_
  refine lv_iload_n C0.1 C0.2.1 dL_law_1106 rfl (lv_at hl 3 rfl) ?_
  refine lv_iconst (v := 1) C0.1 C0.2.1 dL_law_1107 (by decide) ?_
  refine lv_iadd C0.1 C0.2.1 dL_law_1108 ?_
  rw [show nI i + 1 = nI (i + 1) from nI_add i 1]
  refine va_sld C0.1 C0.2.1 hXs hbl hbA w.2 (hn_in (by omega) (by omega)) dL_law_1109 ?_
  refine lv_aload_n C0.1 C0.2.1 dL_law_1110 rfl (lv_at hl 0 rfl) ?_
  refine lv_iload_n C0.1 C0.2.1 dL_law_1111 rfl (lv_at hl 3 rfl) ?_
  refine lv_iconst (v := 2) C0.1 C0.2.1 dL_law_1112 (by decide) ?_
  refine lv_iadd C0.1 C0.2.1 dL_law_1113 ?_
  rw [show nI i + 2 = nI (i + 2) from nI_add i 2]
  refine va_sld C0.1 C0.2.1 hXs hbl hbA w.2 (hn_in (by omega) (by omega)) dL_law_1114 ?_
  refine lv_aload_n C0.1 C0.2.1 dL_law_1115 rfl (lv_at hl 0 rfl) ?_
  refine lv_iload_n C0.1 C0.2.1 dL_law_1116 rfl (lv_at hl 3 rfl) ?_
  refine lv_iconst (v := 3) C0.1 C0.2.1 dL_law_1117 (by decide) ?_
  refine lv_iadd C0.1 C0.2.1 dL_law_1118 ?_
  rw [show nI i + 3 = nI (i + 3) from nI_add i 3]
  refine va_sld C0.1 C0.2.1 hXs hbl hbA w.2 (hn_in (by omega) (by omega)) dL_law_1119 ?_
  refine hv_cVi C0 w kl_L_134 kv_X6_tape rfl hX0 (m_X6_tape hx hB) (by decide) (by decide) rfl hl.1 rfl (Nat.le_of_ble_eq_true rfl) dL_law_1120 ⟨Nat.le_of_ble_eq_true rfl, Nat.le_of_ble_eq_true rfl⟩ (fun x1 V2 Hq lq hp3 w => ?_)
  obtain ⟨ey, hx1, ho1⟩ := hp3
  have hm1 : okM X V2 (x + 92) σ := hm.fr (fun q h1 h2 => ho1 q (Or.inr h1))
  obtain ⟨ab, be, pl, cl, sg, ik, hM0, -⟩ := id hm1
  refine lv_aload_n C0.1 C0.2.1 dL_law_1123 rfl (lv_at hl 2 rfl) ?_
  refine lv_aload_n C0.1 C0.2.1 dL_law_1124 rfl (lv_at hl 0 rfl) ?_
  refine lv_iload_n C0.1 C0.2.1 dL_law_1125 rfl (lv_at hl 3 rfl) ?_
  refine lv_iconst (v := 1) C0.1 C0.2.1 dL_law_1126 (by decide) ?_
  refine lv_iadd C0.1 C0.2.1 dL_law_1127 ?_
  rw [show nI i + 1 = nI (i + 1) from nI_add i 1]
  refine va_sld C0.1 C0.2.1 hXs hbl hbA w.2 (hn_in (by omega) (by omega)) dL_law_1128 ?_
  refine lv_aload_n C0.1 C0.2.1 dL_law_1129 rfl (lv_at hl 0 rfl) ?_
  refine lv_iload_n C0.1 C0.2.1 dL_law_1130 rfl (lv_at hl 3 rfl) ?_
  refine lv_iconst (v := 2) C0.1 C0.2.1 dL_law_1131 (by decide) ?_
  refine lv_iadd C0.1 C0.2.1 dL_law_1132 ?_
  rw [show nI i + 2 = nI (i + 2) from nI_add i 2]
  refine va_sld C0.1 C0.2.1 hXs hbl hbA w.2 (hn_in (by omega) (by omega)) dL_law_1133 ?_
  refine lv_aload_n C0.1 C0.2.1 dL_law_1134 rfl (lv_at hl 0 rfl) ?_
  refine lv_iload_n C0.1 C0.2.1 dL_law_1135 rfl (lv_at hl 3 rfl) ?_
  refine lv_iconst (v := 3) C0.1 C0.2.1 dL_law_1136 (by decide) ?_
  refine lv_iadd C0.1 C0.2.1 dL_law_1137 ?_
  rw [show nI i + 3 = nI (i + 3) from nI_add i 3]
  refine va_sld C0.1 C0.2.1 hXs hbl hbA w.2 (hn_in (by omega) (by omega)) dL_law_1138 ?_
  refine hv_cVi C0 w kl_L_137 kv_X7_tape rfl hM0 (m_X7_tape hm1 hB) (by decide) (by decide) rfl hl.1 rfl (Nat.le_of_ble_eq_true rfl) dL_law_1139 ⟨Nat.le_of_ble_eq_true rfl, Nat.le_of_ble_eq_true rfl⟩ (fun x4 V5 Hq lq hp6 w => ?_)
  obtain ⟨ez, hm2, ho2⟩ := hp6
  have hx2 := hx1.fr (V1 := V5) (fun q h1 h2 => ho2 q (Or.inl h2))
  refine lv_icmp_eq (tgt := 1317) C0.1 C0.2.1 dL_law_1142 (by decide) (fun c_1142 => ?_) (fun c_1142 => absurd (ey.trans ez.symm) c_1142)
  exact kk _ _ _ _ hx2 hm2 (hb_tape hB _ _ _) w

set_option maxHeartbeats 4000000 in
set_option maxRecDepth 100000 in
theorem law_item {p : Program} {l : Launch} {e : Env} {s : State} {m : MethodId} {args : Array Value} {below : List Frame} {meth : Method} {c : Code} {X : hv_X} {V : hv_V} {σ : hs_S} {x b L i : Nat} {xs : Nat → Int32} {Hq : Heap} {lq : List Loc} {ls : Array Slot} {Q : State → Prop} (C0 : hv_C X p s m args c cL_law 4 RL) (hXs : va_X b L xs s s.heap) (hbl : b < s.heap.size) (hbA : ¬ X.2.2.1 b) (hx : okX X V x σ) (hm : okM X V (x + 92) σ) (hB : hs_b σ) (w : hv_w X s V Hq lq) (hl : lv_has ls 4 [(0, .ref b), (1, .ref x), (2, .ref (x + 92)), (3, .int (nI i))]) (hi : i + 6 ≤ L) (hL : L ≤ 3072) (kk : ∀ (σ1 : hs_S) (V1 : hv_V) (Hq : Heap) (lq : List Loc), okX X V1 x σ1 → okM X V1 (x + 92) σ1 → hs_b σ1 → hv_w X s V1 Hq lq → W p l e (hv_rm 2048 600000 7302250) s m args below meth c Hq lq 142 2151 Q (F0 m 1317 ls [])) : W p l e (hv_rm 2048 600000 7302250) s m args below meth c Hq lq 142 2151 Q (F0 m 1147 ls []) := by
  obtain ⟨kk0, hX0, -⟩ := id hx
  refine lv_aload_n C0.1 C0.2.1 dL_law_1147 rfl (lv_at hl 1 rfl) ?_
  refine lv_aload_n C0.1 C0.2.1 dL_law_1148 rfl (lv_at hl 0 rfl) ?_
  refine lv_iload_n C0.1 C0.2.1 dL_law_1149 rfl (lv_at hl 3 rfl) ?_
  refine lv_iconst (v := 1) C0.1 C0.2.1 dL_law_1150 (by decide) ?_
  refine lv_iadd C0.1 C0.2.1 dL_law_1151 ?_
  rw [show nI i + 1 = nI (i + 1) from nI_add i 1]
  refine va_sld C0.1 C0.2.1 hXs hbl hbA w.2 (hn_in (by omega) (by omega)) dL_law_1152 ?_
  refine lv_aload_n C0.1 C0.2.1 dL_law_1153 rfl (lv_at hl 0 rfl) ?_
  refine lv_iload_n C0.1 C0.2.1 dL_law_1154 rfl (lv_at hl 3 rfl) ?_
  refine lv_iconst (v := 2) C0.1 C0.2.1 dL_law_1155 (by decide) ?_
  refine lv_iadd C0.1 C0.2.1 dL_law_1156 ?_
  rw [show nI i + 2 = nI (i + 2) from nI_add i 2]
  refine va_sld C0.1 C0.2.1 hXs hbl hbA w.2 (hn_in (by omega) (by omega)) dL_law_1157 ?_
  refine lv_aload_n C0.1 C0.2.1 dL_law_1158 rfl (lv_at hl 0 rfl) ?_
  refine lv_iload_n C0.1 C0.2.1 dL_law_1159 rfl (lv_at hl 3 rfl) ?_
  refine lv_iconst (v := 3) C0.1 C0.2.1 dL_law_1160 (by decide) ?_
  refine lv_iadd C0.1 C0.2.1 dL_law_1161 ?_
  rw [show nI i + 3 = nI (i + 3) from nI_add i 3]
  refine va_sld C0.1 C0.2.1 hXs hbl hbA w.2 (hn_in (by omega) (by omega)) dL_law_1162 ?_
  refine lv_i2l (v := (xs (nI (i + 3)).toNatClampNeg).toInt64) C0.1 C0.2.1 dL_law_1163 rfl ?_
  refine lv_bipush (v := 32) C0.1 C0.2.1 dL_law_1164 (by decide) ?_
  refine lv_lshl C0.1 C0.2.1 dL_law_1166 rfl ?_
  refine lv_aload_n C0.1 C0.2.1 dL_law_1167 rfl (lv_at hl 0 rfl) ?_
  refine lv_iload_n C0.1 C0.2.1 dL_law_1168 rfl (lv_at hl 3 rfl) ?_
  refine lv_iconst (v := 4) C0.1 C0.2.1 dL_law_1169 (by decide) ?_
  refine lv_iadd C0.1 C0.2.1 dL_law_1170 ?_
  rw [show nI i + 4 = nI (i + 4) from nI_add i 4]
  refine va_sld C0.1 C0.2.1 hXs hbl hbA w.2 (hn_in (by omega) (by omega)) dL_law_1171 ?_
  refine lv_i2l (v := (xs (nI (i + 4)).toNatClampNeg).toInt64) C0.1 C0.2.1 dL_law_1172 rfl ?_
  refine lv_ldc2 C0.1 C0.2.1 C0.2.2.2.1 (C0.2.2.2.2.1 _ kk_L_138) dL_law_1173 ?_
  refine lv_land C0.1 C0.2.1 dL_law_1176 ?_
  refine lv_lor C0.1 C0.2.1 dL_law_1177 ?_
  refine hv_cVi C0 w kl_L_140 kv_X6_item rfl hX0 (m_X6_item hx hB) (by decide) (by decide) rfl hl.1 rfl (Nat.le_of_ble_eq_true rfl) dL_law_1178 ⟨Nat.le_of_ble_eq_true rfl, Nat.le_of_ble_eq_true rfl⟩ (fun x1 V2 Hq lq hp3 w => ?_)
  obtain ⟨ey, hx1, ho1⟩ := hp3
  have hm1 : okM X V2 (x + 92) σ := hm.fr (fun q h1 h2 => ho1 q (Or.inr h1))
  obtain ⟨ab, be, pl, cl, sg, ik, hM0, -⟩ := id hm1
  refine lv_aload_n C0.1 C0.2.1 dL_law_1181 rfl (lv_at hl 2 rfl) ?_
  refine lv_aload_n C0.1 C0.2.1 dL_law_1182 rfl (lv_at hl 0 rfl) ?_
  refine lv_iload_n C0.1 C0.2.1 dL_law_1183 rfl (lv_at hl 3 rfl) ?_
  refine lv_iconst (v := 1) C0.1 C0.2.1 dL_law_1184 (by decide) ?_
  refine lv_iadd C0.1 C0.2.1 dL_law_1185 ?_
  rw [show nI i + 1 = nI (i + 1) from nI_add i 1]
  refine va_sld C0.1 C0.2.1 hXs hbl hbA w.2 (hn_in (by omega) (by omega)) dL_law_1186 ?_
  refine lv_aload_n C0.1 C0.2.1 dL_law_1187 rfl (lv_at hl 0 rfl) ?_
  refine lv_iload_n C0.1 C0.2.1 dL_law_1188 rfl (lv_at hl 3 rfl) ?_
  refine lv_iconst (v := 2) C0.1 C0.2.1 dL_law_1189 (by decide) ?_
  refine lv_iadd C0.1 C0.2.1 dL_law_1190 ?_
  rw [show nI i + 2 = nI (i + 2) from nI_add i 2]
  refine va_sld C0.1 C0.2.1 hXs hbl hbA w.2 (hn_in (by omega) (by omega)) dL_law_1191 ?_
  refine lv_aload_n C0.1 C0.2.1 dL_law_1192 rfl (lv_at hl 0 rfl) ?_
  refine lv_iload_n C0.1 C0.2.1 dL_law_1193 rfl (lv_at hl 3 rfl) ?_
  refine lv_iconst (v := 3) C0.1 C0.2.1 dL_law_1194 (by decide) ?_
  refine lv_iadd C0.1 C0.2.1 dL_law_1195 ?_
  rw [show nI i + 3 = nI (i + 3) from nI_add i 3]
  refine va_sld C0.1 C0.2.1 hXs hbl hbA w.2 (hn_in (by omega) (by omega)) dL_law_1196 ?_
  refine lv_i2l (v := (xs (nI (i + 3)).toNatClampNeg).toInt64) C0.1 C0.2.1 dL_law_1197 rfl ?_
  refine lv_bipush (v := 32) C0.1 C0.2.1 dL_law_1198 (by decide) ?_
  refine lv_lshl C0.1 C0.2.1 dL_law_1200 rfl ?_
  refine lv_aload_n C0.1 C0.2.1 dL_law_1201 rfl (lv_at hl 0 rfl) ?_
  refine lv_iload_n C0.1 C0.2.1 dL_law_1202 rfl (lv_at hl 3 rfl) ?_
  refine lv_iconst (v := 4) C0.1 C0.2.1 dL_law_1203 (by decide) ?_
  refine lv_iadd C0.1 C0.2.1 dL_law_1204 ?_
  rw [show nI i + 4 = nI (i + 4) from nI_add i 4]
  refine va_sld C0.1 C0.2.1 hXs hbl hbA w.2 (hn_in (by omega) (by omega)) dL_law_1205 ?_
  refine lv_i2l (v := (xs (nI (i + 4)).toNatClampNeg).toInt64) C0.1 C0.2.1 dL_law_1206 rfl ?_
  refine lv_ldc2 C0.1 C0.2.1 C0.2.2.2.1 (C0.2.2.2.2.1 _ kk_L_138) dL_law_1207 ?_
  refine lv_land C0.1 C0.2.1 dL_law_1210 ?_
  refine lv_lor C0.1 C0.2.1 dL_law_1211 ?_
  refine hv_cVi C0 w kl_L_144 kv_X7_item rfl hM0 (m_X7_item hm1 hB) (by decide) (by decide) rfl hl.1 rfl (Nat.le_of_ble_eq_true rfl) dL_law_1212 ⟨Nat.le_of_ble_eq_true rfl, Nat.le_of_ble_eq_true rfl⟩ (fun x4 V5 Hq lq hp6 w => ?_)
  obtain ⟨ez, hm2, ho2⟩ := hp6
  have hx2 := hx1.fr (V1 := V5) (fun q h1 h2 => ho2 q (Or.inl h2))
  refine lv_icmp_eq (tgt := 1317) C0.1 C0.2.1 dL_law_1215 (by decide) (fun c_1215 => ?_) (fun c_1215 => absurd (ey.trans ez.symm) c_1215)
  exact kk _ _ _ _ hx2 hm2 (hb_itm hB _ _ _) w

set_option maxHeartbeats 4000000 in
set_option maxRecDepth 100000 in
theorem law_peek {p : Program} {l : Launch} {e : Env} {s : State} {m : MethodId} {args : Array Value} {below : List Frame} {meth : Method} {c : Code} {X : hv_X} {V : hv_V} {σ : hs_S} {x b L i : Nat} {xs : Nat → Int32} {Hq : Heap} {lq : List Loc} {ls : Array Slot} {Q : State → Prop} (C0 : hv_C X p s m args c cL_law 4 RL) (hXs : va_X b L xs s s.heap) (hbl : b < s.heap.size) (hbA : ¬ X.2.2.1 b) (hx : okX X V x σ) (hm : okM X V (x + 92) σ) (hB : hs_b σ) (w : hv_w X s V Hq lq) (hl : lv_has ls 4 [(0, .ref b), (1, .ref x), (2, .ref (x + 92)), (3, .int (nI i))]) (hi : i + 6 ≤ L) (hL : L ≤ 3072) (kk : ∀ (σ1 : hs_S) (V1 : hv_V) (Hq : Heap) (lq : List Loc), okX X V1 x σ1 → okM X V1 (x + 92) σ1 → hs_b σ1 → hv_w X s V1 Hq lq → W p l e (hv_rm 2048 600000 7302250) s m args below meth c Hq lq 142 2151 Q (F0 m 1317 ls [])) : W p l e (hv_rm 2048 600000 7302250) s m args below meth c Hq lq 142 2151 Q (F0 m 1220 ls []) := by
  obtain ⟨kk0, hX0, -⟩ := id hx
  refine lv_aload_n C0.1 C0.2.1 dL_law_1220 rfl (lv_at hl 1 rfl) ?_
  refine lv_aload_n C0.1 C0.2.1 dL_law_1221 rfl (lv_at hl 0 rfl) ?_
  refine lv_iload_n C0.1 C0.2.1 dL_law_1222 rfl (lv_at hl 3 rfl) ?_
  refine lv_iconst (v := 1) C0.1 C0.2.1 dL_law_1223 (by decide) ?_
  refine lv_iadd C0.1 C0.2.1 dL_law_1224 ?_
  rw [show nI i + 1 = nI (i + 1) from nI_add i 1]
  refine va_sld C0.1 C0.2.1 hXs hbl hbA w.2 (hn_in (by omega) (by omega)) dL_law_1225 ?_
  refine lv_aload_n C0.1 C0.2.1 dL_law_1226 rfl (lv_at hl 0 rfl) ?_
  refine lv_iload_n C0.1 C0.2.1 dL_law_1227 rfl (lv_at hl 3 rfl) ?_
  refine lv_iconst (v := 2) C0.1 C0.2.1 dL_law_1228 (by decide) ?_
  refine lv_iadd C0.1 C0.2.1 dL_law_1229 ?_
  rw [show nI i + 2 = nI (i + 2) from nI_add i 2]
  refine va_sld C0.1 C0.2.1 hXs hbl hbA w.2 (hn_in (by omega) (by omega)) dL_law_1230 ?_
  refine hv_cVl C0 w kl_L_145 kv_X6_peek rfl hX0 (m_X6_peek hx hB) (by decide) (by decide) rfl hl.1 rfl (Nat.le_of_ble_eq_true rfl) dL_law_1231 ⟨Nat.le_of_ble_eq_true rfl, Nat.le_of_ble_eq_true rfl⟩ (fun x1 V2 Hq lq hp3 w => ?_)
  obtain ⟨ey, hx1, ho1⟩ := hp3
  have hm1 : okM X V2 (x + 92) σ := hm.fr (fun q h1 h2 => ho1 q (Or.inr h1))
  obtain ⟨ab, be, pl, cl, sg, ik, hM0, -⟩ := id hm1
  refine lv_aload_n C0.1 C0.2.1 dL_law_1234 rfl (lv_at hl 2 rfl) ?_
  refine lv_aload_n C0.1 C0.2.1 dL_law_1235 rfl (lv_at hl 0 rfl) ?_
  refine lv_iload_n C0.1 C0.2.1 dL_law_1236 rfl (lv_at hl 3 rfl) ?_
  refine lv_iconst (v := 1) C0.1 C0.2.1 dL_law_1237 (by decide) ?_
  refine lv_iadd C0.1 C0.2.1 dL_law_1238 ?_
  rw [show nI i + 1 = nI (i + 1) from nI_add i 1]
  refine va_sld C0.1 C0.2.1 hXs hbl hbA w.2 (hn_in (by omega) (by omega)) dL_law_1239 ?_
  refine lv_aload_n C0.1 C0.2.1 dL_law_1240 rfl (lv_at hl 0 rfl) ?_
  refine lv_iload_n C0.1 C0.2.1 dL_law_1241 rfl (lv_at hl 3 rfl) ?_
  refine lv_iconst (v := 2) C0.1 C0.2.1 dL_law_1242 (by decide) ?_
  refine lv_iadd C0.1 C0.2.1 dL_law_1243 ?_
  rw [show nI i + 2 = nI (i + 2) from nI_add i 2]
  refine va_sld C0.1 C0.2.1 hXs hbl hbA w.2 (hn_in (by omega) (by omega)) dL_law_1244 ?_
  refine hv_cVl C0 w kl_L_148 kv_X7_peek rfl hM0 (m_X7_peek hm1 hB) (by decide) (by decide) rfl hl.1 rfl (Nat.le_of_ble_eq_true rfl) dL_law_1245 ⟨Nat.le_of_ble_eq_true rfl, Nat.le_of_ble_eq_true rfl⟩ (fun x4 V5 Hq lq hp6 w => ?_)
  obtain ⟨ez, hm2, ho2⟩ := hp6
  have hx2 := hx1.fr (V1 := V5) (fun q h1 h2 => ho2 q (Or.inl h2))
  refine hv_lc_eq (tgt := 1317) C0.1 C0.2.1 dL_law_1248 dL_law_1249 (by decide) (fun c_1248 => ?_) (fun c_1248 => absurd (ey.trans ez.symm) c_1248)
  exact kk _ _ _ _ hx2 hm2 (hB) w

set_option maxHeartbeats 4000000 in
set_option maxRecDepth 100000 in
theorem law_shift {p : Program} {l : Launch} {e : Env} {s : State} {m : MethodId} {args : Array Value} {below : List Frame} {meth : Method} {c : Code} {X : hv_X} {V : hv_V} {σ : hs_S} {x b L i : Nat} {xs : Nat → Int32} {Hq : Heap} {lq : List Loc} {ls : Array Slot} {Q : State → Prop} (C0 : hv_C X p s m args c cL_law 4 RL) (hXs : va_X b L xs s s.heap) (hbl : b < s.heap.size) (hbA : ¬ X.2.2.1 b) (hx : okX X V x σ) (hm : okM X V (x + 92) σ) (hB : hs_b σ) (w : hv_w X s V Hq lq) (hl : lv_has ls 4 [(0, .ref b), (1, .ref x), (2, .ref (x + 92)), (3, .int (nI i))]) (hi : i + 6 ≤ L) (hL : L ≤ 3072) (kk : ∀ (σ1 : hs_S) (V1 : hv_V) (Hq : Heap) (lq : List Loc), okX X V1 x σ1 → okM X V1 (x + 92) σ1 → hs_b σ1 → hv_w X s V1 Hq lq → W p l e (hv_rm 2048 600000 7302250) s m args below meth c Hq lq 142 2151 Q (F0 m 1317 ls [])) : W p l e (hv_rm 2048 600000 7302250) s m args below meth c Hq lq 142 2151 Q (F0 m 1254 ls []) := by
  obtain ⟨kk0, hX0, -⟩ := id hx
  refine lv_aload_n C0.1 C0.2.1 dL_law_1254 rfl (lv_at hl 1 rfl) ?_
  refine lv_aload_n C0.1 C0.2.1 dL_law_1255 rfl (lv_at hl 0 rfl) ?_
  refine lv_iload_n C0.1 C0.2.1 dL_law_1256 rfl (lv_at hl 3 rfl) ?_
  refine lv_iconst (v := 1) C0.1 C0.2.1 dL_law_1257 (by decide) ?_
  refine lv_iadd C0.1 C0.2.1 dL_law_1258 ?_
  rw [show nI i + 1 = nI (i + 1) from nI_add i 1]
  refine va_sld C0.1 C0.2.1 hXs hbl hbA w.2 (hn_in (by omega) (by omega)) dL_law_1259 ?_
  refine lv_aload_n C0.1 C0.2.1 dL_law_1260 rfl (lv_at hl 0 rfl) ?_
  refine lv_iload_n C0.1 C0.2.1 dL_law_1261 rfl (lv_at hl 3 rfl) ?_
  refine lv_iconst (v := 2) C0.1 C0.2.1 dL_law_1262 (by decide) ?_
  refine lv_iadd C0.1 C0.2.1 dL_law_1263 ?_
  rw [show nI i + 2 = nI (i + 2) from nI_add i 2]
  refine va_sld C0.1 C0.2.1 hXs hbl hbA w.2 (hn_in (by omega) (by omega)) dL_law_1264 ?_
  refine lv_aload_n C0.1 C0.2.1 dL_law_1265 rfl (lv_at hl 0 rfl) ?_
  refine lv_iload_n C0.1 C0.2.1 dL_law_1266 rfl (lv_at hl 3 rfl) ?_
  refine lv_iconst (v := 3) C0.1 C0.2.1 dL_law_1267 (by decide) ?_
  refine lv_iadd C0.1 C0.2.1 dL_law_1268 ?_
  rw [show nI i + 3 = nI (i + 3) from nI_add i 3]
  refine va_sld C0.1 C0.2.1 hXs hbl hbA w.2 (hn_in (by omega) (by omega)) dL_law_1269 ?_
  refine lv_aload_n C0.1 C0.2.1 dL_law_1270 rfl (lv_at hl 0 rfl) ?_
  refine lv_iload_n C0.1 C0.2.1 dL_law_1271 rfl (lv_at hl 3 rfl) ?_
  refine lv_iconst (v := 4) C0.1 C0.2.1 dL_law_1272 (by decide) ?_
  refine lv_iadd C0.1 C0.2.1 dL_law_1273 ?_
  rw [show nI i + 4 = nI (i + 4) from nI_add i 4]
  refine va_sld C0.1 C0.2.1 hXs hbl hbA w.2 (hn_in (by omega) (by omega)) dL_law_1274 ?_
  refine lv_aload_n C0.1 C0.2.1 dL_law_1275 rfl (lv_at hl 0 rfl) ?_
  refine lv_iload_n C0.1 C0.2.1 dL_law_1276 rfl (lv_at hl 3 rfl) ?_
  refine lv_iconst (v := 5) C0.1 C0.2.1 dL_law_1277 (by decide) ?_
  refine lv_iadd C0.1 C0.2.1 dL_law_1278 ?_
  rw [show nI i + 5 = nI (i + 5) from nI_add i 5]
  refine va_sld C0.1 C0.2.1 hXs hbl hbA w.2 (hn_in (by omega) (by omega)) dL_law_1279 ?_
  refine hv_cVi C0 w kl_L_149 kv_X6_shift rfl hX0 (m_X6_shift hx hB) (by decide) (by decide) rfl hl.1 rfl (Nat.le_of_ble_eq_true rfl) dL_law_1280 ⟨Nat.le_of_ble_eq_true rfl, Nat.le_of_ble_eq_true rfl⟩ (fun x1 V2 Hq lq hp3 w => ?_)
  obtain ⟨ey, hx1, ho1⟩ := hp3
  have hm1 : okM X V2 (x + 92) σ := hm.fr (fun q h1 h2 => ho1 q (Or.inr h1))
  obtain ⟨ab, be, pl, cl, sg, ik, hM0, -⟩ := id hm1
  refine lv_aload_n C0.1 C0.2.1 dL_law_1283 rfl (lv_at hl 2 rfl) ?_
  refine lv_aload_n C0.1 C0.2.1 dL_law_1284 rfl (lv_at hl 0 rfl) ?_
  refine lv_iload_n C0.1 C0.2.1 dL_law_1285 rfl (lv_at hl 3 rfl) ?_
  refine lv_iconst (v := 1) C0.1 C0.2.1 dL_law_1286 (by decide) ?_
  refine lv_iadd C0.1 C0.2.1 dL_law_1287 ?_
  rw [show nI i + 1 = nI (i + 1) from nI_add i 1]
  refine va_sld C0.1 C0.2.1 hXs hbl hbA w.2 (hn_in (by omega) (by omega)) dL_law_1288 ?_
  refine lv_aload_n C0.1 C0.2.1 dL_law_1289 rfl (lv_at hl 0 rfl) ?_
  refine lv_iload_n C0.1 C0.2.1 dL_law_1290 rfl (lv_at hl 3 rfl) ?_
  refine lv_iconst (v := 2) C0.1 C0.2.1 dL_law_1291 (by decide) ?_
  refine lv_iadd C0.1 C0.2.1 dL_law_1292 ?_
  rw [show nI i + 2 = nI (i + 2) from nI_add i 2]
  refine va_sld C0.1 C0.2.1 hXs hbl hbA w.2 (hn_in (by omega) (by omega)) dL_law_1293 ?_
  refine lv_aload_n C0.1 C0.2.1 dL_law_1294 rfl (lv_at hl 0 rfl) ?_
  refine lv_iload_n C0.1 C0.2.1 dL_law_1295 rfl (lv_at hl 3 rfl) ?_
  refine lv_iconst (v := 3) C0.1 C0.2.1 dL_law_1296 (by decide) ?_
  refine lv_iadd C0.1 C0.2.1 dL_law_1297 ?_
  rw [show nI i + 3 = nI (i + 3) from nI_add i 3]
  refine va_sld C0.1 C0.2.1 hXs hbl hbA w.2 (hn_in (by omega) (by omega)) dL_law_1298 ?_
  refine lv_aload_n C0.1 C0.2.1 dL_law_1299 rfl (lv_at hl 0 rfl) ?_
  refine lv_iload_n C0.1 C0.2.1 dL_law_1300 rfl (lv_at hl 3 rfl) ?_
  refine lv_iconst (v := 4) C0.1 C0.2.1 dL_law_1301 (by decide) ?_
  refine lv_iadd C0.1 C0.2.1 dL_law_1302 ?_
  rw [show nI i + 4 = nI (i + 4) from nI_add i 4]
  refine va_sld C0.1 C0.2.1 hXs hbl hbA w.2 (hn_in (by omega) (by omega)) dL_law_1303 ?_
  refine lv_aload_n C0.1 C0.2.1 dL_law_1304 rfl (lv_at hl 0 rfl) ?_
  refine lv_iload_n C0.1 C0.2.1 dL_law_1305 rfl (lv_at hl 3 rfl) ?_
  refine lv_iconst (v := 5) C0.1 C0.2.1 dL_law_1306 (by decide) ?_
  refine lv_iadd C0.1 C0.2.1 dL_law_1307 ?_
  rw [show nI i + 5 = nI (i + 5) from nI_add i 5]
  refine va_sld C0.1 C0.2.1 hXs hbl hbA w.2 (hn_in (by omega) (by omega)) dL_law_1308 ?_
  refine hv_cVi C0 w kl_L_153 kv_X7_shift rfl hM0 (m_X7_shift hm1 hB) (by decide) (by decide) rfl hl.1 rfl (Nat.le_of_ble_eq_true rfl) dL_law_1309 ⟨Nat.le_of_ble_eq_true rfl, Nat.le_of_ble_eq_true rfl⟩ (fun x4 V5 Hq lq hp6 w => ?_)
  obtain ⟨ez, hm2, ho2⟩ := hp6
  have hx2 := hx1.fr (V1 := V5) (fun q h1 h2 => ho2 q (Or.inl h2))
  refine lv_icmp_eq (tgt := 1317) C0.1 C0.2.1 dL_law_1312 (by decide) (fun c_1312 => ?_) (fun c_1312 => absurd (ey.trans ez.symm) c_1312)
  exact kk _ _ _ _ hx2 hm2 (hb_shift hB _ _ _ _ _) w

