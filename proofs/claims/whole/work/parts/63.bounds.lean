/-! THE BOUNDS ARE KEPT by every call -/
theorem fx_pl_b {a b : Int64} : fx_proper (fx_become a b) → fx_lt1 (fx_become a b) := by
  intro h
  unfold fx_become at h ⊢
  by_cases c1 : fx_div a b ≤ 0
  · rw [if_pos c1] at h; exact absurd rfl h.1
  · rw [if_neg c1] at h ⊢
    by_cases c2 : 1000000000 < fx_abs (a / fx_div a b) ∨ 1000000000 < b / fx_div a b
    · rw [if_pos c2] at h; exact absurd rfl h.1
    · rw [if_neg c2] at h ⊢
      obtain ⟨h1, h2, h3⟩ := h
      have h2 : 0 < a / fx_div a b := h2
      have h3 : a / fx_div a b < b / fx_div a b := h3
      have k1 := Int64.lt_iff_toInt_lt.mp h2
      rw [i64_0] at k1
      have k2 := Int64.lt_iff_toInt_lt.mp h3
      have k3 := i64_Mle (fun q => c2 (Or.inr q))
      exact ⟨rfl, ⟨⟨by show _ ≤ (a / fx_div a b).toInt; omega, by show (a / fx_div a b).toInt ≤ _; omega⟩, by show 1 ≤ (b / fx_div a b).toInt; omega, k3⟩, by show 0 ≤ (a / fx_div a b).toInt; omega, k2⟩
theorem fx_pl_out {kd : Int32} {n : Nat} {a : Int64} {F : fx_F} : fx_proper (fx_out kd n a F) → fx_lt1 (fx_out kd n a F) := by
  unfold fx_out
  by_cases c0 : kd = 0
  · rw [if_pos c0]; exact fx_pl_b
  · rw [if_neg c0]
    by_cases c1 : kd = 1
    · rw [if_pos c1]; exact fx_pl_b
    · rw [if_neg c1]
      by_cases c2 : kd = 2
      · rw [if_pos c2]; exact fx_pl_b
      · rw [if_neg c2]; exact fx_pl_b
theorem fx_pl_add {F : fx_F} {a b : Int64} : fx_proper (fx_addOn F a b) → fx_lt1 (fx_addOn F a b) := by
  unfold fx_addOn
  by_cases c : F.2.2 = 0
  · rw [if_pos c]; exact fun h => absurd c h.1
  · rw [if_neg c]; exact fx_pl_b
theorem fx_pl_comb {F G : fx_F} {h : Int32} : fx_proper (sp_comb F G h) → fx_lt1 (sp_comb F G h) := by
  unfold sp_comb
  by_cases c0 : h = 0
  · rw [if_pos c0]; exact fx_pl_add
  · rw [if_neg c0]
    by_cases c1 : h = 1
    · rw [if_pos c1]
      unfold fx_takeAway
      by_cases c : F.2.2 = 0 ∨ G.2.2 = 0
      · rw [if_pos c]; exact fun h => absurd rfl h.1
      · rw [if_neg c]; exact fx_pl_add
    · rw [if_neg c1]
      unfold fx_mul
      by_cases c : F.2.2 = 0 ∨ G.2.2 = 0
      · rw [if_pos c]; exact fun h => absurd rfl h.1
      · rw [if_neg c]; exact fx_pl_b
theorem fx_nx0 {kd : Int32} {n : Nat} {F : fx_F} (hn : n ≤ 100) (h : fx_lt1 F) (hp : fx_proper F) : 0 ≤ (fx_next kd n F).toInt := by
  have k1 := Int64.lt_iff_toInt_lt.mp hp.2.1
  rw [i64_0] at k1
  have k2 := h.2.2.2
  unfold fx_next
  by_cases c : kd = 0 ∨ kd = 1
  · rw [if_pos c, if_pos hp.2.1]
    have := (fx_up_ok h (fun e => by rw [e, i64_0] at k1; omega)).1
    omega
  · rw [if_neg c]
    by_cases c2 : kd = 2
    · rw [if_pos c2, if_pos hp.2.1, i64_div (by omega) (by omega)]
      exact Int.ediv_nonneg (by omega) (by omega)
    · rw [if_neg c2, if_pos (Int64.lt_iff_toInt_lt.mpr (by rw [i64_0]; omega))]
      have p1 := i64_mpos (a := F.1) (b := (nI n + 2).toInt64) ⟨by omega, h.2.1.1.2⟩ (i64_n2 hn)
      rw [i64_div p1.2.1 (by omega)]
      exact Int.ediv_nonneg p1.2.1 (by omega)
theorem fx_nx {kd : Int32} {n : Nat} {F : fx_F} (hn : n ≤ 100) (h : fx_lt1 F) (hp : fx_proper F) (ha : ¬ 1000000000 < fx_next kd n F) : 0 ≤ (fx_next kd n F).toInt32 ∧ (fx_next kd n F).toInt32 ≤ 1000000000 := by
  have h0 := fx_nx0 (kd := kd) hn h hp
  have h1 := i64_Mle ha
  have e : (fx_next kd n F).toInt32.toInt = (fx_next kd n F).toInt := by
    rw [Int64.toInt_toInt32]
    apply Int.bmod_eq_of_le <;> omega
  have z0 : (0 : Int32).toInt = 0 := by decide
  have zM : (1000000000 : Int32).toInt = 1000000000 := by decide
  exact ⟨Int32.le_iff_toInt_le.mpr (by rw [e, z0]; exact h0), Int32.le_iff_toInt_le.mpr (by rw [e, zM]; exact h1)⟩
theorem fx_unfb {kd : Int32} : ∀ (m n : Nat) (f : Nat → Int32) (F : fx_F), (fx_proper F → fx_lt1 F) → n + m ≤ 100 → (∀ i, 0 ≤ f i ∧ f i ≤ 1000000000) → (fx_unf kd m n f F).1 ≤ n + m ∧ ∀ i, 0 ≤ (fx_unf kd m n f F).2.1 i ∧ (fx_unf kd m n f F).2.1 i ≤ 1000000000
  | 0, n, f, F, _, _, hf => ⟨Nat.le_refl _, hf⟩
  | m + 1, n, f, F, h, hn, hf => by
    by_cases hp : fx_proper F
    · by_cases ha : 1000000000 < fx_next kd n F
      · rw [fx_unf_w hp ha]; exact ⟨by show n ≤ _; omega, hf⟩
      · by_cases ho : (fx_out kd n (fx_next kd n F) F).2.2 = 0
        · rw [fx_unf_n hp ha ho]; exact ⟨by show n ≤ _; omega, hf⟩
        · rw [fx_unf_s hp ha ho]
          have ih := fx_unfb (kd := kd) m (n + 1) (upd f n (fx_next kd n F).toInt32) (fx_out kd n (fx_next kd n F) F) fx_pl_out (by omega) (fun i => by
            by_cases q : i = n
            · rw [show upd f n (fx_next kd n F).toInt32 i = (fx_next kd n F).toInt32 from if_pos q]; exact fx_nx (by omega) (h hp) hp ha
            · rw [show upd f n (fx_next kd n F).toInt32 i = f i from if_neg q]; exact hf i)
          exact ⟨by omega, ih.2⟩
    · rw [fx_unf_np hp]; exact ⟨by show n ≤ _; omega, hf⟩
theorem hs_cl {r : Int32} {k : Nat} (hk : k < 2 ^ 31) (h : sp_in r 0 (nI k)) : r.toNatClampNeg ≤ k := by
  obtain ⟨j, hj, rfl⟩ := sp_inN hk h
  rw [nI_clamp (by omega)]
  omega
theorem hs_c5 {r : Int32} (h : sp_in r 0 5) : r.toNatClampNeg < 6 := Nat.lt_succ_of_le (hs_cl (k := 5) (by decide) h)
theorem hb_row {σ : hs_S} (hB : hs_b σ) {j n : Nat} {kd : Int32} {f : Nat → Int32} (hk : 0 ≤ kd ∧ kd ≤ 3) (hn : n ≤ 16) (hf : ∀ i, 0 ≤ f i ∧ f i ≤ 1000000000) : hs_b (hs_row σ.1 j kd n f, σ.2) := by
  refine ⟨⟨fun i hi => ?_, hB.1.2⟩, hB.2⟩
  show (0 ≤ hs_up σ.1.1.1 j kd i ∧ hs_up σ.1.1.1 j kd i ≤ 3) ∧ hs_up σ.1.1.2.1 j n i ≤ 16 ∧ ∀ q, 0 ≤ hs_up σ.1.1.2.2 j f i q ∧ hs_up σ.1.1.2.2 j f i q ≤ 1000000000
  by_cases q : i = j
  · subst q; rw [hs_us, hs_us, hs_us]; exact ⟨hk, hn, hf⟩
  · rw [hs_un q, hs_un q, hs_un q]; exact hB.1.1 i hi
theorem hb_begin {σ : hs_S} (hB : hs_b σ) (r k : Int32) : hs_b (sp_begin σ r k).2 := by
  unfold sp_begin
  by_cases h : sp_in r 0 5 ∧ sp_in k 0 3
  · rw [if_pos h]; exact hb_row hB h.2 (Nat.zero_le _) (hB.1.1 _ (hs_c5 h.1)).2.2
  · rw [if_neg h]; exact hB
theorem hb_upd {f : Nat → Int32} {n : Nat} {v a b : Int32} (hf : ∀ i, a ≤ f i ∧ f i ≤ b) (hv : a ≤ v ∧ v ≤ b) : ∀ i, a ≤ upd f n v i ∧ upd f n v i ≤ b := fun i => by
  by_cases q : i = n
  · rw [show upd f n v i = v from if_pos q]; exact hv
  · rw [show upd f n v i = f i from if_neg q]; exact hf i
theorem hb_add {σ : hs_S} (hB : hs_b σ) (r v : Int32) : hs_b (sp_add σ r v).2 := by
  unfold sp_add
  by_cases h : sp_in r 0 5
  · rw [if_pos h]
    have hr := hB.1.1 _ (hs_c5 h)
    by_cases h1 : sp_in v 0 1000000000
    · rw [if_pos h1]
      by_cases h2 : σ.1.1.2.1 r.toNatClampNeg < 16
      · rw [if_pos h2]; exact hb_row hB hr.1 (by omega) (hb_upd hr.2.2 h1)
      · rw [if_neg h2]; exact hB
    · rw [if_neg h1]; exact hB
  · rw [if_neg h]; exact hB
theorem hb_cut {σ : hs_S} (hB : hs_b σ) (r n : Int32) : hs_b (sp_cut σ r n).2 := by
  unfold sp_cut
  by_cases h : sp_in r 0 5
  · rw [if_pos h]
    have hr := hB.1.1 _ (hs_c5 h)
    by_cases h1 : sp_in n 0 (nI (σ.1.1.2.1 r.toNatClampNeg))
    · rw [if_pos h1]; exact hb_row hB hr.1 (Nat.le_trans (hs_cl (by omega) h1) hr.2.1) hr.2.2
    · rw [if_neg h1]; exact hB
  · rw [if_neg h]; exact hB
theorem hb_copies {σ : hs_S} (hB : hs_b σ) (r f : Int32) : hs_b (sp_copies σ r f).2 := by
  unfold sp_copies
  by_cases h : sp_in r 0 5 ∧ sp_in f 0 5
  · rw [if_pos h]
    have hr := hB.1.1 _ (hs_c5 h.2)
    exact hb_row hB hr.1 hr.2.1 hr.2.2
  · rw [if_neg h]; exact hB
theorem hb_sprd {σ : hs_S} (hB : hs_b σ) {j : Nat} (hj : j < 6) {k : Int32} (hk : 0 ≤ k ∧ k ≤ 3) {F : fx_F} (hF : fx_proper F → fx_lt1 F) : hs_b (sp_sprd σ j k F).2 := by
  have h := fx_unfb (kd := k) 16 0 (σ.1.1.2.2 j) F hF (by omega) (hB.1.1 j hj).2.2
  exact hb_row hB hk (by omega) h.2
theorem hb_spread {σ : hs_S} (hB : hs_b σ) (r k u lo : Int32) : hs_b (sp_spread σ r k u lo).2 := by
  unfold sp_spread
  by_cases h : sp_in r 0 5 ∧ sp_in k 0 3
  · rw [if_pos h]
    by_cases h1 : sp_in u 1 999999 ∧ sp_in lo 1 999999 ∧ u < lo
    · rw [if_pos h1]; exact hb_sprd hB (hs_c5 h.1) h.2 fx_pl_b
    · rw [if_neg h1]; exact hB
  · rw [if_neg h]; exact hB
theorem hb_works {σ : hs_S} (hB : hs_b σ) (r a b h : Int32) : hs_b (sp_works σ r a b h).2 := by
  unfold sp_works
  by_cases h0 : sp_in r 0 5 ∧ sp_in a 0 5 ∧ sp_in b 0 5 ∧ sp_in h 0 2
  · rw [if_pos h0]
    by_cases h1 : (sp_w σ a.toNatClampNeg (σ.1.1.2.1 a.toNatClampNeg)).2.2 = 0 ∨ (sp_w σ b.toNatClampNeg (σ.1.1.2.1 b.toNatClampNeg)).2.2 = 0
    · rw [if_pos h1]; exact hB
    · rw [if_neg h1]
      by_cases h2 : fx_proper (sp_comb (sp_w σ a.toNatClampNeg (σ.1.1.2.1 a.toNatClampNeg)) (sp_w σ b.toNatClampNeg (σ.1.1.2.1 b.toNatClampNeg)) h)
      · rw [if_pos h2]; exact hb_sprd hB (hs_c5 h0.1) (hB.1.1 _ (hs_c5 h0.1)).1 fx_pl_comb
      · rw [if_neg h2]; exact hB
  · rw [if_neg h0]; exact hB
theorem hb_tapes {σ : hs_S} (hB : hs_b σ) {j n : Nat} {so : Int32} {g : Nat → Int64} (h1 : -1 ≤ so ∧ so ≤ 4) (h2 : n ≤ 60) (h3 : so = -1 → n = 0) : hs_b (σ.1, σ.2.1, σ.2.2.1, hs_tape σ.2.2.2 j so n g) := by
  refine ⟨hB.1, hB.2.1, hB.2.2.1, hB.2.2.2.1, fun i hi => ?_⟩
  show (-1 ≤ hs_up σ.2.2.2.1 j so i ∧ hs_up σ.2.2.2.1 j so i ≤ 4) ∧ hs_up σ.2.2.2.2.1 j n i ≤ 60 ∧ (hs_up σ.2.2.2.1 j so i = -1 → hs_up σ.2.2.2.2.1 j n i = 0)
  by_cases q : i = j
  · subst q; rw [hs_us, hs_us]; exact ⟨h1, h2, h3⟩
  · rw [hs_un q, hs_un q]; exact hB.2.2.2.2 i hi
theorem hb_tape {σ : hs_S} (hB : hs_b σ) (t so n : Int32) : hs_b (sp_tape σ t so n).2 := by
  unfold sp_tape
  by_cases h : sp_in t 0 5
  · rw [if_pos h]
    by_cases h1 : so = -1
    · rw [if_pos h1]; exact hb_tapes hB (by decide) (Nat.zero_le _) (fun _ => rfl)
    · rw [if_neg h1]
      by_cases h2 : sp_in so 0 4 ∧ n ≤ 60
      · rw [if_pos h2]
        by_cases h3 : n < 0
        · rw [if_pos h3]; exact hB
        · rw [if_neg h3]
          exact hb_tapes hB ⟨Int32.le_trans (by decide) h2.1.1, h2.1.2⟩ (hs_cl (k := 60) (by decide) ⟨Int32.not_lt.mp h3, h2.2⟩) (fun e => absurd e h1)
      · rw [if_neg h2]; exact hB
  · rw [if_neg h]; exact hB
theorem hb_itm {σ : hs_S} (hB : hs_b σ) (t i : Int32) (v : Int64) : hs_b (sp_itm σ t i v).2 := by
  unfold sp_itm
  by_cases h : sp_in t 0 5
  · rw [if_pos h]
    have ht := hB.2.2.2.2 _ (hs_c5 h)
    by_cases h1 : σ.2.2.2.1 t.toNatClampNeg = -1
    · rw [if_pos h1]; exact hB
    · rw [if_neg h1]
      by_cases h2 : ¬ (i < 0 ∨ σ.2.2.2.2.1 t.toNatClampNeg ≤ i.toNatClampNeg)
      · rw [if_pos h2]; exact hb_tapes hB ht.1 ht.2.1 ht.2.2
      · rw [if_neg h2]; exact hB
  · rw [if_neg h]; exact hB
theorem hb_shift {σ : hs_S} (hB : hs_b σ) (t i o j n : Int32) : hs_b (sp_shift σ t i o j n).2 := by
  unfold sp_shift
  by_cases h : sp_in t 0 5 ∧ sp_in o 0 5
  · rw [if_pos h]
    have ht := hB.2.2.2.2 _ (hs_c5 h.2)
    by_cases h1 : σ.2.2.2.1 t.toNatClampNeg = -1 ∨ σ.2.2.2.1 o.toNatClampNeg = -1
    · rw [if_pos h1]; exact hB
    · rw [if_neg h1]
      by_cases h2 : σ.2.2.2.1 t.toNatClampNeg = σ.2.2.2.1 o.toNatClampNeg
      · rw [if_pos h2]
        by_cases h3 : sp_hold i n (σ.2.2.2.2.1 t.toNatClampNeg) ∧ sp_hold j n (σ.2.2.2.2.1 o.toNatClampNeg)
        · rw [if_pos h3]; exact hb_tapes hB ht.1 ht.2.1 ht.2.2
        · rw [if_neg h3]; exact hB
      · rw [if_neg h2]; exact hB
  · rw [if_neg h]; exact hB
theorem hb_feed {σ : hs_S} (hB : hs_b σ) (v : Int32) : hs_b (sp_feed σ v).2 := by
  unfold sp_feed
  by_cases h : sp_in v 0 127
  · rw [if_pos h]
    by_cases h1 : σ.2.2.1.1 < 100
    · rw [if_pos h1]
      refine ⟨hB.1, hB.2.1, by show σ.2.2.1.1 + 1 ≤ 100; omega, hb_upd hB.2.2.2.1 ?_, hB.2.2.2.2⟩
      obtain ⟨j, hj, rfl⟩ := sp_inN (k := 127) (by decide) h
      rw [wr_byte j (by omega)]
      exact h
    · rw [if_neg h1]; exact hB
  · rw [if_neg h]; exact hB
theorem hb_put {L : hs_L} {M : Nat} {Q : Int32 → Int32 → Int32 → Prop} (h : ∀ j, j < L.1 → Q (L.2.1 j) (L.2.2.1 j) (L.2.2.2 j)) {a b c : Int32} (hq : Q a b c) : ∀ j, j < (hs_put L a b c).1 → Q ((hs_put L a b c).2.1 j) ((hs_put L a b c).2.2.1 j) ((hs_put L a b c).2.2.2 j) := fun j hj => by
  have hj : j < L.1 + 1 := hj
  show Q (upd L.2.1 L.1 a j) (upd L.2.2.1 L.1 b j) (upd L.2.2.2 L.1 c j)
  by_cases q : j = L.1
  · subst q
    rw [show upd L.2.1 L.1 a L.1 = a from if_pos rfl, show upd L.2.2.1 L.1 b L.1 = b from if_pos rfl, show upd L.2.2.2 L.1 c L.1 = c from if_pos rfl]
    exact hq
  · rw [show upd L.2.1 L.1 a j = L.2.1 j from if_neg q, show upd L.2.2.1 L.1 b j = L.2.2.1 j from if_neg q, show upd L.2.2.2 L.1 c j = L.2.2.2 j from if_neg q]
    exact h j (by omega)
theorem hb_see {σ : hs_S} (hB : hs_b σ) (r u lo : Int32) : hs_b (sp_see σ r u lo).2 := by
  unfold sp_see
  by_cases h : r = -1
  · rw [if_pos h]; exact ⟨⟨hB.1.1, ⟨Nat.zero_le _, fun j hj => absurd hj (Nat.not_lt_zero j)⟩, hB.1.2.2⟩, hB.2⟩
  · rw [if_neg h]
    by_cases h1 : sp_in r 0 5
    · rw [if_pos h1]
      by_cases h2 : sp_in u 1 9999 ∧ sp_in lo 1 9999
      · rw [if_pos h2]
        by_cases h3 : σ.1.2.1.1 < 4
        · rw [if_pos h3]
          exact ⟨⟨hB.1.1, ⟨by show σ.1.2.1.1 + 1 ≤ 4; omega, hb_put (M := 4) (Q := fun a b c => (0 ≤ a ∧ a ≤ 5) ∧ (1 ≤ b ∧ b ≤ 9999) ∧ (1 ≤ c ∧ c ≤ 9999)) hB.1.2.1.2 ⟨h1, h2.1, h2.2⟩⟩, hB.1.2.2⟩, hB.2⟩
        · rw [if_neg h3]; exact hB
      · rw [if_neg h2]; exact hB
    · rw [if_neg h1]; exact hB
theorem hb_event {σ : hs_S} (hB : hs_b σ) (k r : Int32) : hs_b (sp_event σ k r).2 := by
  unfold sp_event
  by_cases h : k = -1
  · rw [if_pos h]; exact ⟨⟨hB.1.1, hB.1.2.1, ⟨Nat.zero_le _, fun j hj => absurd hj (Nat.not_lt_zero j)⟩, hB.1.2.2.2⟩, hB.2⟩
  · rw [if_neg h]
    by_cases h1 : sp_in k 0 2 ∧ sp_in r 0 5
    · rw [if_pos h1]
      by_cases h3 : σ.1.2.2.1.1 < 8
      · rw [if_pos h3]
        exact ⟨⟨hB.1.1, hB.1.2.1, ⟨by show σ.1.2.2.1.1 + 1 ≤ 8; omega, hb_put (M := 8) (Q := fun a b _ => (0 ≤ a ∧ a ≤ 2) ∧ (0 ≤ b ∧ b ≤ 5)) hB.1.2.2.1.2 ⟨h1.1, h1.2⟩⟩, hB.1.2.2.2⟩, hB.2⟩
      · rw [if_neg h3]; exact hB
    · rw [if_neg h1]; exact hB
theorem nI_div100 {v : Nat} (h : v < 2 ^ 31) : nI v / 100 = nI (v / 100) := by
  apply Int32.toInt_inj.mp
  have e : (100 : Int32).toInt = 100 := by decide
  have h1 := nI_toInt h
  rw [Int32.toInt_div_of_ne_right _ _ (by decide), h1, e, nI_toInt (by omega)]
  rw [Int.tdiv_eq_ediv_of_nonneg (by omega)]
  omega
theorem hs_spot {σ : hs_S} (hB : hs_b σ) {p : Int32} (h : sp_spot σ p) : ∃ r i : Nat, r < 6 ∧ i < 16 ∧ p = nI (100 * r + i) := by
  obtain ⟨h0, h1, h2⟩ := h
  obtain ⟨P, hP, rfl, -⟩ := nI_bk h0
  have hr := hs_c5 h1
  rw [nI_div100 hP] at h2 hr
  rw [nI_clamp (by omega)] at h2 hr
  have hs := (hB.1.1 _ hr).2.1
  rw [show (100 : Int32) = nI 100 from rfl, nI_mul, nI_sub (by omega)] at h2
  have h3 := (nI_ltI (by omega) (by omega)).mp h2
  exact ⟨P / 100, P - P / 100 * 100, hr, by omega, by rw [show 100 * (P / 100) + (P - P / 100 * 100) = P by omega]⟩
theorem hb_book {σ : hs_S} (hB : hs_b σ) (p v : Int32) : hs_b (sp_book σ p v).2 := by
  unfold sp_book
  by_cases h : p = -1
  · rw [if_pos h]; exact ⟨⟨hB.1.1, hB.1.2.1, hB.1.2.2.1, ⟨Nat.zero_le _, fun j hj => absurd hj (Nat.not_lt_zero j)⟩⟩, hB.2⟩
  · rw [if_neg h]
    by_cases h1 : sp_spot σ p
    · rw [if_pos h1]
      by_cases h2 : sp_in v 0 1000000000
      · rw [if_pos h2]
        by_cases h3 : σ.1.2.2.2.1 < 8
        · rw [if_pos h3]
          exact ⟨⟨hB.1.1, hB.1.2.1, hB.1.2.2.1, ⟨by show σ.1.2.2.2.1 + 1 ≤ 8; omega, hb_put (M := 8) (Q := fun a _ _ => ∃ r i : Nat, r < 6 ∧ i < 16 ∧ a = nI (100 * r + i)) hB.1.2.2.2.2 (hs_spot hB h1)⟩⟩, hB.2⟩
        · rw [if_neg h3]; exact hB
      · rw [if_neg h2]; exact hB
    · rw [if_neg h1]; exact hB
theorem hb_image {σ : hs_S} (hB : hs_b σ) : hs_b (sp_image σ).2 := ⟨hB.1, fun P h => by rw [← Option.some.inj h]; exact hB.1, hB.2.2⟩
theorem hb_undo {σ : hs_S} (hB : hs_b σ) : hs_b (sp_undo σ).2 := by
  unfold sp_undo
  cases h : σ.2.1 with
  | none => exact hB
  | some P => exact ⟨hB.2.1 P h, fun Q hQ => hB.2.1 Q (h.trans hQ), hB.2.2⟩
theorem hb_do {σ : hs_S} (hB : hs_b σ) (T : rd_T) (i : Nat) : hs_b (sp_do T i σ).2 := by
  unfold sp_do
  by_cases h0 : (rd_w T (rd_P T i)).1 = 0
  · rw [if_pos h0]; exact hb_spread hB _ _ _ _
  · rw [if_neg h0]
    by_cases h1 : (rd_w T (rd_P T i)).1 = 1
    · rw [if_pos h1]; exact hb_begin hB _ _
    · rw [if_neg h1]
      by_cases h2 : (rd_w T (rd_P T i)).1 = 2
      · rw [if_pos h2]; exact hb_add hB _ _
      · rw [if_neg h2]
        by_cases h3 : (rd_w T (rd_P T i)).1 = 3
        · rw [if_pos h3]; exact hb_cut hB _ _
        · rw [if_neg h3]; exact hb_copies hB _ _
theorem hb_run (T : rd_T) : ∀ (m i d : Nat) (σ : hs_S), hs_b σ → hs_b (sp_run T m i d σ).2
  | 0, _, _, _, h => h
  | m + 1, i, d, σ, h => hb_run T m (i + 1) _ _ (hb_do h T i)
theorem hb_gone {σ : hs_S} (hB : hs_b σ) : hs_b (hs_gone σ) := ⟨hB.1, hB.2.1, Nat.zero_le _, hB.2.2.2.1, hB.2.2.2.2⟩
theorem hb_read {σ : hs_S} (hB : hs_b σ) : hs_b (sp_read σ).2 := by
  unfold sp_read
  by_cases h : (rd_all σ.2.2.1 12 0).1 = true
  · rw [if_pos h]; exact hb_run _ _ _ _ _ (hb_gone hB)
  · rw [if_neg h]; exact hb_gone hB
