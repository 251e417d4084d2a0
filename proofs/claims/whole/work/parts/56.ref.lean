abbrev i64_b (a : Int64) (B : Int) : Prop := -B ≤ a.toInt ∧ a.toInt ≤ B
theorem nI_64 {x : Nat} (h : x < 2 ^ 31) : (nI x).toInt64.toInt = (x : Int) := by rw [Int32.toInt_toInt64, nI_toInt h]
theorem un_bd {up low : Int64} {B : Int} {x : Nat} (hB : 1 ≤ B ∧ B ≤ 1000000000) (h1 : i64_b up B) (h2 : 0 < low.toInt ∧ low.toInt ≤ B) (hx : 1 ≤ x ∧ x ≤ 60) : (up * (nI x).toInt64 - low).toInt = up.toInt * x - low.toInt ∧ (low * (nI x).toInt64).toInt = low.toInt * x ∧ i64_b (up * (nI x).toInt64 - low) (61 * B) ∧ 0 < (low * (nI x).toInt64).toInt ∧ (low * (nI x).toInt64).toInt ≤ 61 * B := by
  have e := nI_64 (x := x) (by omega)
  have hxp : i64_ip (nI x).toInt64 := i64_nI (by omega)
  have p1 := i64_mb (a := up) (b := (nI x).toInt64) ⟨by omega, by omega⟩ hxp.in
  have p2 := i64_mb (a := low) (b := (nI x).toInt64) ⟨by omega, by omega⟩ hxp.in
  rw [e] at p1 p2
  have q1 : up.toInt * (x : Int) ≤ B * x := Int.mul_le_mul_of_nonneg_right h1.2 (by omega)
  have q2 : -B * (x : Int) ≤ up.toInt * x := Int.mul_le_mul_of_nonneg_right h1.1 (by omega)
  have q3 : B * (x : Int) ≤ B * 60 := Int.mul_le_mul_of_nonneg_left (by omega) (by omega)
  have q4 : low.toInt * (x : Int) ≤ B * x := Int.mul_le_mul_of_nonneg_right h2.2 (by omega)
  have q5 : low.toInt * 1 ≤ low.toInt * (x : Int) := Int.mul_le_mul_of_nonneg_left (by omega) (by omega)
  have q6 : -B * (x : Int) = -(B * x) := Int.neg_mul B x
  have e2 := i64_sub (a := up * (nI x).toInt64) (b := low) (by omega) (by omega)
  refine ⟨by omega, p2.1, ⟨by omega, by omega⟩, by omega, by omega⟩
theorem fx_last_none {up low : Int64} {a : Int32} (h : up ≤ 0) : fx_last up low a = 0 := by unfold fx_last; rw [if_pos (Or.inl h)]
/-- the last unit in plain numbers -/
theorem fx_last_i {up low : Int64} {a : Nat} (hu : 0 < up.toInt) (hl : 0 < low.toInt) (ha : a ≤ 60) : (∃ v : Nat, fx_last up low (nI a) = nI v ∧ a < v ∧ v ≤ 60 ∧ up.toInt * v = low.toInt) ∨ (fx_last up low (nI a) = 0 ∧ ∀ v : Nat, a < v → v ≤ 60 → up.toInt * v ≠ low.toInt) := by
  have hn : ¬ up ≤ 0 := fun h => by have := Int64.le_iff_toInt_le.mp h; rw [i64_0] at this; omega
  have hd := i64_div (a := low) (b := up) (by omega) hu
  have hm := i64_mod (a := low) (b := up) (by omega) hu
  have m1 := Int.emod_add_mul_ediv low.toInt up.toInt
  have ea := nI_64 (x := a) (by omega)
  have e60 : (60 : Int64).toInt = 60 := by decide
  unfold fx_last
  by_cases c : low - low / up * up = 0
  · rw [if_neg (fun h => h.elim hn (fun h2 => h2 c))]
    rw [c, i64_0] at hm
    by_cases c2 : (nI a).toInt64 < low / up ∧ low / up ≤ 60
    · left
      have b1 := Int64.lt_iff_toInt_lt.mp c2.1
      have b2 := Int64.le_iff_toInt_le.mp c2.2
      rw [hd] at b1 b2
      rw [ea] at b1
      rw [e60] at b2
      refine ⟨(low.toInt / up.toInt).toNat, ?_, by omega, by omega, ?_⟩
      · rw [if_pos c2]
        apply Int32.toInt_inj.mp
        rw [nI_toInt (by omega), Int64.toInt_toInt32, hd, Int.bmod_eq_of_le (by omega) (by omega)]
        omega
      · rw [Int.toNat_of_nonneg (by omega)]; omega
    · right
      refine ⟨by rw [if_neg c2], fun v h1 h2 h3 => c2 ?_⟩
      have hv : low.toInt / up.toInt = v := by rw [← h3]; exact Int.mul_ediv_cancel_left _ (by omega)
      exact ⟨Int64.lt_iff_toInt_lt.mpr (by rw [ea, hd]; omega), Int64.le_iff_toInt_le.mpr (by rw [hd, e60]; omega)⟩
  · rw [if_pos (Or.inr c)]
    right
    refine ⟨rfl, fun v h1 h2 h3 => c (Int64.toInt_inj.mp ?_)⟩
    rw [hm, i64_0, ← h3]
    exact Int.mul_emod_right _ _
/-- one unit -/
theorem ru1 {up low : Int64} {B : Int} {fr : Nat} (hB : 1 ≤ B ∧ B ≤ 1000000000) (h1 : i64_b up B) (h2 : 0 < low.toInt ∧ low.toInt ≤ B) (hf : 2 ≤ fr ∧ fr ≤ 61) : ru 1 fr up low = if 0 < fx_last up low (nI (fr - 1)) then some [(fx_last up low (nI (fr - 1))).toNatClampNeg] else none := by
  by_cases hu : up ≤ 0
  · rw [fx_last_none hu, if_neg (by decide)]
    exact if_pos hu
  · rw [show ru 1 fr up low = ru_l (ru 0) up low (61 - fr) fr from if_neg hu]
    have hup : 0 < up.toInt := by
      have := Int64.lt_iff_toInt_lt.mp (Int64.not_le.mp hu); rw [i64_0] at this; exact this
    have z : ∀ x, 1 ≤ x ∧ x ≤ 60 → (ru 0 (x + 1) (up * (nI x).toInt64 - low) (low * (nI x).toInt64) = if up.toInt * x = low.toInt then some [] else none) := fun x hx => by
      have e := (un_bd hB h1 h2 hx).1
      show (if up * (nI x).toInt64 - low = 0 then some [] else none) = _
      by_cases c : up.toInt * x = low.toInt
      · rw [if_pos c, if_pos (Int64.toInt_inj.mp (by rw [e, i64_0]; omega))]
      · rw [if_neg c, if_neg (fun h => c (by rw [h, i64_0] at e; omega))]
    rcases fx_last_i (a := fr - 1) hup h2.1 (by omega) with ⟨v, e1, e2, e3, e4⟩ | ⟨e1, e2⟩
    · rw [e1, if_pos (by rw [show (0 : Int32) = nI 0 from nI_0.symm]; exact nI_lt (by omega) (by omega)), nI_clamp (by omega)]
      have g : ∀ m x, x + m = 61 → fr ≤ x → x ≤ v → ru_l (ru 0) up low m x = some [v] := by
        intro m
        induction m with
        | zero => intro x h3 h4 h5; omega
        | succ m ih =>
          intro x h3 h4 h5
          by_cases c : up.toInt * x = low.toInt
          · have : x = v := by
              have h6 : up.toInt * (x : Int) = up.toInt * v := by omega
              have := Int.eq_of_mul_eq_mul_left (show up.toInt ≠ 0 by omega) h6
              omega
            subst this
            exact ru_ls (by rw [z x (by omega), if_pos c])
          · rw [ru_ln (by rw [z x (by omega), if_neg c])]
            refine ih (x + 1) (by omega) (by omega) ?_
            rcases Nat.lt_or_ge x v with q | q
            · exact q
            · exact absurd (show up.toInt * (x : Int) = low.toInt by rw [show x = v by omega]; exact e4) c
      exact g (61 - fr) fr (by omega) (Nat.le_refl _) (by omega)
    · rw [e1, if_neg (by decide)]
      have g : ∀ m x, x + m = 61 → fr ≤ x → ru_l (ru 0) up low m x = none := by
        intro m
        induction m with
        | zero => intro x h3 h4; rfl
        | succ m ih =>
          intro x h3 h4
          rw [ru_ln (by rw [z x (by omega), if_neg (e2 x (by omega) (by omega))])]
          exact ih (x + 1) (by omega) (by omega)
      exact g (61 - fr) fr (by omega) (Nat.le_refl _)
theorem ru2l {up low : Int64} {B : Int} (hB : 1 ≤ B ∧ 61 * B ≤ 1000000000) (h1 : i64_b up B) (h2 : 0 < low.toInt ∧ low.toInt ≤ B) : ∀ m x, x + m = 61 → 2 ≤ x → ru_l (ru 1) up low m x = (fx_fp up low m x).map (fun q => [q.1, q.2.toNatClampNeg])
  | 0, x, _, _ => rfl
  | m + 1, x, h3, h4 => by
    have b := un_bd (x := x) (by omega) h1 h2 (by omega)
    have e := ru1 (fr := x + 1) (B := 61 * B) (by omega) b.2.2.1 b.2.2.2 (by omega)
    rw [show x + 1 - 1 = x by omega] at e
    by_cases c : 0 < fx_last (up * (nI x).toInt64 - low) (low * (nI x).toInt64) (nI x)
    · rw [if_pos c] at e
      rw [ru_ls e]
      show _ = Option.map _ (if _ then _ else _)
      rw [if_pos c]; rfl
    · rw [if_neg c] at e
      rw [ru_ln e, ru2l hB h1 h2 m (x + 1) (by omega) (by omega)]
      show _ = Option.map _ (if _ then _ else _)
      rw [if_neg c]
theorem fx_fp_no {up low : Int64} {B : Int} (hB : 1 ≤ B ∧ 61 * B ≤ 1000000000) (h1 : i64_b up B) (h2 : 0 < low.toInt ∧ low.toInt ≤ B) (hu : up ≤ 0) : ∀ m x, x + m = 61 → 2 ≤ x → fx_fp up low m x = none
  | 0, _, _, _ => rfl
  | m + 1, x, h3, h4 => by
    have b := un_bd (x := x) (by omega) h1 h2 (by omega)
    have hu2 := Int64.le_iff_toInt_le.mp hu
    rw [i64_0] at hu2
    have c : up * (nI x).toInt64 - low ≤ 0 := Int64.le_iff_toInt_le.mpr (by
      rw [b.1, i64_0]
      have : up.toInt * (x : Int) ≤ 0 := Int.mul_nonpos_of_nonpos_of_nonneg hu2 (by omega)
      omega)
    show (if _ then _ else _) = _
    rw [fx_last_none c, if_neg (by decide)]
    exact fx_fp_no hB h1 h2 hu m (x + 1) (by omega) (by omega)
theorem ru2 {up low : Int64} {B : Int} {fr : Nat} (hB : 1 ≤ B ∧ 61 * B ≤ 1000000000) (h1 : i64_b up B) (h2 : 0 < low.toInt ∧ low.toInt ≤ B) (hf : 2 ≤ fr ∧ fr ≤ 61) : ru 2 fr up low = (fx_fp up low (61 - fr) fr).map (fun q => [q.1, q.2.toNatClampNeg]) := by
  by_cases hu : up ≤ 0
  · rw [fx_fp_no hB h1 h2 hu _ _ (by omega) hf.1]
    exact if_pos hu
  · rw [show ru 2 fr up low = ru_l (ru 1) up low (61 - fr) fr from if_neg hu]
    exact ru2l hB h1 h2 _ _ (by omega) hf.1
theorem fx_ft_s {up low : Int64} {m x : Nat} {q : Nat × Int32} (h : fx_fp (up * (nI x).toInt64 - low) (low * (nI x).toInt64) (60 - x) (x + 1) = some q) : fx_ft up low (m + 1) x = some (x, q) := by
  show (match fx_fp (up * (nI x).toInt64 - low) (low * (nI x).toInt64) (60 - x) (x + 1) with | some q => some (x, q) | none => fx_ft up low m (x + 1)) = _
  rw [h]
theorem fx_ft_n {up low : Int64} {m x : Nat} (h : fx_fp (up * (nI x).toInt64 - low) (low * (nI x).toInt64) (60 - x) (x + 1) = none) : fx_ft up low (m + 1) x = fx_ft up low m (x + 1) := by
  show (match fx_fp (up * (nI x).toInt64 - low) (low * (nI x).toInt64) (60 - x) (x + 1) with | some q => some (x, q) | none => fx_ft up low m (x + 1)) = _
  rw [h]
theorem ru3l {up low : Int64} {B : Int} (hB : 1 ≤ B ∧ 61 * (61 * B) ≤ 1000000000) (h1 : i64_b up B) (h2 : 0 < low.toInt ∧ low.toInt ≤ B) : ∀ m x, x + m = 61 → 2 ≤ x → ru_l (ru 2) up low m x = (fx_ft up low m x).map (fun q => [q.1, q.2.1, q.2.2.toNatClampNeg])
  | 0, x, _, _ => rfl
  | m + 1, x, h3, h4 => by
    have b := un_bd (x := x) (by omega) h1 h2 (by omega)
    have e := ru2 (fr := x + 1) (B := 61 * B) (by omega) b.2.2.1 b.2.2.2 (by omega)
    rw [show 61 - (x + 1) = 60 - x by omega] at e
    cases c : fx_fp (up * (nI x).toInt64 - low) (low * (nI x).toInt64) (60 - x) (x + 1) with
    | some q =>
      rw [c] at e
      rw [ru_ls e, fx_ft_s c]; rfl
    | none =>
      rw [c] at e
      rw [ru_ln e, ru3l hB h1 h2 m (x + 1) (by omega) (by omega), fx_ft_n c]
theorem ru3 {up low : Int64} {B : Int} {fr : Nat} (hB : 1 ≤ B ∧ 61 * (61 * B) ≤ 1000000000) (h1 : i64_b up B) (h2 : 0 < low.toInt ∧ low.toInt ≤ B) (hf : 2 ≤ fr ∧ fr ≤ 61) (hu : 0 < up.toInt) : ru 3 fr up low = (fx_ft up low (61 - fr) fr).map (fun q => [q.1, q.2.1, q.2.2.toNatClampNeg]) := by
  have hu2 : ¬ up ≤ 0 := fun h => by have := Int64.le_iff_toInt_le.mp h; rw [i64_0] at this; omega
  rw [show ru 3 fr up low = ru_l (ru 2) up low (61 - fr) fr from if_neg hu2]
  exact ru3l hB h1 h2 _ _ (by omega) hf.1
theorem fx_fp_v {up low : Int64} : ∀ (m x : Nat) (q : Nat × Int32), fx_fp up low m x = some q → 0 < q.2
  | 0, _, _, h => by cases h
  | m + 1, x, q, h => by
    have h : (if 0 < fx_last (up * (nI x).toInt64 - low) (low * (nI x).toInt64) (nI x) then _ else _) = some q := h
    by_cases c : 0 < fx_last (up * (nI x).toInt64 - low) (low * (nI x).toInt64) (nI x)
    · rw [if_pos c] at h; cases h; exact c
    · rw [if_neg c] at h; exact fx_fp_v m (x + 1) q h
theorem fx_ft_v {up low : Int64} : ∀ (m x : Nat) (q : Nat × Nat × Int32), fx_ft up low m x = some q → 0 < q.2.2
  | 0, _, _, h => by cases h
  | m + 1, x, q, h => by
    have h : (match fx_fp (up * (nI x).toInt64 - low) (low * (nI x).toInt64) (60 - x) (x + 1) with | some q => some (x, q) | none => fx_ft up low m (x + 1)) = some q := h
    cases c : fx_fp (up * (nI x).toInt64 - low) (low * (nI x).toInt64) (60 - x) (x + 1) with
    | some r => rw [c] at h; cases h; exact fx_fp_v _ _ _ c
    | none => rw [c] at h; exact fx_ft_v m (x + 1) q h
theorem nI_back {v : Int32} (h : 0 < v) : nI v.toNatClampNeg = v := by
  obtain ⟨j, hj, rfl⟩ := nI_of (x := v) (fun h9 => absurd h (Int32.not_lt.mpr (Int32.le_of_lt h9)))
  rw [nI_clamp hj]
/-- what the reference finds is what sp_fu says -/
theorem fu_ru {u lo : Int32} (hu : sp_in u 1 9999) (hl : sp_in lo 1 9999) : (∀ l9 u1, ru 1 2 u.toInt64 lo.toInt64 = some l9 → um u1 0 l9 → (sp_fu u.toInt64 lo.toInt64).1 = 1 ∧ (sp_fu u.toInt64 lo.toInt64).2.1 = u1 0) ∧ (ru 1 2 u.toInt64 lo.toInt64 = none → (∀ l9 u1, ru 2 2 u.toInt64 lo.toInt64 = some l9 → um u1 0 l9 → (sp_fu u.toInt64 lo.toInt64).1 = 2 ∧ (sp_fu u.toInt64 lo.toInt64).2.1 = u1 0 ∧ (sp_fu u.toInt64 lo.toInt64).2.2.1 = u1 1) ∧ (ru 2 2 u.toInt64 lo.toInt64 = none → (∀ l9 u1, ru 3 2 u.toInt64 lo.toInt64 = some l9 → um u1 0 l9 → (sp_fu u.toInt64 lo.toInt64).1 = 3 ∧ (sp_fu u.toInt64 lo.toInt64).2.1 = u1 0 ∧ (sp_fu u.toInt64 lo.toInt64).2.2.1 = u1 1 ∧ (sp_fu u.toInt64 lo.toInt64).2.2.2 = u1 2) ∧ (ru 3 2 u.toInt64 lo.toInt64 = none → (sp_fu u.toInt64 lo.toInt64).1 = -5))) := by
  have e1 : (1 : Int32).toInt = 1 := by decide
  have e2 : (9999 : Int32).toInt = 9999 := by decide
  have a1 := Int32.le_iff_toInt_le.mp hu.1
  have a2 := Int32.le_iff_toInt_le.mp hu.2
  have a3 := Int32.le_iff_toInt_le.mp hl.1
  have a4 := Int32.le_iff_toInt_le.mp hl.2
  rw [e1] at a1 a3
  rw [e2] at a2 a4
  have c1 := Int32.toInt_toInt64 u
  have c2 := Int32.toInt_toInt64 lo
  have b1 : i64_b u.toInt64 9999 := ⟨by omega, by omega⟩
  have b2 : 0 < lo.toInt64.toInt ∧ lo.toInt64.toInt ≤ 9999 := ⟨by omega, by omega⟩
  have r1 := ru1 (fr := 2) (B := 9999) (by omega) b1 b2 (by omega)
  have r2 := ru2 (fr := 2) (B := 9999) (by omega) b1 b2 (by omega)
  have r3 := ru3 (fr := 2) (B := 9999) (by omega) b1 b2 (by omega) (by omega)
  rw [show 61 - 2 = 59 from rfl] at r2 r3
  rw [show nI (2 - 1) = 1 from rfl] at r1
  generalize hU : u.toInt64 = U at r1 r2 r3 ⊢
  generalize hL : lo.toInt64 = L at r1 r2 r3 ⊢
  refine ⟨fun l9 u1 h g => ?_, fun h0 => ?_⟩
  · by_cases c : 0 < fx_last U L 1
    · rw [r1, if_pos c] at h
      cases h
      have e : sp_fu U L = (1, fx_last U L 1, 0, 0) := if_pos c
      rw [e]
      exact ⟨rfl, (g.1.trans (nI_back c)).symm⟩
    · rw [r1, if_neg c] at h; cases h
  · have c : ¬ 0 < fx_last U L 1 := fun c => by rw [r1, if_pos c] at h0; cases h0
    refine ⟨fun l9 u1 h g => ?_, fun h1 => ?_⟩
    · cases k : fx_fp U L 59 2 with
      | none => rw [r2, k] at h; cases h
      | some q =>
        rw [r2, k] at h
        cases h
        have e : sp_fu U L = (2, nI q.1, q.2, 0) := by unfold sp_fu; rw [if_neg c, k]
        rw [e]
        exact ⟨rfl, g.1.symm, (g.2.1.trans (nI_back (fx_fp_v _ _ _ k))).symm⟩
    · have k : fx_fp U L 59 2 = none := by
        cases k : fx_fp U L 59 2 with
        | none => rfl
        | some q => rw [r2, k] at h1; cases h1
      refine ⟨fun l9 u1 h g => ?_, fun h2 => ?_⟩
      · cases k3 : fx_ft U L 59 2 with
        | none => rw [r3, k3] at h; cases h
        | some q =>
          rw [r3, k3] at h
          cases h
          have e : sp_fu U L = (3, nI q.1, nI q.2.1, q.2.2) := by unfold sp_fu; rw [if_neg c, k, k3]
          rw [e]
          exact ⟨rfl, g.1.symm, g.2.1.symm, (g.2.2.1.trans (nI_back (fx_ft_v _ _ _ k3))).symm⟩
      · have k3 : fx_ft U L 59 2 = none := by
          cases k3 : fx_ft U L 59 2 with
          | none => rfl
          | some q => rw [r3, k3] at h2; cases h2
        unfold sp_fu
        rw [if_neg c, k, k3]
set_option maxHeartbeats 4000000 in
set_option maxRecDepth 100000 in
theorem m_X7_units {l : Launch} {X : hv_X} {V : hv_V} {mo : Nat} {σ : hs_S} (hM : okM X V mo σ) (hB : hs_b σ) {u lo w9 : Int32} : hv_Mi l X 220 yX7_units cX7_units 5 .int V [.ref mo, .int u, .int lo, .int w9] (fun y V1 => y = sp_units u lo w9 ∧ okM X V1 mo σ ∧ hv_out V V1 mo (mo + 50)) := by
  refine hv_enter (by decide) (Nat.le_of_ble_eq_true rfl) ?_
  intro p e s m below meth c ls C0 hr hlk hnm w hl
  have hl : lv_has ls 5 [(0, .ref mo), (1, .int u), (2, .int lo), (3, .int w9)] := hl
  obtain ⟨ab, be, pl, cl, sg, ik, hO, hRw, hTx, hSc, hSe, hEv, hBk, hIm, hTp⟩ := id hM
  obtain ⟨r1, r2, ⟨rf, r3, r4⟩, r5⟩ := id hRw
  obtain ⟨⟨wd, s1⟩, ⟨td, s2⟩, ⟨sn, s3⟩, ⟨ut, s4⟩, kn, s5⟩ := id hSc
  obtain ⟨sf, sg9, sh, e1, e2, e3, ea⟩ := id hSe
  obtain ⟨ef, eg, v1, v2, va⟩ := id hEv
  obtain ⟨bf, bg, b1, b2, ba⟩ := id hBk
  obtain ⟨t1, t2, ⟨tf, t3, t4⟩, t5⟩ := id hTp
  have hbR := hB.1.1
  refine lv_iload_n C0.1 C0.2.1 dX7_units_0 rfl (lv_at hl 1 rfl) ?_
  refine lv_iconst (v := 1) C0.1 C0.2.1 dX7_units_1 (by decide) ?_
  refine lv_sipush (v := 9999) C0.1 C0.2.1 dX7_units_2 (by decide) ?_
  refine hv_cSi (As := [.int u, .int 1, .int 9999]) C0 w kl_X7_89 ks_X7_in (c_X7_in) (by decide) (by decide) rfl hl.1 rfl (Nat.le_of_ble_eq_true rfl) dX7_units_5 ⟨Nat.le_refl _, Nat.le_refl _⟩ (fun x1 V2 Hq lq hp3 w => ?_)
  obtain ⟨e9, hz9⟩ := hp3
  rw [e9] at w; clear e9
  rcases hz9 with ⟨rfl, hb4⟩ | ⟨rfl, hb4⟩
  · skip
    refine lv_if_eq (tgt := 22) C0.1 C0.2.1 dX7_units_8 (by decide) (fun h9 => absurd h9 (by decide)) (fun _ => ?_)
    refine lv_iload_n C0.1 C0.2.1 dX7_units_11 rfl (lv_at hl 2 rfl) ?_
    refine lv_iconst (v := 1) C0.1 C0.2.1 dX7_units_12 (by decide) ?_
    refine lv_sipush (v := 9999) C0.1 C0.2.1 dX7_units_13 (by decide) ?_
    refine hv_cSi (As := [.int lo, .int 1, .int 9999]) C0 w kl_X7_89 ks_X7_in (c_X7_in) (by decide) (by decide) rfl hl.1 rfl (Nat.le_of_ble_eq_true rfl) dX7_units_16 ⟨Nat.le_refl _, Nat.le_refl _⟩ (fun x5 V6 Hq lq hp7 w => ?_)
    obtain ⟨e9, hz9⟩ := hp7
    rw [e9] at w; clear e9
    rcases hz9 with ⟨rfl, hb8⟩ | ⟨rfl, hb8⟩
    · skip
      refine lv_if_ne (tgt := 25) C0.1 C0.2.1 dX7_units_19 (by decide) (fun _ => ?_) (fun h9 => absurd h9 (by decide))
      refine lv_iload_n C0.1 C0.2.1 dX7_units_25 rfl (lv_at hl 3 rfl) ?_
      refine lv_iconst (v := 0) C0.1 C0.2.1 dX7_units_26 (by decide) ?_
      refine lv_iconst (v := 3) C0.1 C0.2.1 dX7_units_27 (by decide) ?_
      refine hv_cSi (As := [.int w9, .int 0, .int 3]) C0 w kl_X7_89 ks_X7_in (c_X7_in) (by decide) (by decide) rfl hl.1 rfl (Nat.le_of_ble_eq_true rfl) dX7_units_28 ⟨Nat.le_refl _, Nat.le_refl _⟩ (fun x9 V10 Hq lq hp11 w => ?_)
      obtain ⟨e9, hz9⟩ := hp11
      rw [e9] at w; clear e9
      rcases hz9 with ⟨rfl, hb12⟩ | ⟨rfl, hb12⟩
      · skip
        refine lv_if_ne (tgt := 36) C0.1 C0.2.1 dX7_units_31 (by decide) (fun _ => ?_) (fun h9 => absurd h9 (by decide))
        have hw3 := hb12
        rcases hs_03 hb12 with rfl | rfl | rfl | rfl
        · skip
          refine lv_iconst (v := 1) C0.1 C0.2.1 dX7_units_36 (by decide) ?_
          refine lv_istore (lv' := [(4, .int 1), (0, .ref mo), (1, .int u), (2, .int lo), (3, .int 0)]) C0.1 C0.2.1 dX7_units_37 hl (by decide) rfl (fun ls hl => ?_)
          refine lv_iload C0.1 C0.2.1 dX7_units_39 (lv_at hl 0 rfl) ?_
          refine lv_iconst (v := 3) C0.1 C0.2.1 dX7_units_41 (by decide) ?_
          refine lv_icmp_gt (tgt := 66) C0.1 C0.2.1 dX7_units_42 (by decide) (fun h9 => absurd h9 (by decide)) (fun _ => ?_)
          refine lv_aload_n C0.1 C0.2.1 dX7_units_45 rfl (lv_at hl 1 rfl) ?_
          refine lv_iload C0.1 C0.2.1 dX7_units_46 (lv_at hl 0 rfl) ?_
          refine lv_iconst (v := 0) C0.1 C0.2.1 dX7_units_48 (by decide) ?_
          refine lv_iconst (v := 2) C0.1 C0.2.1 dX7_units_49 (by decide) ?_
          refine lv_iload_n C0.1 C0.2.1 dX7_units_50 rfl (lv_at hl 2 rfl) ?_
          refine lv_i2l (v := u.toInt64) C0.1 C0.2.1 dX7_units_51 rfl ?_
          refine lv_iload_n C0.1 C0.2.1 dX7_units_52 rfl (lv_at hl 3 rfl) ?_
          refine lv_i2l (v := lo.toInt64) C0.1 C0.2.1 dX7_units_53 rfl ?_
          refine hv_cVi C0 w kl_X7_271 kv_X7_isUnits rfl hO (c_X7_isUnits (N := 1) (by decide) 1 hO s4 (k := 0) (fr := 2) rfl (by decide)) (by decide) (by decide) rfl hl.1 rfl (Nat.le_of_ble_eq_true rfl) dX7_units_54 ⟨Nat.le_refl _, Nat.le_refl _⟩ (fun x13 V14 Hq lq hp15 w => ?_)
          obtain ⟨u16, eV17, -, hz18⟩ := hp15
          have hV19 : V14 mo = some (.inr (7, [.ref (mo + 1), .ref (mo + 2), .ref (mo + 3), .long ab, .long be, .ref (mo + 10), .int (nI σ.2.2.1.1), .int pl, .int cl, .ref (mo + 11), .ref (mo + 12), .ref (mo + 13), .int sg, .ref (mo + 14), .ref (mo + 15), .ref (mo + 16), .ref (mo + 17), .int (nI σ.1.2.1.1), .ref (mo + 18), .ref (mo + 19), .int (nI σ.1.2.2.1.1), .ref (mo + 20), .ref (mo + 21), .ref (mo + 22), .int (nI σ.1.2.2.2.1), .int ik, .ref (mo + 23), .ref (mo + 24), .ref (mo + 25), .ref (mo + 26), .ref (mo + 33), .ref (mo + 41), .ref (mo + 42), .ref (mo + 43)])) := by rw [eV17, hv_un (by omega)]; exact hO
          have hV20 : V14 (mo + 1) = some (.inl (X.2.1 0, 6, .inl σ.1.1.1)) := by rw [eV17, hv_un (by omega)]; exact r1
          have hV21 : V14 (mo + 2) = some (.inl (X.2.1 0, 6, .inl (fun j => nI (σ.1.1.2.1 j)))) := by rw [eV17, hv_un (by omega)]; exact r2
          have hV22 : V14 (mo + 3) = some (.inl (X.2.1 6, 6, .inr (.inr (.inr (.inr rf))))) := by rw [eV17, hv_un (by omega)]; exact r3
          have hV23 : V14 (mo + 10) = some (.inl (X.2.1 2, 100, .inl σ.2.2.1.2)) := by rw [eV17, hv_un (by omega)]; exact hTx
          have hV24 : V14 (mo + 11) = some (.inl (X.2.1 0, 12, .inl wd)) := by rw [eV17, hv_un (by omega)]; exact s1
          have hV25 : V14 (mo + 12) = some (.inl (X.2.1 0, 48, .inl td)) := by rw [eV17, hv_un (by omega)]; exact s2
          have hV26 : V14 (mo + 13) = some (.inl (X.2.1 2, 178, .inl sn)) := by rw [eV17, hv_un (by omega)]; exact s3
          have hV28 : V14 (mo + 20) = some (.inl (X.2.1 0, 16, .inl kn)) := by rw [eV17, hv_un (by omega)]; exact s5
          have hV29 : V14 (mo + 15) = some (.inl (X.2.1 0, 4, .inl sf)) := by rw [eV17, hv_un (by omega)]; exact e1
          have hV30 : V14 (mo + 16) = some (.inl (X.2.1 0, 4, .inl sg9)) := by rw [eV17, hv_un (by omega)]; exact e2
          have hV31 : V14 (mo + 17) = some (.inl (X.2.1 0, 4, .inl sh)) := by rw [eV17, hv_un (by omega)]; exact e3
          have hV32 : V14 (mo + 18) = some (.inl (X.2.1 0, 8, .inl ef)) := by rw [eV17, hv_un (by omega)]; exact v1
          have hV33 : V14 (mo + 19) = some (.inl (X.2.1 0, 8, .inl eg)) := by rw [eV17, hv_un (by omega)]; exact v2
          have hV34 : V14 (mo + 21) = some (.inl (X.2.1 0, 8, .inl bf)) := by rw [eV17, hv_un (by omega)]; exact b1
          have hV35 : V14 (mo + 22) = some (.inl (X.2.1 0, 8, .inl bg)) := by rw [eV17, hv_un (by omega)]; exact b2
          have hV36 : V14 (mo + 41) = some (.inl (X.2.1 0, 6, .inl σ.2.2.2.1)) := by rw [eV17, hv_un (by omega)]; exact t1
          have hV37 : V14 (mo + 42) = some (.inl (X.2.1 0, 6, .inl (fun j => nI (σ.2.2.2.2.1 j)))) := by rw [eV17, hv_un (by omega)]; exact t2
          have hV38 : V14 (mo + 43) = some (.inl (X.2.1 7, 6, .inr (.inr (.inr (.inr tf))))) := by rw [eV17, hv_un (by omega)]; exact t3
          have hV39 : V14 (mo + 14) = some (.inl (X.2.1 0, 3, .inl u16)) := by rw [eV17]; exact hv_us
          rcases hz18 with ⟨rfl, l1, hf1, hm1⟩ | ⟨rfl, hf1⟩
          · skip
            refine lv_if_ne (tgt := 66) C0.1 C0.2.1 dX7_units_57 (by decide) (fun _ => ?_) (fun h9 => absurd h9 (by decide))
            refine lv_iload C0.1 C0.2.1 dX7_units_66 (lv_at hl 0 rfl) ?_
            refine lv_iconst (v := 3) C0.1 C0.2.1 dX7_units_68 (by decide) ?_
            refine lv_icmp_le (tgt := 75) C0.1 C0.2.1 dX7_units_69 (by decide) (fun _ => ?_) (fun h9 => absurd h9 (by decide))
            refine lv_iload_n C0.1 C0.2.1 dX7_units_75 rfl (lv_at hl 4 rfl) ?_
            refine lv_if_ne (tgt := 84) C0.1 C0.2.1 dX7_units_76 (by decide) (fun h9 => absurd h9 (by decide)) (fun _ => ?_)
            refine lv_iload C0.1 C0.2.1 dX7_units_79 (lv_at hl 0 rfl) ?_
            refine lv_goto (tgt := 103) C0.1 C0.2.1 dX7_units_81 (by decide) ?_
            exact hv_iret C0 w hr hlk (by have h9 := (fu_ru hb4 hb8).1 _ _ hf1 hm1; rw [sp_units, if_pos ⟨hb4, hb8⟩, if_pos hw3, if_neg (by rw [h9.1]; decide), if_pos rfl, h9.1]; exact ⟨rfl, ⟨ab, be, pl, cl, sg, ik, ((by rw [eV17, hv_un (by omega)] : _ = V mo).trans hO), hRw.fr (fun q h7 h8 => by rw [eV17, hv_un (by omega)]), (by rw [eV17, hv_un (by omega)] : _ = V (mo + 10)).trans hTx, ⟨⟨wd, (by rw [eV17, hv_un (by omega)] : _ = V (mo + 11)).trans s1⟩, ⟨td, (by rw [eV17, hv_un (by omega)] : _ = V (mo + 12)).trans s2⟩, ⟨sn, (by rw [eV17, hv_un (by omega)] : _ = V (mo + 13)).trans s3⟩, ⟨_, by rw [eV17]; exact hv_us⟩, kn, (by rw [eV17, hv_un (by omega)] : _ = V (mo + 20)).trans s5⟩, hSe.fr (fun q h7 h8 => by rw [eV17, hv_un (by omega)]), hEv.fr (by rw [eV17, hv_un (by omega)]) (by rw [eV17, hv_un (by omega)]), hBk.fr (by rw [eV17, hv_un (by omega)]) (by rw [eV17, hv_un (by omega)]), hIm.fr (fun q h7 h8 => by rw [eV17, hv_un (by omega)]), hTp.fr (fun q h7 h8 => by rw [eV17, hv_un (by omega)])⟩, (fun q h7 => by rw [eV17, hv_un (by omega)])⟩) dX7_units_103
          · skip
            refine lv_if_ne (tgt := 66) C0.1 C0.2.1 dX7_units_57 (by decide) (fun h9 => absurd h9 (by decide)) (fun _ => ?_)
            refine lv_iinc (v := 1 + 1) (lv' := [(4, .int (1 + 1)), (0, .ref mo), (1, .int u), (2, .int lo), (3, .int 0)]) C0.1 C0.2.1 dX7_units_60 hl (k := 0) rfl rfl (by decide) rfl (fun ls hl => ?_)
            have hl : lv_has ls 5 [(4, .int 2), (0, .ref mo), (1, .int u), (2, .int lo), (3, .int 0)] := by rw [show (2 : Int32) = 1 + 1 from by decide]; exact hl
            refine lv_goto (tgt := 39) C0.1 C0.2.1 dX7_units_63 (by decide) ?_
            refine lv_iload C0.1 C0.2.1 dX7_units_39 (lv_at hl 0 rfl) ?_
            refine lv_iconst (v := 3) C0.1 C0.2.1 dX7_units_41 (by decide) ?_
            refine lv_icmp_gt (tgt := 66) C0.1 C0.2.1 dX7_units_42 (by decide) (fun h9 => absurd h9 (by decide)) (fun _ => ?_)
            refine lv_aload_n C0.1 C0.2.1 dX7_units_45 rfl (lv_at hl 1 rfl) ?_
            refine lv_iload C0.1 C0.2.1 dX7_units_46 (lv_at hl 0 rfl) ?_
            refine lv_iconst (v := 0) C0.1 C0.2.1 dX7_units_48 (by decide) ?_
            refine lv_iconst (v := 2) C0.1 C0.2.1 dX7_units_49 (by decide) ?_
            refine lv_iload_n C0.1 C0.2.1 dX7_units_50 rfl (lv_at hl 2 rfl) ?_
            refine lv_i2l (v := u.toInt64) C0.1 C0.2.1 dX7_units_51 rfl ?_
            refine lv_iload_n C0.1 C0.2.1 dX7_units_52 rfl (lv_at hl 3 rfl) ?_
            refine lv_i2l (v := lo.toInt64) C0.1 C0.2.1 dX7_units_53 rfl ?_
            refine hv_cVi C0 w kl_X7_271 kv_X7_isUnits rfl hV19 (c_X7_isUnits (N := 2) (by decide) 2 hV19 hV39 (k := 0) (fr := 2) rfl (by decide)) (by decide) (by decide) rfl hl.1 rfl (Nat.le_of_ble_eq_true rfl) dX7_units_54 ⟨Nat.le_refl _, Nat.le_refl _⟩ (fun x40 V41 Hq lq hp42 w => ?_)
            obtain ⟨u43, eV44, -, hz45⟩ := hp42
            have hV46 : V41 mo = some (.inr (7, [.ref (mo + 1), .ref (mo + 2), .ref (mo + 3), .long ab, .long be, .ref (mo + 10), .int (nI σ.2.2.1.1), .int pl, .int cl, .ref (mo + 11), .ref (mo + 12), .ref (mo + 13), .int sg, .ref (mo + 14), .ref (mo + 15), .ref (mo + 16), .ref (mo + 17), .int (nI σ.1.2.1.1), .ref (mo + 18), .ref (mo + 19), .int (nI σ.1.2.2.1.1), .ref (mo + 20), .ref (mo + 21), .ref (mo + 22), .int (nI σ.1.2.2.2.1), .int ik, .ref (mo + 23), .ref (mo + 24), .ref (mo + 25), .ref (mo + 26), .ref (mo + 33), .ref (mo + 41), .ref (mo + 42), .ref (mo + 43)])) := by rw [eV44, hv_un (by omega)]; exact hV19
            have hV47 : V41 (mo + 1) = some (.inl (X.2.1 0, 6, .inl σ.1.1.1)) := by rw [eV44, hv_un (by omega)]; exact hV20
            have hV48 : V41 (mo + 2) = some (.inl (X.2.1 0, 6, .inl (fun j => nI (σ.1.1.2.1 j)))) := by rw [eV44, hv_un (by omega)]; exact hV21
            have hV49 : V41 (mo + 3) = some (.inl (X.2.1 6, 6, .inr (.inr (.inr (.inr rf))))) := by rw [eV44, hv_un (by omega)]; exact hV22
            have hV50 : V41 (mo + 10) = some (.inl (X.2.1 2, 100, .inl σ.2.2.1.2)) := by rw [eV44, hv_un (by omega)]; exact hV23
            have hV51 : V41 (mo + 11) = some (.inl (X.2.1 0, 12, .inl wd)) := by rw [eV44, hv_un (by omega)]; exact hV24
            have hV52 : V41 (mo + 12) = some (.inl (X.2.1 0, 48, .inl td)) := by rw [eV44, hv_un (by omega)]; exact hV25
            have hV53 : V41 (mo + 13) = some (.inl (X.2.1 2, 178, .inl sn)) := by rw [eV44, hv_un (by omega)]; exact hV26
            have hV54 : V41 (mo + 20) = some (.inl (X.2.1 0, 16, .inl kn)) := by rw [eV44, hv_un (by omega)]; exact hV28
            have hV55 : V41 (mo + 15) = some (.inl (X.2.1 0, 4, .inl sf)) := by rw [eV44, hv_un (by omega)]; exact hV29
            have hV56 : V41 (mo + 16) = some (.inl (X.2.1 0, 4, .inl sg9)) := by rw [eV44, hv_un (by omega)]; exact hV30
            have hV57 : V41 (mo + 17) = some (.inl (X.2.1 0, 4, .inl sh)) := by rw [eV44, hv_un (by omega)]; exact hV31
            have hV58 : V41 (mo + 18) = some (.inl (X.2.1 0, 8, .inl ef)) := by rw [eV44, hv_un (by omega)]; exact hV32
            have hV59 : V41 (mo + 19) = some (.inl (X.2.1 0, 8, .inl eg)) := by rw [eV44, hv_un (by omega)]; exact hV33
            have hV60 : V41 (mo + 21) = some (.inl (X.2.1 0, 8, .inl bf)) := by rw [eV44, hv_un (by omega)]; exact hV34
            have hV61 : V41 (mo + 22) = some (.inl (X.2.1 0, 8, .inl bg)) := by rw [eV44, hv_un (by omega)]; exact hV35
            have hV62 : V41 (mo + 41) = some (.inl (X.2.1 0, 6, .inl σ.2.2.2.1)) := by rw [eV44, hv_un (by omega)]; exact hV36
            have hV63 : V41 (mo + 42) = some (.inl (X.2.1 0, 6, .inl (fun j => nI (σ.2.2.2.2.1 j)))) := by rw [eV44, hv_un (by omega)]; exact hV37
            have hV64 : V41 (mo + 43) = some (.inl (X.2.1 7, 6, .inr (.inr (.inr (.inr tf))))) := by rw [eV44, hv_un (by omega)]; exact hV38
            have hV66 : V41 (mo + 14) = some (.inl (X.2.1 0, 3, .inl u43)) := by rw [eV44]; exact hv_us
            rcases hz45 with ⟨rfl, l2, hf2, hm2⟩ | ⟨rfl, hf2⟩
            · skip
              refine lv_if_ne (tgt := 66) C0.1 C0.2.1 dX7_units_57 (by decide) (fun _ => ?_) (fun h9 => absurd h9 (by decide))
              refine lv_iload C0.1 C0.2.1 dX7_units_66 (lv_at hl 0 rfl) ?_
              refine lv_iconst (v := 3) C0.1 C0.2.1 dX7_units_68 (by decide) ?_
              refine lv_icmp_le (tgt := 75) C0.1 C0.2.1 dX7_units_69 (by decide) (fun _ => ?_) (fun h9 => absurd h9 (by decide))
              refine lv_iload_n C0.1 C0.2.1 dX7_units_75 rfl (lv_at hl 4 rfl) ?_
              refine lv_if_ne (tgt := 84) C0.1 C0.2.1 dX7_units_76 (by decide) (fun h9 => absurd h9 (by decide)) (fun _ => ?_)
              refine lv_iload C0.1 C0.2.1 dX7_units_79 (lv_at hl 0 rfl) ?_
              refine lv_goto (tgt := 103) C0.1 C0.2.1 dX7_units_81 (by decide) ?_
              exact hv_iret C0 w hr hlk (by have h9 := ((fu_ru hb4 hb8).2 hf1).1 _ _ hf2 hm2; rw [sp_units, if_pos ⟨hb4, hb8⟩, if_pos hw3, if_neg (by rw [h9.1]; decide), if_pos rfl, h9.1]; exact ⟨rfl, ⟨ab, be, pl, cl, sg, ik, ((by rw [eV44, hv_un (by omega), eV17, hv_un (by omega)] : _ = V mo).trans hO), hRw.fr (fun q h7 h8 => by rw [eV44, hv_un (by omega), eV17, hv_un (by omega)]), (by rw [eV44, hv_un (by omega), eV17, hv_un (by omega)] : _ = V (mo + 10)).trans hTx, ⟨⟨wd, (by rw [eV44, hv_un (by omega), eV17, hv_un (by omega)] : _ = V (mo + 11)).trans s1⟩, ⟨td, (by rw [eV44, hv_un (by omega), eV17, hv_un (by omega)] : _ = V (mo + 12)).trans s2⟩, ⟨sn, (by rw [eV44, hv_un (by omega), eV17, hv_un (by omega)] : _ = V (mo + 13)).trans s3⟩, ⟨_, by rw [eV44]; exact hv_us⟩, kn, (by rw [eV44, hv_un (by omega), eV17, hv_un (by omega)] : _ = V (mo + 20)).trans s5⟩, hSe.fr (fun q h7 h8 => by rw [eV44, hv_un (by omega), eV17, hv_un (by omega)]), hEv.fr (by rw [eV44, hv_un (by omega), eV17, hv_un (by omega)]) (by rw [eV44, hv_un (by omega), eV17, hv_un (by omega)]), hBk.fr (by rw [eV44, hv_un (by omega), eV17, hv_un (by omega)]) (by rw [eV44, hv_un (by omega), eV17, hv_un (by omega)]), hIm.fr (fun q h7 h8 => by rw [eV44, hv_un (by omega), eV17, hv_un (by omega)]), hTp.fr (fun q h7 h8 => by rw [eV44, hv_un (by omega), eV17, hv_un (by omega)])⟩, (fun q h7 => by rw [eV44, hv_un (by omega), eV17, hv_un (by omega)])⟩) dX7_units_103
            · skip
              refine lv_if_ne (tgt := 66) C0.1 C0.2.1 dX7_units_57 (by decide) (fun h9 => absurd h9 (by decide)) (fun _ => ?_)
              refine lv_iinc (v := 2 + 1) (lv' := [(4, .int (2 + 1)), (0, .ref mo), (1, .int u), (2, .int lo), (3, .int 0)]) C0.1 C0.2.1 dX7_units_60 hl (k := 0) rfl rfl (by decide) rfl (fun ls hl => ?_)
              have hl : lv_has ls 5 [(4, .int 3), (0, .ref mo), (1, .int u), (2, .int lo), (3, .int 0)] := by rw [show (3 : Int32) = 2 + 1 from by decide]; exact hl
              refine lv_goto (tgt := 39) C0.1 C0.2.1 dX7_units_63 (by decide) ?_
              refine lv_iload C0.1 C0.2.1 dX7_units_39 (lv_at hl 0 rfl) ?_
              refine lv_iconst (v := 3) C0.1 C0.2.1 dX7_units_41 (by decide) ?_
              refine lv_icmp_gt (tgt := 66) C0.1 C0.2.1 dX7_units_42 (by decide) (fun h9 => absurd h9 (by decide)) (fun _ => ?_)
              refine lv_aload_n C0.1 C0.2.1 dX7_units_45 rfl (lv_at hl 1 rfl) ?_
              refine lv_iload C0.1 C0.2.1 dX7_units_46 (lv_at hl 0 rfl) ?_
              refine lv_iconst (v := 0) C0.1 C0.2.1 dX7_units_48 (by decide) ?_
              refine lv_iconst (v := 2) C0.1 C0.2.1 dX7_units_49 (by decide) ?_
              refine lv_iload_n C0.1 C0.2.1 dX7_units_50 rfl (lv_at hl 2 rfl) ?_
              refine lv_i2l (v := u.toInt64) C0.1 C0.2.1 dX7_units_51 rfl ?_
              refine lv_iload_n C0.1 C0.2.1 dX7_units_52 rfl (lv_at hl 3 rfl) ?_
              refine lv_i2l (v := lo.toInt64) C0.1 C0.2.1 dX7_units_53 rfl ?_
              refine hv_cVi C0 w kl_X7_271 kv_X7_isUnits rfl hV46 (c_X7_isUnits (N := 3) (by decide) 3 hV46 hV66 (k := 0) (fr := 2) rfl (by decide)) (by decide) (by decide) rfl hl.1 rfl (Nat.le_of_ble_eq_true rfl) dX7_units_54 ⟨Nat.le_refl _, Nat.le_refl _⟩ (fun x67 V68 Hq lq hp69 w => ?_)
              obtain ⟨u70, eV71, -, hz72⟩ := hp69
              have hV73 : V68 mo = some (.inr (7, [.ref (mo + 1), .ref (mo + 2), .ref (mo + 3), .long ab, .long be, .ref (mo + 10), .int (nI σ.2.2.1.1), .int pl, .int cl, .ref (mo + 11), .ref (mo + 12), .ref (mo + 13), .int sg, .ref (mo + 14), .ref (mo + 15), .ref (mo + 16), .ref (mo + 17), .int (nI σ.1.2.1.1), .ref (mo + 18), .ref (mo + 19), .int (nI σ.1.2.2.1.1), .ref (mo + 20), .ref (mo + 21), .ref (mo + 22), .int (nI σ.1.2.2.2.1), .int ik, .ref (mo + 23), .ref (mo + 24), .ref (mo + 25), .ref (mo + 26), .ref (mo + 33), .ref (mo + 41), .ref (mo + 42), .ref (mo + 43)])) := by rw [eV71, hv_un (by omega)]; exact hV46
              have hV74 : V68 (mo + 1) = some (.inl (X.2.1 0, 6, .inl σ.1.1.1)) := by rw [eV71, hv_un (by omega)]; exact hV47
              have hV75 : V68 (mo + 2) = some (.inl (X.2.1 0, 6, .inl (fun j => nI (σ.1.1.2.1 j)))) := by rw [eV71, hv_un (by omega)]; exact hV48
              have hV76 : V68 (mo + 3) = some (.inl (X.2.1 6, 6, .inr (.inr (.inr (.inr rf))))) := by rw [eV71, hv_un (by omega)]; exact hV49
              have hV77 : V68 (mo + 10) = some (.inl (X.2.1 2, 100, .inl σ.2.2.1.2)) := by rw [eV71, hv_un (by omega)]; exact hV50
              have hV78 : V68 (mo + 11) = some (.inl (X.2.1 0, 12, .inl wd)) := by rw [eV71, hv_un (by omega)]; exact hV51
              have hV79 : V68 (mo + 12) = some (.inl (X.2.1 0, 48, .inl td)) := by rw [eV71, hv_un (by omega)]; exact hV52
              have hV80 : V68 (mo + 13) = some (.inl (X.2.1 2, 178, .inl sn)) := by rw [eV71, hv_un (by omega)]; exact hV53
              have hV81 : V68 (mo + 20) = some (.inl (X.2.1 0, 16, .inl kn)) := by rw [eV71, hv_un (by omega)]; exact hV54
              have hV82 : V68 (mo + 15) = some (.inl (X.2.1 0, 4, .inl sf)) := by rw [eV71, hv_un (by omega)]; exact hV55
              have hV83 : V68 (mo + 16) = some (.inl (X.2.1 0, 4, .inl sg9)) := by rw [eV71, hv_un (by omega)]; exact hV56
              have hV84 : V68 (mo + 17) = some (.inl (X.2.1 0, 4, .inl sh)) := by rw [eV71, hv_un (by omega)]; exact hV57
              have hV85 : V68 (mo + 18) = some (.inl (X.2.1 0, 8, .inl ef)) := by rw [eV71, hv_un (by omega)]; exact hV58
              have hV86 : V68 (mo + 19) = some (.inl (X.2.1 0, 8, .inl eg)) := by rw [eV71, hv_un (by omega)]; exact hV59
              have hV87 : V68 (mo + 21) = some (.inl (X.2.1 0, 8, .inl bf)) := by rw [eV71, hv_un (by omega)]; exact hV60
              have hV88 : V68 (mo + 22) = some (.inl (X.2.1 0, 8, .inl bg)) := by rw [eV71, hv_un (by omega)]; exact hV61
              have hV89 : V68 (mo + 41) = some (.inl (X.2.1 0, 6, .inl σ.2.2.2.1)) := by rw [eV71, hv_un (by omega)]; exact hV62
              have hV90 : V68 (mo + 42) = some (.inl (X.2.1 0, 6, .inl (fun j => nI (σ.2.2.2.2.1 j)))) := by rw [eV71, hv_un (by omega)]; exact hV63
              have hV91 : V68 (mo + 43) = some (.inl (X.2.1 7, 6, .inr (.inr (.inr (.inr tf))))) := by rw [eV71, hv_un (by omega)]; exact hV64
              have hV93 : V68 (mo + 14) = some (.inl (X.2.1 0, 3, .inl u70)) := by rw [eV71]; exact hv_us
              rcases hz72 with ⟨rfl, l3, hf3, hm3⟩ | ⟨rfl, hf3⟩
              · skip
                refine lv_if_ne (tgt := 66) C0.1 C0.2.1 dX7_units_57 (by decide) (fun _ => ?_) (fun h9 => absurd h9 (by decide))
                refine lv_iload C0.1 C0.2.1 dX7_units_66 (lv_at hl 0 rfl) ?_
                refine lv_iconst (v := 3) C0.1 C0.2.1 dX7_units_68 (by decide) ?_
                refine lv_icmp_le (tgt := 75) C0.1 C0.2.1 dX7_units_69 (by decide) (fun _ => ?_) (fun h9 => absurd h9 (by decide))
                refine lv_iload_n C0.1 C0.2.1 dX7_units_75 rfl (lv_at hl 4 rfl) ?_
                refine lv_if_ne (tgt := 84) C0.1 C0.2.1 dX7_units_76 (by decide) (fun h9 => absurd h9 (by decide)) (fun _ => ?_)
                refine lv_iload C0.1 C0.2.1 dX7_units_79 (lv_at hl 0 rfl) ?_
                refine lv_goto (tgt := 103) C0.1 C0.2.1 dX7_units_81 (by decide) ?_
                exact hv_iret C0 w hr hlk (by have h9 := (((fu_ru hb4 hb8).2 hf1).2 hf2).1 _ _ hf3 hm3; rw [sp_units, if_pos ⟨hb4, hb8⟩, if_pos hw3, if_neg (by rw [h9.1]; decide), if_pos rfl, h9.1]; exact ⟨rfl, ⟨ab, be, pl, cl, sg, ik, ((by rw [eV71, hv_un (by omega), eV44, hv_un (by omega), eV17, hv_un (by omega)] : _ = V mo).trans hO), hRw.fr (fun q h7 h8 => by rw [eV71, hv_un (by omega), eV44, hv_un (by omega), eV17, hv_un (by omega)]), (by rw [eV71, hv_un (by omega), eV44, hv_un (by omega), eV17, hv_un (by omega)] : _ = V (mo + 10)).trans hTx, ⟨⟨wd, (by rw [eV71, hv_un (by omega), eV44, hv_un (by omega), eV17, hv_un (by omega)] : _ = V (mo + 11)).trans s1⟩, ⟨td, (by rw [eV71, hv_un (by omega), eV44, hv_un (by omega), eV17, hv_un (by omega)] : _ = V (mo + 12)).trans s2⟩, ⟨sn, (by rw [eV71, hv_un (by omega), eV44, hv_un (by omega), eV17, hv_un (by omega)] : _ = V (mo + 13)).trans s3⟩, ⟨_, by rw [eV71]; exact hv_us⟩, kn, (by rw [eV71, hv_un (by omega), eV44, hv_un (by omega), eV17, hv_un (by omega)] : _ = V (mo + 20)).trans s5⟩, hSe.fr (fun q h7 h8 => by rw [eV71, hv_un (by omega), eV44, hv_un (by omega), eV17, hv_un (by omega)]), hEv.fr (by rw [eV71, hv_un (by omega), eV44, hv_un (by omega), eV17, hv_un (by omega)]) (by rw [eV71, hv_un (by omega), eV44, hv_un (by omega), eV17, hv_un (by omega)]), hBk.fr (by rw [eV71, hv_un (by omega), eV44, hv_un (by omega), eV17, hv_un (by omega)]) (by rw [eV71, hv_un (by omega), eV44, hv_un (by omega), eV17, hv_un (by omega)]), hIm.fr (fun q h7 h8 => by rw [eV71, hv_un (by omega), eV44, hv_un (by omega), eV17, hv_un (by omega)]), hTp.fr (fun q h7 h8 => by rw [eV71, hv_un (by omega), eV44, hv_un (by omega), eV17, hv_un (by omega)])⟩, (fun q h7 => by rw [eV71, hv_un (by omega), eV44, hv_un (by omega), eV17, hv_un (by omega)])⟩) dX7_units_103
              · skip
                refine lv_if_ne (tgt := 66) C0.1 C0.2.1 dX7_units_57 (by decide) (fun h9 => absurd h9 (by decide)) (fun _ => ?_)
                refine lv_iinc (v := 3 + 1) (lv' := [(4, .int (3 + 1)), (0, .ref mo), (1, .int u), (2, .int lo), (3, .int 0)]) C0.1 C0.2.1 dX7_units_60 hl (k := 0) rfl rfl (by decide) rfl (fun ls hl => ?_)
                have hl : lv_has ls 5 [(4, .int 4), (0, .ref mo), (1, .int u), (2, .int lo), (3, .int 0)] := by rw [show (4 : Int32) = 3 + 1 from by decide]; exact hl
                refine lv_goto (tgt := 39) C0.1 C0.2.1 dX7_units_63 (by decide) ?_
                refine lv_iload C0.1 C0.2.1 dX7_units_39 (lv_at hl 0 rfl) ?_
                refine lv_iconst (v := 3) C0.1 C0.2.1 dX7_units_41 (by decide) ?_
                refine lv_icmp_gt (tgt := 66) C0.1 C0.2.1 dX7_units_42 (by decide) (fun _ => ?_) (fun h9 => absurd h9 (by decide))
                refine lv_iload C0.1 C0.2.1 dX7_units_66 (lv_at hl 0 rfl) ?_
                refine lv_iconst (v := 3) C0.1 C0.2.1 dX7_units_68 (by decide) ?_
                refine lv_icmp_le (tgt := 75) C0.1 C0.2.1 dX7_units_69 (by decide) (fun h9 => absurd h9 (by decide)) (fun _ => ?_)
                refine lv_bipush (v := -5) C0.1 C0.2.1 dX7_units_72 (by decide) ?_
                exact hv_iret C0 w hr hlk (by have h9 := (((fu_ru hb4 hb8).2 hf1).2 hf2).2 hf3; rw [sp_units, if_pos ⟨hb4, hb8⟩, if_pos hw3, if_pos (by rw [h9]; decide)]; exact ⟨rfl, ⟨ab, be, pl, cl, sg, ik, ((by rw [eV71, hv_un (by omega), eV44, hv_un (by omega), eV17, hv_un (by omega)] : _ = V mo).trans hO), hRw.fr (fun q h7 h8 => by rw [eV71, hv_un (by omega), eV44, hv_un (by omega), eV17, hv_un (by omega)]), (by rw [eV71, hv_un (by omega), eV44, hv_un (by omega), eV17, hv_un (by omega)] : _ = V (mo + 10)).trans hTx, ⟨⟨wd, (by rw [eV71, hv_un (by omega), eV44, hv_un (by omega), eV17, hv_un (by omega)] : _ = V (mo + 11)).trans s1⟩, ⟨td, (by rw [eV71, hv_un (by omega), eV44, hv_un (by omega), eV17, hv_un (by omega)] : _ = V (mo + 12)).trans s2⟩, ⟨sn, (by rw [eV71, hv_un (by omega), eV44, hv_un (by omega), eV17, hv_un (by omega)] : _ = V (mo + 13)).trans s3⟩, ⟨_, by rw [eV71]; exact hv_us⟩, kn, (by rw [eV71, hv_un (by omega), eV44, hv_un (by omega), eV17, hv_un (by omega)] : _ = V (mo + 20)).trans s5⟩, hSe.fr (fun q h7 h8 => by rw [eV71, hv_un (by omega), eV44, hv_un (by omega), eV17, hv_un (by omega)]), hEv.fr (by rw [eV71, hv_un (by omega), eV44, hv_un (by omega), eV17, hv_un (by omega)]) (by rw [eV71, hv_un (by omega), eV44, hv_un (by omega), eV17, hv_un (by omega)]), hBk.fr (by rw [eV71, hv_un (by omega), eV44, hv_un (by omega), eV17, hv_un (by omega)]) (by rw [eV71, hv_un (by omega), eV44, hv_un (by omega), eV17, hv_un (by omega)]), hIm.fr (fun q h7 h8 => by rw [eV71, hv_un (by omega), eV44, hv_un (by omega), eV17, hv_un (by omega)]), hTp.fr (fun q h7 h8 => by rw [eV71, hv_un (by omega), eV44, hv_un (by omega), eV17, hv_un (by omega)])⟩, (fun q h7 => by rw [eV71, hv_un (by omega), eV44, hv_un (by omega), eV17, hv_un (by omega)])⟩) dX7_units_74
        · skip
          refine lv_iconst (v := 1) C0.1 C0.2.1 dX7_units_36 (by decide) ?_
          refine lv_istore (lv' := [(4, .int 1), (0, .ref mo), (1, .int u), (2, .int lo), (3, .int 1)]) C0.1 C0.2.1 dX7_units_37 hl (by decide) rfl (fun ls hl => ?_)
          refine lv_iload C0.1 C0.2.1 dX7_units_39 (lv_at hl 0 rfl) ?_
          refine lv_iconst (v := 3) C0.1 C0.2.1 dX7_units_41 (by decide) ?_
          refine lv_icmp_gt (tgt := 66) C0.1 C0.2.1 dX7_units_42 (by decide) (fun h9 => absurd h9 (by decide)) (fun _ => ?_)
          refine lv_aload_n C0.1 C0.2.1 dX7_units_45 rfl (lv_at hl 1 rfl) ?_
          refine lv_iload C0.1 C0.2.1 dX7_units_46 (lv_at hl 0 rfl) ?_
          refine lv_iconst (v := 0) C0.1 C0.2.1 dX7_units_48 (by decide) ?_
          refine lv_iconst (v := 2) C0.1 C0.2.1 dX7_units_49 (by decide) ?_
          refine lv_iload_n C0.1 C0.2.1 dX7_units_50 rfl (lv_at hl 2 rfl) ?_
          refine lv_i2l (v := u.toInt64) C0.1 C0.2.1 dX7_units_51 rfl ?_
          refine lv_iload_n C0.1 C0.2.1 dX7_units_52 rfl (lv_at hl 3 rfl) ?_
          refine lv_i2l (v := lo.toInt64) C0.1 C0.2.1 dX7_units_53 rfl ?_
          refine hv_cVi C0 w kl_X7_271 kv_X7_isUnits rfl hO (c_X7_isUnits (N := 1) (by decide) 1 hO s4 (k := 0) (fr := 2) rfl (by decide)) (by decide) (by decide) rfl hl.1 rfl (Nat.le_of_ble_eq_true rfl) dX7_units_54 ⟨Nat.le_refl _, Nat.le_refl _⟩ (fun x94 V95 Hq lq hp96 w => ?_)
          obtain ⟨u97, eV98, -, hz99⟩ := hp96
          have hV100 : V95 mo = some (.inr (7, [.ref (mo + 1), .ref (mo + 2), .ref (mo + 3), .long ab, .long be, .ref (mo + 10), .int (nI σ.2.2.1.1), .int pl, .int cl, .ref (mo + 11), .ref (mo + 12), .ref (mo + 13), .int sg, .ref (mo + 14), .ref (mo + 15), .ref (mo + 16), .ref (mo + 17), .int (nI σ.1.2.1.1), .ref (mo + 18), .ref (mo + 19), .int (nI σ.1.2.2.1.1), .ref (mo + 20), .ref (mo + 21), .ref (mo + 22), .int (nI σ.1.2.2.2.1), .int ik, .ref (mo + 23), .ref (mo + 24), .ref (mo + 25), .ref (mo + 26), .ref (mo + 33), .ref (mo + 41), .ref (mo + 42), .ref (mo + 43)])) := by rw [eV98, hv_un (by omega)]; exact hO
          have hV101 : V95 (mo + 1) = some (.inl (X.2.1 0, 6, .inl σ.1.1.1)) := by rw [eV98, hv_un (by omega)]; exact r1
          have hV102 : V95 (mo + 2) = some (.inl (X.2.1 0, 6, .inl (fun j => nI (σ.1.1.2.1 j)))) := by rw [eV98, hv_un (by omega)]; exact r2
          have hV103 : V95 (mo + 3) = some (.inl (X.2.1 6, 6, .inr (.inr (.inr (.inr rf))))) := by rw [eV98, hv_un (by omega)]; exact r3
          have hV104 : V95 (mo + 10) = some (.inl (X.2.1 2, 100, .inl σ.2.2.1.2)) := by rw [eV98, hv_un (by omega)]; exact hTx
          have hV105 : V95 (mo + 11) = some (.inl (X.2.1 0, 12, .inl wd)) := by rw [eV98, hv_un (by omega)]; exact s1
          have hV106 : V95 (mo + 12) = some (.inl (X.2.1 0, 48, .inl td)) := by rw [eV98, hv_un (by omega)]; exact s2
          have hV107 : V95 (mo + 13) = some (.inl (X.2.1 2, 178, .inl sn)) := by rw [eV98, hv_un (by omega)]; exact s3
          have hV109 : V95 (mo + 20) = some (.inl (X.2.1 0, 16, .inl kn)) := by rw [eV98, hv_un (by omega)]; exact s5
          have hV110 : V95 (mo + 15) = some (.inl (X.2.1 0, 4, .inl sf)) := by rw [eV98, hv_un (by omega)]; exact e1
          have hV111 : V95 (mo + 16) = some (.inl (X.2.1 0, 4, .inl sg9)) := by rw [eV98, hv_un (by omega)]; exact e2
          have hV112 : V95 (mo + 17) = some (.inl (X.2.1 0, 4, .inl sh)) := by rw [eV98, hv_un (by omega)]; exact e3
          have hV113 : V95 (mo + 18) = some (.inl (X.2.1 0, 8, .inl ef)) := by rw [eV98, hv_un (by omega)]; exact v1
          have hV114 : V95 (mo + 19) = some (.inl (X.2.1 0, 8, .inl eg)) := by rw [eV98, hv_un (by omega)]; exact v2
          have hV115 : V95 (mo + 21) = some (.inl (X.2.1 0, 8, .inl bf)) := by rw [eV98, hv_un (by omega)]; exact b1
          have hV116 : V95 (mo + 22) = some (.inl (X.2.1 0, 8, .inl bg)) := by rw [eV98, hv_un (by omega)]; exact b2
          have hV117 : V95 (mo + 41) = some (.inl (X.2.1 0, 6, .inl σ.2.2.2.1)) := by rw [eV98, hv_un (by omega)]; exact t1
          have hV118 : V95 (mo + 42) = some (.inl (X.2.1 0, 6, .inl (fun j => nI (σ.2.2.2.2.1 j)))) := by rw [eV98, hv_un (by omega)]; exact t2
          have hV119 : V95 (mo + 43) = some (.inl (X.2.1 7, 6, .inr (.inr (.inr (.inr tf))))) := by rw [eV98, hv_un (by omega)]; exact t3
          have hV120 : V95 (mo + 14) = some (.inl (X.2.1 0, 3, .inl u97)) := by rw [eV98]; exact hv_us
          rcases hz99 with ⟨rfl, l1, hf1, hm1⟩ | ⟨rfl, hf1⟩
          · skip
            refine lv_if_ne (tgt := 66) C0.1 C0.2.1 dX7_units_57 (by decide) (fun _ => ?_) (fun h9 => absurd h9 (by decide))
            refine lv_iload C0.1 C0.2.1 dX7_units_66 (lv_at hl 0 rfl) ?_
            refine lv_iconst (v := 3) C0.1 C0.2.1 dX7_units_68 (by decide) ?_
            refine lv_icmp_le (tgt := 75) C0.1 C0.2.1 dX7_units_69 (by decide) (fun _ => ?_) (fun h9 => absurd h9 (by decide))
            refine lv_iload_n C0.1 C0.2.1 dX7_units_75 rfl (lv_at hl 4 rfl) ?_
            refine lv_if_ne (tgt := 84) C0.1 C0.2.1 dX7_units_76 (by decide) (fun _ => ?_) (fun h9 => absurd h9 (by decide))
            refine lv_iload_n C0.1 C0.2.1 dX7_units_84 rfl (lv_at hl 4 rfl) ?_
            refine lv_iload C0.1 C0.2.1 dX7_units_85 (lv_at hl 0 rfl) ?_
            refine lv_icmp_gt (tgt := 101) C0.1 C0.2.1 dX7_units_87 (by decide) (fun h9 => absurd h9 (by decide)) (fun _ => ?_)
            refine lv_aload_n C0.1 C0.2.1 dX7_units_90 rfl (lv_at hl 1 rfl) ?_
            refine gf_X7_36 C0 w hV100 rfl dX7_units_91 ?_
            refine lv_iload_n C0.1 C0.2.1 dX7_units_94 rfl (lv_at hl 4 rfl) ?_
            refine lv_iconst (v := 1) C0.1 C0.2.1 dX7_units_95 (by decide) ?_
            refine lv_isub C0.1 C0.2.1 dX7_units_96 ?_
            rw [show (1 : Int32) - 1 = 0 by decide]
            refine hv_iald C0 w hV120 (hn_in (n := 0) (by decide) (by decide)) dX7_units_97 ?_
            have hc9 : (0 : Int32).toNatClampNeg = 0 := by decide
            rw [hc9]; clear hc9
            refine lv_goto (tgt := 103) C0.1 C0.2.1 dX7_units_98 (by decide) ?_
            exact hv_iret C0 w hr hlk (by have h9 := (fu_ru hb4 hb8).1 _ _ hf1 hm1; rw [sp_units, if_pos ⟨hb4, hb8⟩, if_pos hw3, if_neg (by rw [h9.1]; decide), if_neg (by decide), if_pos rfl, h9.2]; exact ⟨rfl, ⟨ab, be, pl, cl, sg, ik, ((by rw [eV98, hv_un (by omega)] : _ = V mo).trans hO), hRw.fr (fun q h7 h8 => by rw [eV98, hv_un (by omega)]), (by rw [eV98, hv_un (by omega)] : _ = V (mo + 10)).trans hTx, ⟨⟨wd, (by rw [eV98, hv_un (by omega)] : _ = V (mo + 11)).trans s1⟩, ⟨td, (by rw [eV98, hv_un (by omega)] : _ = V (mo + 12)).trans s2⟩, ⟨sn, (by rw [eV98, hv_un (by omega)] : _ = V (mo + 13)).trans s3⟩, ⟨_, by rw [eV98]; exact hv_us⟩, kn, (by rw [eV98, hv_un (by omega)] : _ = V (mo + 20)).trans s5⟩, hSe.fr (fun q h7 h8 => by rw [eV98, hv_un (by omega)]), hEv.fr (by rw [eV98, hv_un (by omega)]) (by rw [eV98, hv_un (by omega)]), hBk.fr (by rw [eV98, hv_un (by omega)]) (by rw [eV98, hv_un (by omega)]), hIm.fr (fun q h7 h8 => by rw [eV98, hv_un (by omega)]), hTp.fr (fun q h7 h8 => by rw [eV98, hv_un (by omega)])⟩, (fun q h7 => by rw [eV98, hv_un (by omega)])⟩) dX7_units_103
          · skip
            refine lv_if_ne (tgt := 66) C0.1 C0.2.1 dX7_units_57 (by decide) (fun h9 => absurd h9 (by decide)) (fun _ => ?_)
            refine lv_iinc (v := 1 + 1) (lv' := [(4, .int (1 + 1)), (0, .ref mo), (1, .int u), (2, .int lo), (3, .int 1)]) C0.1 C0.2.1 dX7_units_60 hl (k := 0) rfl rfl (by decide) rfl (fun ls hl => ?_)
            have hl : lv_has ls 5 [(4, .int 2), (0, .ref mo), (1, .int u), (2, .int lo), (3, .int 1)] := by rw [show (2 : Int32) = 1 + 1 from by decide]; exact hl
            refine lv_goto (tgt := 39) C0.1 C0.2.1 dX7_units_63 (by decide) ?_
            refine lv_iload C0.1 C0.2.1 dX7_units_39 (lv_at hl 0 rfl) ?_
            refine lv_iconst (v := 3) C0.1 C0.2.1 dX7_units_41 (by decide) ?_
            refine lv_icmp_gt (tgt := 66) C0.1 C0.2.1 dX7_units_42 (by decide) (fun h9 => absurd h9 (by decide)) (fun _ => ?_)
            refine lv_aload_n C0.1 C0.2.1 dX7_units_45 rfl (lv_at hl 1 rfl) ?_
            refine lv_iload C0.1 C0.2.1 dX7_units_46 (lv_at hl 0 rfl) ?_
            refine lv_iconst (v := 0) C0.1 C0.2.1 dX7_units_48 (by decide) ?_
            refine lv_iconst (v := 2) C0.1 C0.2.1 dX7_units_49 (by decide) ?_
            refine lv_iload_n C0.1 C0.2.1 dX7_units_50 rfl (lv_at hl 2 rfl) ?_
            refine lv_i2l (v := u.toInt64) C0.1 C0.2.1 dX7_units_51 rfl ?_
            refine lv_iload_n C0.1 C0.2.1 dX7_units_52 rfl (lv_at hl 3 rfl) ?_
            refine lv_i2l (v := lo.toInt64) C0.1 C0.2.1 dX7_units_53 rfl ?_
            refine hv_cVi C0 w kl_X7_271 kv_X7_isUnits rfl hV100 (c_X7_isUnits (N := 2) (by decide) 2 hV100 hV120 (k := 0) (fr := 2) rfl (by decide)) (by decide) (by decide) rfl hl.1 rfl (Nat.le_of_ble_eq_true rfl) dX7_units_54 ⟨Nat.le_refl _, Nat.le_refl _⟩ (fun x121 V122 Hq lq hp123 w => ?_)
            obtain ⟨u124, eV125, -, hz126⟩ := hp123
            have hV127 : V122 mo = some (.inr (7, [.ref (mo + 1), .ref (mo + 2), .ref (mo + 3), .long ab, .long be, .ref (mo + 10), .int (nI σ.2.2.1.1), .int pl, .int cl, .ref (mo + 11), .ref (mo + 12), .ref (mo + 13), .int sg, .ref (mo + 14), .ref (mo + 15), .ref (mo + 16), .ref (mo + 17), .int (nI σ.1.2.1.1), .ref (mo + 18), .ref (mo + 19), .int (nI σ.1.2.2.1.1), .ref (mo + 20), .ref (mo + 21), .ref (mo + 22), .int (nI σ.1.2.2.2.1), .int ik, .ref (mo + 23), .ref (mo + 24), .ref (mo + 25), .ref (mo + 26), .ref (mo + 33), .ref (mo + 41), .ref (mo + 42), .ref (mo + 43)])) := by rw [eV125, hv_un (by omega)]; exact hV100
            have hV128 : V122 (mo + 1) = some (.inl (X.2.1 0, 6, .inl σ.1.1.1)) := by rw [eV125, hv_un (by omega)]; exact hV101
            have hV129 : V122 (mo + 2) = some (.inl (X.2.1 0, 6, .inl (fun j => nI (σ.1.1.2.1 j)))) := by rw [eV125, hv_un (by omega)]; exact hV102
            have hV130 : V122 (mo + 3) = some (.inl (X.2.1 6, 6, .inr (.inr (.inr (.inr rf))))) := by rw [eV125, hv_un (by omega)]; exact hV103
            have hV131 : V122 (mo + 10) = some (.inl (X.2.1 2, 100, .inl σ.2.2.1.2)) := by rw [eV125, hv_un (by omega)]; exact hV104
            have hV132 : V122 (mo + 11) = some (.inl (X.2.1 0, 12, .inl wd)) := by rw [eV125, hv_un (by omega)]; exact hV105
            have hV133 : V122 (mo + 12) = some (.inl (X.2.1 0, 48, .inl td)) := by rw [eV125, hv_un (by omega)]; exact hV106
            have hV134 : V122 (mo + 13) = some (.inl (X.2.1 2, 178, .inl sn)) := by rw [eV125, hv_un (by omega)]; exact hV107
            have hV135 : V122 (mo + 20) = some (.inl (X.2.1 0, 16, .inl kn)) := by rw [eV125, hv_un (by omega)]; exact hV109
            have hV136 : V122 (mo + 15) = some (.inl (X.2.1 0, 4, .inl sf)) := by rw [eV125, hv_un (by omega)]; exact hV110
            have hV137 : V122 (mo + 16) = some (.inl (X.2.1 0, 4, .inl sg9)) := by rw [eV125, hv_un (by omega)]; exact hV111
            have hV138 : V122 (mo + 17) = some (.inl (X.2.1 0, 4, .inl sh)) := by rw [eV125, hv_un (by omega)]; exact hV112
            have hV139 : V122 (mo + 18) = some (.inl (X.2.1 0, 8, .inl ef)) := by rw [eV125, hv_un (by omega)]; exact hV113
            have hV140 : V122 (mo + 19) = some (.inl (X.2.1 0, 8, .inl eg)) := by rw [eV125, hv_un (by omega)]; exact hV114
            have hV141 : V122 (mo + 21) = some (.inl (X.2.1 0, 8, .inl bf)) := by rw [eV125, hv_un (by omega)]; exact hV115
            have hV142 : V122 (mo + 22) = some (.inl (X.2.1 0, 8, .inl bg)) := by rw [eV125, hv_un (by omega)]; exact hV116
            have hV143 : V122 (mo + 41) = some (.inl (X.2.1 0, 6, .inl σ.2.2.2.1)) := by rw [eV125, hv_un (by omega)]; exact hV117
            have hV144 : V122 (mo + 42) = some (.inl (X.2.1 0, 6, .inl (fun j => nI (σ.2.2.2.2.1 j)))) := by rw [eV125, hv_un (by omega)]; exact hV118
            have hV145 : V122 (mo + 43) = some (.inl (X.2.1 7, 6, .inr (.inr (.inr (.inr tf))))) := by rw [eV125, hv_un (by omega)]; exact hV119
            have hV147 : V122 (mo + 14) = some (.inl (X.2.1 0, 3, .inl u124)) := by rw [eV125]; exact hv_us
            rcases hz126 with ⟨rfl, l2, hf2, hm2⟩ | ⟨rfl, hf2⟩
            · skip
              refine lv_if_ne (tgt := 66) C0.1 C0.2.1 dX7_units_57 (by decide) (fun _ => ?_) (fun h9 => absurd h9 (by decide))
              refine lv_iload C0.1 C0.2.1 dX7_units_66 (lv_at hl 0 rfl) ?_
              refine lv_iconst (v := 3) C0.1 C0.2.1 dX7_units_68 (by decide) ?_
              refine lv_icmp_le (tgt := 75) C0.1 C0.2.1 dX7_units_69 (by decide) (fun _ => ?_) (fun h9 => absurd h9 (by decide))
              refine lv_iload_n C0.1 C0.2.1 dX7_units_75 rfl (lv_at hl 4 rfl) ?_
              refine lv_if_ne (tgt := 84) C0.1 C0.2.1 dX7_units_76 (by decide) (fun _ => ?_) (fun h9 => absurd h9 (by decide))
              refine lv_iload_n C0.1 C0.2.1 dX7_units_84 rfl (lv_at hl 4 rfl) ?_
              refine lv_iload C0.1 C0.2.1 dX7_units_85 (lv_at hl 0 rfl) ?_
              refine lv_icmp_gt (tgt := 101) C0.1 C0.2.1 dX7_units_87 (by decide) (fun h9 => absurd h9 (by decide)) (fun _ => ?_)
              refine lv_aload_n C0.1 C0.2.1 dX7_units_90 rfl (lv_at hl 1 rfl) ?_
              refine gf_X7_36 C0 w hV127 rfl dX7_units_91 ?_
              refine lv_iload_n C0.1 C0.2.1 dX7_units_94 rfl (lv_at hl 4 rfl) ?_
              refine lv_iconst (v := 1) C0.1 C0.2.1 dX7_units_95 (by decide) ?_
              refine lv_isub C0.1 C0.2.1 dX7_units_96 ?_
              rw [show (1 : Int32) - 1 = 0 by decide]
              refine hv_iald C0 w hV147 (hn_in (n := 0) (by decide) (by decide)) dX7_units_97 ?_
              have hc9 : (0 : Int32).toNatClampNeg = 0 := by decide
              rw [hc9]; clear hc9
              refine lv_goto (tgt := 103) C0.1 C0.2.1 dX7_units_98 (by decide) ?_
              exact hv_iret C0 w hr hlk (by have h9 := ((fu_ru hb4 hb8).2 hf1).1 _ _ hf2 hm2; rw [sp_units, if_pos ⟨hb4, hb8⟩, if_pos hw3, if_neg (by rw [h9.1]; decide), if_neg (by decide), if_pos rfl, h9.2.1]; exact ⟨rfl, ⟨ab, be, pl, cl, sg, ik, ((by rw [eV125, hv_un (by omega), eV98, hv_un (by omega)] : _ = V mo).trans hO), hRw.fr (fun q h7 h8 => by rw [eV125, hv_un (by omega), eV98, hv_un (by omega)]), (by rw [eV125, hv_un (by omega), eV98, hv_un (by omega)] : _ = V (mo + 10)).trans hTx, ⟨⟨wd, (by rw [eV125, hv_un (by omega), eV98, hv_un (by omega)] : _ = V (mo + 11)).trans s1⟩, ⟨td, (by rw [eV125, hv_un (by omega), eV98, hv_un (by omega)] : _ = V (mo + 12)).trans s2⟩, ⟨sn, (by rw [eV125, hv_un (by omega), eV98, hv_un (by omega)] : _ = V (mo + 13)).trans s3⟩, ⟨_, by rw [eV125]; exact hv_us⟩, kn, (by rw [eV125, hv_un (by omega), eV98, hv_un (by omega)] : _ = V (mo + 20)).trans s5⟩, hSe.fr (fun q h7 h8 => by rw [eV125, hv_un (by omega), eV98, hv_un (by omega)]), hEv.fr (by rw [eV125, hv_un (by omega), eV98, hv_un (by omega)]) (by rw [eV125, hv_un (by omega), eV98, hv_un (by omega)]), hBk.fr (by rw [eV125, hv_un (by omega), eV98, hv_un (by omega)]) (by rw [eV125, hv_un (by omega), eV98, hv_un (by omega)]), hIm.fr (fun q h7 h8 => by rw [eV125, hv_un (by omega), eV98, hv_un (by omega)]), hTp.fr (fun q h7 h8 => by rw [eV125, hv_un (by omega), eV98, hv_un (by omega)])⟩, (fun q h7 => by rw [eV125, hv_un (by omega), eV98, hv_un (by omega)])⟩) dX7_units_103
            · skip
              refine lv_if_ne (tgt := 66) C0.1 C0.2.1 dX7_units_57 (by decide) (fun h9 => absurd h9 (by decide)) (fun _ => ?_)
              refine lv_iinc (v := 2 + 1) (lv' := [(4, .int (2 + 1)), (0, .ref mo), (1, .int u), (2, .int lo), (3, .int 1)]) C0.1 C0.2.1 dX7_units_60 hl (k := 0) rfl rfl (by decide) rfl (fun ls hl => ?_)
              have hl : lv_has ls 5 [(4, .int 3), (0, .ref mo), (1, .int u), (2, .int lo), (3, .int 1)] := by rw [show (3 : Int32) = 2 + 1 from by decide]; exact hl
              refine lv_goto (tgt := 39) C0.1 C0.2.1 dX7_units_63 (by decide) ?_
              refine lv_iload C0.1 C0.2.1 dX7_units_39 (lv_at hl 0 rfl) ?_
              refine lv_iconst (v := 3) C0.1 C0.2.1 dX7_units_41 (by decide) ?_
              refine lv_icmp_gt (tgt := 66) C0.1 C0.2.1 dX7_units_42 (by decide) (fun h9 => absurd h9 (by decide)) (fun _ => ?_)
              refine lv_aload_n C0.1 C0.2.1 dX7_units_45 rfl (lv_at hl 1 rfl) ?_
              refine lv_iload C0.1 C0.2.1 dX7_units_46 (lv_at hl 0 rfl) ?_
              refine lv_iconst (v := 0) C0.1 C0.2.1 dX7_units_48 (by decide) ?_
              refine lv_iconst (v := 2) C0.1 C0.2.1 dX7_units_49 (by decide) ?_
              refine lv_iload_n C0.1 C0.2.1 dX7_units_50 rfl (lv_at hl 2 rfl) ?_
              refine lv_i2l (v := u.toInt64) C0.1 C0.2.1 dX7_units_51 rfl ?_
              refine lv_iload_n C0.1 C0.2.1 dX7_units_52 rfl (lv_at hl 3 rfl) ?_
              refine lv_i2l (v := lo.toInt64) C0.1 C0.2.1 dX7_units_53 rfl ?_
              refine hv_cVi C0 w kl_X7_271 kv_X7_isUnits rfl hV127 (c_X7_isUnits (N := 3) (by decide) 3 hV127 hV147 (k := 0) (fr := 2) rfl (by decide)) (by decide) (by decide) rfl hl.1 rfl (Nat.le_of_ble_eq_true rfl) dX7_units_54 ⟨Nat.le_refl _, Nat.le_refl _⟩ (fun x148 V149 Hq lq hp150 w => ?_)
              obtain ⟨u151, eV152, -, hz153⟩ := hp150
              have hV154 : V149 mo = some (.inr (7, [.ref (mo + 1), .ref (mo + 2), .ref (mo + 3), .long ab, .long be, .ref (mo + 10), .int (nI σ.2.2.1.1), .int pl, .int cl, .ref (mo + 11), .ref (mo + 12), .ref (mo + 13), .int sg, .ref (mo + 14), .ref (mo + 15), .ref (mo + 16), .ref (mo + 17), .int (nI σ.1.2.1.1), .ref (mo + 18), .ref (mo + 19), .int (nI σ.1.2.2.1.1), .ref (mo + 20), .ref (mo + 21), .ref (mo + 22), .int (nI σ.1.2.2.2.1), .int ik, .ref (mo + 23), .ref (mo + 24), .ref (mo + 25), .ref (mo + 26), .ref (mo + 33), .ref (mo + 41), .ref (mo + 42), .ref (mo + 43)])) := by rw [eV152, hv_un (by omega)]; exact hV127
              have hV155 : V149 (mo + 1) = some (.inl (X.2.1 0, 6, .inl σ.1.1.1)) := by rw [eV152, hv_un (by omega)]; exact hV128
              have hV156 : V149 (mo + 2) = some (.inl (X.2.1 0, 6, .inl (fun j => nI (σ.1.1.2.1 j)))) := by rw [eV152, hv_un (by omega)]; exact hV129
              have hV157 : V149 (mo + 3) = some (.inl (X.2.1 6, 6, .inr (.inr (.inr (.inr rf))))) := by rw [eV152, hv_un (by omega)]; exact hV130
              have hV158 : V149 (mo + 10) = some (.inl (X.2.1 2, 100, .inl σ.2.2.1.2)) := by rw [eV152, hv_un (by omega)]; exact hV131
              have hV159 : V149 (mo + 11) = some (.inl (X.2.1 0, 12, .inl wd)) := by rw [eV152, hv_un (by omega)]; exact hV132
              have hV160 : V149 (mo + 12) = some (.inl (X.2.1 0, 48, .inl td)) := by rw [eV152, hv_un (by omega)]; exact hV133
              have hV161 : V149 (mo + 13) = some (.inl (X.2.1 2, 178, .inl sn)) := by rw [eV152, hv_un (by omega)]; exact hV134
              have hV162 : V149 (mo + 20) = some (.inl (X.2.1 0, 16, .inl kn)) := by rw [eV152, hv_un (by omega)]; exact hV135
              have hV163 : V149 (mo + 15) = some (.inl (X.2.1 0, 4, .inl sf)) := by rw [eV152, hv_un (by omega)]; exact hV136
              have hV164 : V149 (mo + 16) = some (.inl (X.2.1 0, 4, .inl sg9)) := by rw [eV152, hv_un (by omega)]; exact hV137
              have hV165 : V149 (mo + 17) = some (.inl (X.2.1 0, 4, .inl sh)) := by rw [eV152, hv_un (by omega)]; exact hV138
              have hV166 : V149 (mo + 18) = some (.inl (X.2.1 0, 8, .inl ef)) := by rw [eV152, hv_un (by omega)]; exact hV139
              have hV167 : V149 (mo + 19) = some (.inl (X.2.1 0, 8, .inl eg)) := by rw [eV152, hv_un (by omega)]; exact hV140
              have hV168 : V149 (mo + 21) = some (.inl (X.2.1 0, 8, .inl bf)) := by rw [eV152, hv_un (by omega)]; exact hV141
              have hV169 : V149 (mo + 22) = some (.inl (X.2.1 0, 8, .inl bg)) := by rw [eV152, hv_un (by omega)]; exact hV142
              have hV170 : V149 (mo + 41) = some (.inl (X.2.1 0, 6, .inl σ.2.2.2.1)) := by rw [eV152, hv_un (by omega)]; exact hV143
              have hV171 : V149 (mo + 42) = some (.inl (X.2.1 0, 6, .inl (fun j => nI (σ.2.2.2.2.1 j)))) := by rw [eV152, hv_un (by omega)]; exact hV144
              have hV172 : V149 (mo + 43) = some (.inl (X.2.1 7, 6, .inr (.inr (.inr (.inr tf))))) := by rw [eV152, hv_un (by omega)]; exact hV145
              have hV174 : V149 (mo + 14) = some (.inl (X.2.1 0, 3, .inl u151)) := by rw [eV152]; exact hv_us
              rcases hz153 with ⟨rfl, l3, hf3, hm3⟩ | ⟨rfl, hf3⟩
              · skip
                refine lv_if_ne (tgt := 66) C0.1 C0.2.1 dX7_units_57 (by decide) (fun _ => ?_) (fun h9 => absurd h9 (by decide))
                refine lv_iload C0.1 C0.2.1 dX7_units_66 (lv_at hl 0 rfl) ?_
                refine lv_iconst (v := 3) C0.1 C0.2.1 dX7_units_68 (by decide) ?_
                refine lv_icmp_le (tgt := 75) C0.1 C0.2.1 dX7_units_69 (by decide) (fun _ => ?_) (fun h9 => absurd h9 (by decide))
                refine lv_iload_n C0.1 C0.2.1 dX7_units_75 rfl (lv_at hl 4 rfl) ?_
                refine lv_if_ne (tgt := 84) C0.1 C0.2.1 dX7_units_76 (by decide) (fun _ => ?_) (fun h9 => absurd h9 (by decide))
                refine lv_iload_n C0.1 C0.2.1 dX7_units_84 rfl (lv_at hl 4 rfl) ?_
                refine lv_iload C0.1 C0.2.1 dX7_units_85 (lv_at hl 0 rfl) ?_
                refine lv_icmp_gt (tgt := 101) C0.1 C0.2.1 dX7_units_87 (by decide) (fun h9 => absurd h9 (by decide)) (fun _ => ?_)
                refine lv_aload_n C0.1 C0.2.1 dX7_units_90 rfl (lv_at hl 1 rfl) ?_
                refine gf_X7_36 C0 w hV154 rfl dX7_units_91 ?_
                refine lv_iload_n C0.1 C0.2.1 dX7_units_94 rfl (lv_at hl 4 rfl) ?_
                refine lv_iconst (v := 1) C0.1 C0.2.1 dX7_units_95 (by decide) ?_
                refine lv_isub C0.1 C0.2.1 dX7_units_96 ?_
                rw [show (1 : Int32) - 1 = 0 by decide]
                refine hv_iald C0 w hV174 (hn_in (n := 0) (by decide) (by decide)) dX7_units_97 ?_
                have hc9 : (0 : Int32).toNatClampNeg = 0 := by decide
                rw [hc9]; clear hc9
                refine lv_goto (tgt := 103) C0.1 C0.2.1 dX7_units_98 (by decide) ?_
                exact hv_iret C0 w hr hlk (by have h9 := (((fu_ru hb4 hb8).2 hf1).2 hf2).1 _ _ hf3 hm3; rw [sp_units, if_pos ⟨hb4, hb8⟩, if_pos hw3, if_neg (by rw [h9.1]; decide), if_neg (by decide), if_pos rfl, h9.2.1]; exact ⟨rfl, ⟨ab, be, pl, cl, sg, ik, ((by rw [eV152, hv_un (by omega), eV125, hv_un (by omega), eV98, hv_un (by omega)] : _ = V mo).trans hO), hRw.fr (fun q h7 h8 => by rw [eV152, hv_un (by omega), eV125, hv_un (by omega), eV98, hv_un (by omega)]), (by rw [eV152, hv_un (by omega), eV125, hv_un (by omega), eV98, hv_un (by omega)] : _ = V (mo + 10)).trans hTx, ⟨⟨wd, (by rw [eV152, hv_un (by omega), eV125, hv_un (by omega), eV98, hv_un (by omega)] : _ = V (mo + 11)).trans s1⟩, ⟨td, (by rw [eV152, hv_un (by omega), eV125, hv_un (by omega), eV98, hv_un (by omega)] : _ = V (mo + 12)).trans s2⟩, ⟨sn, (by rw [eV152, hv_un (by omega), eV125, hv_un (by omega), eV98, hv_un (by omega)] : _ = V (mo + 13)).trans s3⟩, ⟨_, by rw [eV152]; exact hv_us⟩, kn, (by rw [eV152, hv_un (by omega), eV125, hv_un (by omega), eV98, hv_un (by omega)] : _ = V (mo + 20)).trans s5⟩, hSe.fr (fun q h7 h8 => by rw [eV152, hv_un (by omega), eV125, hv_un (by omega), eV98, hv_un (by omega)]), hEv.fr (by rw [eV152, hv_un (by omega), eV125, hv_un (by omega), eV98, hv_un (by omega)]) (by rw [eV152, hv_un (by omega), eV125, hv_un (by omega), eV98, hv_un (by omega)]), hBk.fr (by rw [eV152, hv_un (by omega), eV125, hv_un (by omega), eV98, hv_un (by omega)]) (by rw [eV152, hv_un (by omega), eV125, hv_un (by omega), eV98, hv_un (by omega)]), hIm.fr (fun q h7 h8 => by rw [eV152, hv_un (by omega), eV125, hv_un (by omega), eV98, hv_un (by omega)]), hTp.fr (fun q h7 h8 => by rw [eV152, hv_un (by omega), eV125, hv_un (by omega), eV98, hv_un (by omega)])⟩, (fun q h7 => by rw [eV152, hv_un (by omega), eV125, hv_un (by omega), eV98, hv_un (by omega)])⟩) dX7_units_103
              · skip
                refine lv_if_ne (tgt := 66) C0.1 C0.2.1 dX7_units_57 (by decide) (fun h9 => absurd h9 (by decide)) (fun _ => ?_)
                refine lv_iinc (v := 3 + 1) (lv' := [(4, .int (3 + 1)), (0, .ref mo), (1, .int u), (2, .int lo), (3, .int 1)]) C0.1 C0.2.1 dX7_units_60 hl (k := 0) rfl rfl (by decide) rfl (fun ls hl => ?_)
                have hl : lv_has ls 5 [(4, .int 4), (0, .ref mo), (1, .int u), (2, .int lo), (3, .int 1)] := by rw [show (4 : Int32) = 3 + 1 from by decide]; exact hl
                refine lv_goto (tgt := 39) C0.1 C0.2.1 dX7_units_63 (by decide) ?_
                refine lv_iload C0.1 C0.2.1 dX7_units_39 (lv_at hl 0 rfl) ?_
                refine lv_iconst (v := 3) C0.1 C0.2.1 dX7_units_41 (by decide) ?_
                refine lv_icmp_gt (tgt := 66) C0.1 C0.2.1 dX7_units_42 (by decide) (fun _ => ?_) (fun h9 => absurd h9 (by decide))
                refine lv_iload C0.1 C0.2.1 dX7_units_66 (lv_at hl 0 rfl) ?_
                refine lv_iconst (v := 3) C0.1 C0.2.1 dX7_units_68 (by decide) ?_
                refine lv_icmp_le (tgt := 75) C0.1 C0.2.1 dX7_units_69 (by decide) (fun h9 => absurd h9 (by decide)) (fun _ => ?_)
                refine lv_bipush (v := -5) C0.1 C0.2.1 dX7_units_72 (by decide) ?_
                exact hv_iret C0 w hr hlk (by have h9 := (((fu_ru hb4 hb8).2 hf1).2 hf2).2 hf3; rw [sp_units, if_pos ⟨hb4, hb8⟩, if_pos hw3, if_pos (by rw [h9]; decide)]; exact ⟨rfl, ⟨ab, be, pl, cl, sg, ik, ((by rw [eV152, hv_un (by omega), eV125, hv_un (by omega), eV98, hv_un (by omega)] : _ = V mo).trans hO), hRw.fr (fun q h7 h8 => by rw [eV152, hv_un (by omega), eV125, hv_un (by omega), eV98, hv_un (by omega)]), (by rw [eV152, hv_un (by omega), eV125, hv_un (by omega), eV98, hv_un (by omega)] : _ = V (mo + 10)).trans hTx, ⟨⟨wd, (by rw [eV152, hv_un (by omega), eV125, hv_un (by omega), eV98, hv_un (by omega)] : _ = V (mo + 11)).trans s1⟩, ⟨td, (by rw [eV152, hv_un (by omega), eV125, hv_un (by omega), eV98, hv_un (by omega)] : _ = V (mo + 12)).trans s2⟩, ⟨sn, (by rw [eV152, hv_un (by omega), eV125, hv_un (by omega), eV98, hv_un (by omega)] : _ = V (mo + 13)).trans s3⟩, ⟨_, by rw [eV152]; exact hv_us⟩, kn, (by rw [eV152, hv_un (by omega), eV125, hv_un (by omega), eV98, hv_un (by omega)] : _ = V (mo + 20)).trans s5⟩, hSe.fr (fun q h7 h8 => by rw [eV152, hv_un (by omega), eV125, hv_un (by omega), eV98, hv_un (by omega)]), hEv.fr (by rw [eV152, hv_un (by omega), eV125, hv_un (by omega), eV98, hv_un (by omega)]) (by rw [eV152, hv_un (by omega), eV125, hv_un (by omega), eV98, hv_un (by omega)]), hBk.fr (by rw [eV152, hv_un (by omega), eV125, hv_un (by omega), eV98, hv_un (by omega)]) (by rw [eV152, hv_un (by omega), eV125, hv_un (by omega), eV98, hv_un (by omega)]), hIm.fr (fun q h7 h8 => by rw [eV152, hv_un (by omega), eV125, hv_un (by omega), eV98, hv_un (by omega)]), hTp.fr (fun q h7 h8 => by rw [eV152, hv_un (by omega), eV125, hv_un (by omega), eV98, hv_un (by omega)])⟩, (fun q h7 => by rw [eV152, hv_un (by omega), eV125, hv_un (by omega), eV98, hv_un (by omega)])⟩) dX7_units_74
        · skip
          refine lv_iconst (v := 1) C0.1 C0.2.1 dX7_units_36 (by decide) ?_
          refine lv_istore (lv' := [(4, .int 1), (0, .ref mo), (1, .int u), (2, .int lo), (3, .int 2)]) C0.1 C0.2.1 dX7_units_37 hl (by decide) rfl (fun ls hl => ?_)
          refine lv_iload C0.1 C0.2.1 dX7_units_39 (lv_at hl 0 rfl) ?_
          refine lv_iconst (v := 3) C0.1 C0.2.1 dX7_units_41 (by decide) ?_
          refine lv_icmp_gt (tgt := 66) C0.1 C0.2.1 dX7_units_42 (by decide) (fun h9 => absurd h9 (by decide)) (fun _ => ?_)
          refine lv_aload_n C0.1 C0.2.1 dX7_units_45 rfl (lv_at hl 1 rfl) ?_
          refine lv_iload C0.1 C0.2.1 dX7_units_46 (lv_at hl 0 rfl) ?_
          refine lv_iconst (v := 0) C0.1 C0.2.1 dX7_units_48 (by decide) ?_
          refine lv_iconst (v := 2) C0.1 C0.2.1 dX7_units_49 (by decide) ?_
          refine lv_iload_n C0.1 C0.2.1 dX7_units_50 rfl (lv_at hl 2 rfl) ?_
          refine lv_i2l (v := u.toInt64) C0.1 C0.2.1 dX7_units_51 rfl ?_
          refine lv_iload_n C0.1 C0.2.1 dX7_units_52 rfl (lv_at hl 3 rfl) ?_
          refine lv_i2l (v := lo.toInt64) C0.1 C0.2.1 dX7_units_53 rfl ?_
          refine hv_cVi C0 w kl_X7_271 kv_X7_isUnits rfl hO (c_X7_isUnits (N := 1) (by decide) 1 hO s4 (k := 0) (fr := 2) rfl (by decide)) (by decide) (by decide) rfl hl.1 rfl (Nat.le_of_ble_eq_true rfl) dX7_units_54 ⟨Nat.le_refl _, Nat.le_refl _⟩ (fun x175 V176 Hq lq hp177 w => ?_)
          obtain ⟨u178, eV179, -, hz180⟩ := hp177
          have hV181 : V176 mo = some (.inr (7, [.ref (mo + 1), .ref (mo + 2), .ref (mo + 3), .long ab, .long be, .ref (mo + 10), .int (nI σ.2.2.1.1), .int pl, .int cl, .ref (mo + 11), .ref (mo + 12), .ref (mo + 13), .int sg, .ref (mo + 14), .ref (mo + 15), .ref (mo + 16), .ref (mo + 17), .int (nI σ.1.2.1.1), .ref (mo + 18), .ref (mo + 19), .int (nI σ.1.2.2.1.1), .ref (mo + 20), .ref (mo + 21), .ref (mo + 22), .int (nI σ.1.2.2.2.1), .int ik, .ref (mo + 23), .ref (mo + 24), .ref (mo + 25), .ref (mo + 26), .ref (mo + 33), .ref (mo + 41), .ref (mo + 42), .ref (mo + 43)])) := by rw [eV179, hv_un (by omega)]; exact hO
          have hV182 : V176 (mo + 1) = some (.inl (X.2.1 0, 6, .inl σ.1.1.1)) := by rw [eV179, hv_un (by omega)]; exact r1
          have hV183 : V176 (mo + 2) = some (.inl (X.2.1 0, 6, .inl (fun j => nI (σ.1.1.2.1 j)))) := by rw [eV179, hv_un (by omega)]; exact r2
          have hV184 : V176 (mo + 3) = some (.inl (X.2.1 6, 6, .inr (.inr (.inr (.inr rf))))) := by rw [eV179, hv_un (by omega)]; exact r3
          have hV185 : V176 (mo + 10) = some (.inl (X.2.1 2, 100, .inl σ.2.2.1.2)) := by rw [eV179, hv_un (by omega)]; exact hTx
          have hV186 : V176 (mo + 11) = some (.inl (X.2.1 0, 12, .inl wd)) := by rw [eV179, hv_un (by omega)]; exact s1
          have hV187 : V176 (mo + 12) = some (.inl (X.2.1 0, 48, .inl td)) := by rw [eV179, hv_un (by omega)]; exact s2
          have hV188 : V176 (mo + 13) = some (.inl (X.2.1 2, 178, .inl sn)) := by rw [eV179, hv_un (by omega)]; exact s3
          have hV190 : V176 (mo + 20) = some (.inl (X.2.1 0, 16, .inl kn)) := by rw [eV179, hv_un (by omega)]; exact s5
          have hV191 : V176 (mo + 15) = some (.inl (X.2.1 0, 4, .inl sf)) := by rw [eV179, hv_un (by omega)]; exact e1
          have hV192 : V176 (mo + 16) = some (.inl (X.2.1 0, 4, .inl sg9)) := by rw [eV179, hv_un (by omega)]; exact e2
          have hV193 : V176 (mo + 17) = some (.inl (X.2.1 0, 4, .inl sh)) := by rw [eV179, hv_un (by omega)]; exact e3
          have hV194 : V176 (mo + 18) = some (.inl (X.2.1 0, 8, .inl ef)) := by rw [eV179, hv_un (by omega)]; exact v1
          have hV195 : V176 (mo + 19) = some (.inl (X.2.1 0, 8, .inl eg)) := by rw [eV179, hv_un (by omega)]; exact v2
          have hV196 : V176 (mo + 21) = some (.inl (X.2.1 0, 8, .inl bf)) := by rw [eV179, hv_un (by omega)]; exact b1
          have hV197 : V176 (mo + 22) = some (.inl (X.2.1 0, 8, .inl bg)) := by rw [eV179, hv_un (by omega)]; exact b2
          have hV198 : V176 (mo + 41) = some (.inl (X.2.1 0, 6, .inl σ.2.2.2.1)) := by rw [eV179, hv_un (by omega)]; exact t1
          have hV199 : V176 (mo + 42) = some (.inl (X.2.1 0, 6, .inl (fun j => nI (σ.2.2.2.2.1 j)))) := by rw [eV179, hv_un (by omega)]; exact t2
          have hV200 : V176 (mo + 43) = some (.inl (X.2.1 7, 6, .inr (.inr (.inr (.inr tf))))) := by rw [eV179, hv_un (by omega)]; exact t3
          have hV201 : V176 (mo + 14) = some (.inl (X.2.1 0, 3, .inl u178)) := by rw [eV179]; exact hv_us
          rcases hz180 with ⟨rfl, l1, hf1, hm1⟩ | ⟨rfl, hf1⟩
          · skip
            refine lv_if_ne (tgt := 66) C0.1 C0.2.1 dX7_units_57 (by decide) (fun _ => ?_) (fun h9 => absurd h9 (by decide))
            refine lv_iload C0.1 C0.2.1 dX7_units_66 (lv_at hl 0 rfl) ?_
            refine lv_iconst (v := 3) C0.1 C0.2.1 dX7_units_68 (by decide) ?_
            refine lv_icmp_le (tgt := 75) C0.1 C0.2.1 dX7_units_69 (by decide) (fun _ => ?_) (fun h9 => absurd h9 (by decide))
            refine lv_iload_n C0.1 C0.2.1 dX7_units_75 rfl (lv_at hl 4 rfl) ?_
            refine lv_if_ne (tgt := 84) C0.1 C0.2.1 dX7_units_76 (by decide) (fun _ => ?_) (fun h9 => absurd h9 (by decide))
            refine lv_iload_n C0.1 C0.2.1 dX7_units_84 rfl (lv_at hl 4 rfl) ?_
            refine lv_iload C0.1 C0.2.1 dX7_units_85 (lv_at hl 0 rfl) ?_
            refine lv_icmp_gt (tgt := 101) C0.1 C0.2.1 dX7_units_87 (by decide) (fun _ => ?_) (fun h9 => absurd h9 (by decide))
            refine lv_bipush (v := -5) C0.1 C0.2.1 dX7_units_101 (by decide) ?_
            exact hv_iret C0 w hr hlk (by have h9 := (fu_ru hb4 hb8).1 _ _ hf1 hm1; rw [sp_units, if_pos ⟨hb4, hb8⟩, if_pos hw3, if_pos (by rw [h9.1]; decide)]; exact ⟨rfl, ⟨ab, be, pl, cl, sg, ik, ((by rw [eV179, hv_un (by omega)] : _ = V mo).trans hO), hRw.fr (fun q h7 h8 => by rw [eV179, hv_un (by omega)]), (by rw [eV179, hv_un (by omega)] : _ = V (mo + 10)).trans hTx, ⟨⟨wd, (by rw [eV179, hv_un (by omega)] : _ = V (mo + 11)).trans s1⟩, ⟨td, (by rw [eV179, hv_un (by omega)] : _ = V (mo + 12)).trans s2⟩, ⟨sn, (by rw [eV179, hv_un (by omega)] : _ = V (mo + 13)).trans s3⟩, ⟨_, by rw [eV179]; exact hv_us⟩, kn, (by rw [eV179, hv_un (by omega)] : _ = V (mo + 20)).trans s5⟩, hSe.fr (fun q h7 h8 => by rw [eV179, hv_un (by omega)]), hEv.fr (by rw [eV179, hv_un (by omega)]) (by rw [eV179, hv_un (by omega)]), hBk.fr (by rw [eV179, hv_un (by omega)]) (by rw [eV179, hv_un (by omega)]), hIm.fr (fun q h7 h8 => by rw [eV179, hv_un (by omega)]), hTp.fr (fun q h7 h8 => by rw [eV179, hv_un (by omega)])⟩, (fun q h7 => by rw [eV179, hv_un (by omega)])⟩) dX7_units_103
          · skip
            refine lv_if_ne (tgt := 66) C0.1 C0.2.1 dX7_units_57 (by decide) (fun h9 => absurd h9 (by decide)) (fun _ => ?_)
            refine lv_iinc (v := 1 + 1) (lv' := [(4, .int (1 + 1)), (0, .ref mo), (1, .int u), (2, .int lo), (3, .int 2)]) C0.1 C0.2.1 dX7_units_60 hl (k := 0) rfl rfl (by decide) rfl (fun ls hl => ?_)
            have hl : lv_has ls 5 [(4, .int 2), (0, .ref mo), (1, .int u), (2, .int lo), (3, .int 2)] := by rw [show (2 : Int32) = 1 + 1 from by decide]; exact hl
            refine lv_goto (tgt := 39) C0.1 C0.2.1 dX7_units_63 (by decide) ?_
            refine lv_iload C0.1 C0.2.1 dX7_units_39 (lv_at hl 0 rfl) ?_
            refine lv_iconst (v := 3) C0.1 C0.2.1 dX7_units_41 (by decide) ?_
            refine lv_icmp_gt (tgt := 66) C0.1 C0.2.1 dX7_units_42 (by decide) (fun h9 => absurd h9 (by decide)) (fun _ => ?_)
            refine lv_aload_n C0.1 C0.2.1 dX7_units_45 rfl (lv_at hl 1 rfl) ?_
            refine lv_iload C0.1 C0.2.1 dX7_units_46 (lv_at hl 0 rfl) ?_
            refine lv_iconst (v := 0) C0.1 C0.2.1 dX7_units_48 (by decide) ?_
            refine lv_iconst (v := 2) C0.1 C0.2.1 dX7_units_49 (by decide) ?_
            refine lv_iload_n C0.1 C0.2.1 dX7_units_50 rfl (lv_at hl 2 rfl) ?_
            refine lv_i2l (v := u.toInt64) C0.1 C0.2.1 dX7_units_51 rfl ?_
            refine lv_iload_n C0.1 C0.2.1 dX7_units_52 rfl (lv_at hl 3 rfl) ?_
            refine lv_i2l (v := lo.toInt64) C0.1 C0.2.1 dX7_units_53 rfl ?_
            refine hv_cVi C0 w kl_X7_271 kv_X7_isUnits rfl hV181 (c_X7_isUnits (N := 2) (by decide) 2 hV181 hV201 (k := 0) (fr := 2) rfl (by decide)) (by decide) (by decide) rfl hl.1 rfl (Nat.le_of_ble_eq_true rfl) dX7_units_54 ⟨Nat.le_refl _, Nat.le_refl _⟩ (fun x202 V203 Hq lq hp204 w => ?_)
            obtain ⟨u205, eV206, -, hz207⟩ := hp204
            have hV208 : V203 mo = some (.inr (7, [.ref (mo + 1), .ref (mo + 2), .ref (mo + 3), .long ab, .long be, .ref (mo + 10), .int (nI σ.2.2.1.1), .int pl, .int cl, .ref (mo + 11), .ref (mo + 12), .ref (mo + 13), .int sg, .ref (mo + 14), .ref (mo + 15), .ref (mo + 16), .ref (mo + 17), .int (nI σ.1.2.1.1), .ref (mo + 18), .ref (mo + 19), .int (nI σ.1.2.2.1.1), .ref (mo + 20), .ref (mo + 21), .ref (mo + 22), .int (nI σ.1.2.2.2.1), .int ik, .ref (mo + 23), .ref (mo + 24), .ref (mo + 25), .ref (mo + 26), .ref (mo + 33), .ref (mo + 41), .ref (mo + 42), .ref (mo + 43)])) := by rw [eV206, hv_un (by omega)]; exact hV181
            have hV209 : V203 (mo + 1) = some (.inl (X.2.1 0, 6, .inl σ.1.1.1)) := by rw [eV206, hv_un (by omega)]; exact hV182
            have hV210 : V203 (mo + 2) = some (.inl (X.2.1 0, 6, .inl (fun j => nI (σ.1.1.2.1 j)))) := by rw [eV206, hv_un (by omega)]; exact hV183
            have hV211 : V203 (mo + 3) = some (.inl (X.2.1 6, 6, .inr (.inr (.inr (.inr rf))))) := by rw [eV206, hv_un (by omega)]; exact hV184
            have hV212 : V203 (mo + 10) = some (.inl (X.2.1 2, 100, .inl σ.2.2.1.2)) := by rw [eV206, hv_un (by omega)]; exact hV185
            have hV213 : V203 (mo + 11) = some (.inl (X.2.1 0, 12, .inl wd)) := by rw [eV206, hv_un (by omega)]; exact hV186
            have hV214 : V203 (mo + 12) = some (.inl (X.2.1 0, 48, .inl td)) := by rw [eV206, hv_un (by omega)]; exact hV187
            have hV215 : V203 (mo + 13) = some (.inl (X.2.1 2, 178, .inl sn)) := by rw [eV206, hv_un (by omega)]; exact hV188
            have hV216 : V203 (mo + 20) = some (.inl (X.2.1 0, 16, .inl kn)) := by rw [eV206, hv_un (by omega)]; exact hV190
            have hV217 : V203 (mo + 15) = some (.inl (X.2.1 0, 4, .inl sf)) := by rw [eV206, hv_un (by omega)]; exact hV191
            have hV218 : V203 (mo + 16) = some (.inl (X.2.1 0, 4, .inl sg9)) := by rw [eV206, hv_un (by omega)]; exact hV192
            have hV219 : V203 (mo + 17) = some (.inl (X.2.1 0, 4, .inl sh)) := by rw [eV206, hv_un (by omega)]; exact hV193
            have hV220 : V203 (mo + 18) = some (.inl (X.2.1 0, 8, .inl ef)) := by rw [eV206, hv_un (by omega)]; exact hV194
            have hV221 : V203 (mo + 19) = some (.inl (X.2.1 0, 8, .inl eg)) := by rw [eV206, hv_un (by omega)]; exact hV195
            have hV222 : V203 (mo + 21) = some (.inl (X.2.1 0, 8, .inl bf)) := by rw [eV206, hv_un (by omega)]; exact hV196
            have hV223 : V203 (mo + 22) = some (.inl (X.2.1 0, 8, .inl bg)) := by rw [eV206, hv_un (by omega)]; exact hV197
            have hV224 : V203 (mo + 41) = some (.inl (X.2.1 0, 6, .inl σ.2.2.2.1)) := by rw [eV206, hv_un (by omega)]; exact hV198
            have hV225 : V203 (mo + 42) = some (.inl (X.2.1 0, 6, .inl (fun j => nI (σ.2.2.2.2.1 j)))) := by rw [eV206, hv_un (by omega)]; exact hV199
            have hV226 : V203 (mo + 43) = some (.inl (X.2.1 7, 6, .inr (.inr (.inr (.inr tf))))) := by rw [eV206, hv_un (by omega)]; exact hV200
            have hV228 : V203 (mo + 14) = some (.inl (X.2.1 0, 3, .inl u205)) := by rw [eV206]; exact hv_us
            rcases hz207 with ⟨rfl, l2, hf2, hm2⟩ | ⟨rfl, hf2⟩
            · skip
              refine lv_if_ne (tgt := 66) C0.1 C0.2.1 dX7_units_57 (by decide) (fun _ => ?_) (fun h9 => absurd h9 (by decide))
              refine lv_iload C0.1 C0.2.1 dX7_units_66 (lv_at hl 0 rfl) ?_
              refine lv_iconst (v := 3) C0.1 C0.2.1 dX7_units_68 (by decide) ?_
              refine lv_icmp_le (tgt := 75) C0.1 C0.2.1 dX7_units_69 (by decide) (fun _ => ?_) (fun h9 => absurd h9 (by decide))
              refine lv_iload_n C0.1 C0.2.1 dX7_units_75 rfl (lv_at hl 4 rfl) ?_
              refine lv_if_ne (tgt := 84) C0.1 C0.2.1 dX7_units_76 (by decide) (fun _ => ?_) (fun h9 => absurd h9 (by decide))
              refine lv_iload_n C0.1 C0.2.1 dX7_units_84 rfl (lv_at hl 4 rfl) ?_
              refine lv_iload C0.1 C0.2.1 dX7_units_85 (lv_at hl 0 rfl) ?_
              refine lv_icmp_gt (tgt := 101) C0.1 C0.2.1 dX7_units_87 (by decide) (fun h9 => absurd h9 (by decide)) (fun _ => ?_)
              refine lv_aload_n C0.1 C0.2.1 dX7_units_90 rfl (lv_at hl 1 rfl) ?_
              refine gf_X7_36 C0 w hV208 rfl dX7_units_91 ?_
              refine lv_iload_n C0.1 C0.2.1 dX7_units_94 rfl (lv_at hl 4 rfl) ?_
              refine lv_iconst (v := 1) C0.1 C0.2.1 dX7_units_95 (by decide) ?_
              refine lv_isub C0.1 C0.2.1 dX7_units_96 ?_
              rw [show (2 : Int32) - 1 = 1 by decide]
              refine hv_iald C0 w hV228 (hn_in (n := 1) (by decide) (by decide)) dX7_units_97 ?_
              have hc9 : (1 : Int32).toNatClampNeg = 1 := by decide
              rw [hc9]; clear hc9
              refine lv_goto (tgt := 103) C0.1 C0.2.1 dX7_units_98 (by decide) ?_
              exact hv_iret C0 w hr hlk (by have h9 := ((fu_ru hb4 hb8).2 hf1).1 _ _ hf2 hm2; rw [sp_units, if_pos ⟨hb4, hb8⟩, if_pos hw3, if_neg (by rw [h9.1]; decide), if_neg (by decide), if_neg (by decide), if_pos rfl, h9.2.2]; exact ⟨rfl, ⟨ab, be, pl, cl, sg, ik, ((by rw [eV206, hv_un (by omega), eV179, hv_un (by omega)] : _ = V mo).trans hO), hRw.fr (fun q h7 h8 => by rw [eV206, hv_un (by omega), eV179, hv_un (by omega)]), (by rw [eV206, hv_un (by omega), eV179, hv_un (by omega)] : _ = V (mo + 10)).trans hTx, ⟨⟨wd, (by rw [eV206, hv_un (by omega), eV179, hv_un (by omega)] : _ = V (mo + 11)).trans s1⟩, ⟨td, (by rw [eV206, hv_un (by omega), eV179, hv_un (by omega)] : _ = V (mo + 12)).trans s2⟩, ⟨sn, (by rw [eV206, hv_un (by omega), eV179, hv_un (by omega)] : _ = V (mo + 13)).trans s3⟩, ⟨_, by rw [eV206]; exact hv_us⟩, kn, (by rw [eV206, hv_un (by omega), eV179, hv_un (by omega)] : _ = V (mo + 20)).trans s5⟩, hSe.fr (fun q h7 h8 => by rw [eV206, hv_un (by omega), eV179, hv_un (by omega)]), hEv.fr (by rw [eV206, hv_un (by omega), eV179, hv_un (by omega)]) (by rw [eV206, hv_un (by omega), eV179, hv_un (by omega)]), hBk.fr (by rw [eV206, hv_un (by omega), eV179, hv_un (by omega)]) (by rw [eV206, hv_un (by omega), eV179, hv_un (by omega)]), hIm.fr (fun q h7 h8 => by rw [eV206, hv_un (by omega), eV179, hv_un (by omega)]), hTp.fr (fun q h7 h8 => by rw [eV206, hv_un (by omega), eV179, hv_un (by omega)])⟩, (fun q h7 => by rw [eV206, hv_un (by omega), eV179, hv_un (by omega)])⟩) dX7_units_103
            · skip
              refine lv_if_ne (tgt := 66) C0.1 C0.2.1 dX7_units_57 (by decide) (fun h9 => absurd h9 (by decide)) (fun _ => ?_)
              refine lv_iinc (v := 2 + 1) (lv' := [(4, .int (2 + 1)), (0, .ref mo), (1, .int u), (2, .int lo), (3, .int 2)]) C0.1 C0.2.1 dX7_units_60 hl (k := 0) rfl rfl (by decide) rfl (fun ls hl => ?_)
              have hl : lv_has ls 5 [(4, .int 3), (0, .ref mo), (1, .int u), (2, .int lo), (3, .int 2)] := by rw [show (3 : Int32) = 2 + 1 from by decide]; exact hl
              refine lv_goto (tgt := 39) C0.1 C0.2.1 dX7_units_63 (by decide) ?_
              refine lv_iload C0.1 C0.2.1 dX7_units_39 (lv_at hl 0 rfl) ?_
              refine lv_iconst (v := 3) C0.1 C0.2.1 dX7_units_41 (by decide) ?_
              refine lv_icmp_gt (tgt := 66) C0.1 C0.2.1 dX7_units_42 (by decide) (fun h9 => absurd h9 (by decide)) (fun _ => ?_)
              refine lv_aload_n C0.1 C0.2.1 dX7_units_45 rfl (lv_at hl 1 rfl) ?_
              refine lv_iload C0.1 C0.2.1 dX7_units_46 (lv_at hl 0 rfl) ?_
              refine lv_iconst (v := 0) C0.1 C0.2.1 dX7_units_48 (by decide) ?_
              refine lv_iconst (v := 2) C0.1 C0.2.1 dX7_units_49 (by decide) ?_
              refine lv_iload_n C0.1 C0.2.1 dX7_units_50 rfl (lv_at hl 2 rfl) ?_
              refine lv_i2l (v := u.toInt64) C0.1 C0.2.1 dX7_units_51 rfl ?_
              refine lv_iload_n C0.1 C0.2.1 dX7_units_52 rfl (lv_at hl 3 rfl) ?_
              refine lv_i2l (v := lo.toInt64) C0.1 C0.2.1 dX7_units_53 rfl ?_
              refine hv_cVi C0 w kl_X7_271 kv_X7_isUnits rfl hV208 (c_X7_isUnits (N := 3) (by decide) 3 hV208 hV228 (k := 0) (fr := 2) rfl (by decide)) (by decide) (by decide) rfl hl.1 rfl (Nat.le_of_ble_eq_true rfl) dX7_units_54 ⟨Nat.le_refl _, Nat.le_refl _⟩ (fun x229 V230 Hq lq hp231 w => ?_)
              obtain ⟨u232, eV233, -, hz234⟩ := hp231
              have hV235 : V230 mo = some (.inr (7, [.ref (mo + 1), .ref (mo + 2), .ref (mo + 3), .long ab, .long be, .ref (mo + 10), .int (nI σ.2.2.1.1), .int pl, .int cl, .ref (mo + 11), .ref (mo + 12), .ref (mo + 13), .int sg, .ref (mo + 14), .ref (mo + 15), .ref (mo + 16), .ref (mo + 17), .int (nI σ.1.2.1.1), .ref (mo + 18), .ref (mo + 19), .int (nI σ.1.2.2.1.1), .ref (mo + 20), .ref (mo + 21), .ref (mo + 22), .int (nI σ.1.2.2.2.1), .int ik, .ref (mo + 23), .ref (mo + 24), .ref (mo + 25), .ref (mo + 26), .ref (mo + 33), .ref (mo + 41), .ref (mo + 42), .ref (mo + 43)])) := by rw [eV233, hv_un (by omega)]; exact hV208
              have hV236 : V230 (mo + 1) = some (.inl (X.2.1 0, 6, .inl σ.1.1.1)) := by rw [eV233, hv_un (by omega)]; exact hV209
              have hV237 : V230 (mo + 2) = some (.inl (X.2.1 0, 6, .inl (fun j => nI (σ.1.1.2.1 j)))) := by rw [eV233, hv_un (by omega)]; exact hV210
              have hV238 : V230 (mo + 3) = some (.inl (X.2.1 6, 6, .inr (.inr (.inr (.inr rf))))) := by rw [eV233, hv_un (by omega)]; exact hV211
              have hV239 : V230 (mo + 10) = some (.inl (X.2.1 2, 100, .inl σ.2.2.1.2)) := by rw [eV233, hv_un (by omega)]; exact hV212
              have hV240 : V230 (mo + 11) = some (.inl (X.2.1 0, 12, .inl wd)) := by rw [eV233, hv_un (by omega)]; exact hV213
              have hV241 : V230 (mo + 12) = some (.inl (X.2.1 0, 48, .inl td)) := by rw [eV233, hv_un (by omega)]; exact hV214
              have hV242 : V230 (mo + 13) = some (.inl (X.2.1 2, 178, .inl sn)) := by rw [eV233, hv_un (by omega)]; exact hV215
              have hV243 : V230 (mo + 20) = some (.inl (X.2.1 0, 16, .inl kn)) := by rw [eV233, hv_un (by omega)]; exact hV216
              have hV244 : V230 (mo + 15) = some (.inl (X.2.1 0, 4, .inl sf)) := by rw [eV233, hv_un (by omega)]; exact hV217
              have hV245 : V230 (mo + 16) = some (.inl (X.2.1 0, 4, .inl sg9)) := by rw [eV233, hv_un (by omega)]; exact hV218
              have hV246 : V230 (mo + 17) = some (.inl (X.2.1 0, 4, .inl sh)) := by rw [eV233, hv_un (by omega)]; exact hV219
              have hV247 : V230 (mo + 18) = some (.inl (X.2.1 0, 8, .inl ef)) := by rw [eV233, hv_un (by omega)]; exact hV220
              have hV248 : V230 (mo + 19) = some (.inl (X.2.1 0, 8, .inl eg)) := by rw [eV233, hv_un (by omega)]; exact hV221
              have hV249 : V230 (mo + 21) = some (.inl (X.2.1 0, 8, .inl bf)) := by rw [eV233, hv_un (by omega)]; exact hV222
              have hV250 : V230 (mo + 22) = some (.inl (X.2.1 0, 8, .inl bg)) := by rw [eV233, hv_un (by omega)]; exact hV223
              have hV251 : V230 (mo + 41) = some (.inl (X.2.1 0, 6, .inl σ.2.2.2.1)) := by rw [eV233, hv_un (by omega)]; exact hV224
              have hV252 : V230 (mo + 42) = some (.inl (X.2.1 0, 6, .inl (fun j => nI (σ.2.2.2.2.1 j)))) := by rw [eV233, hv_un (by omega)]; exact hV225
              have hV253 : V230 (mo + 43) = some (.inl (X.2.1 7, 6, .inr (.inr (.inr (.inr tf))))) := by rw [eV233, hv_un (by omega)]; exact hV226
              have hV255 : V230 (mo + 14) = some (.inl (X.2.1 0, 3, .inl u232)) := by rw [eV233]; exact hv_us
              rcases hz234 with ⟨rfl, l3, hf3, hm3⟩ | ⟨rfl, hf3⟩
              · skip
                refine lv_if_ne (tgt := 66) C0.1 C0.2.1 dX7_units_57 (by decide) (fun _ => ?_) (fun h9 => absurd h9 (by decide))
                refine lv_iload C0.1 C0.2.1 dX7_units_66 (lv_at hl 0 rfl) ?_
                refine lv_iconst (v := 3) C0.1 C0.2.1 dX7_units_68 (by decide) ?_
                refine lv_icmp_le (tgt := 75) C0.1 C0.2.1 dX7_units_69 (by decide) (fun _ => ?_) (fun h9 => absurd h9 (by decide))
                refine lv_iload_n C0.1 C0.2.1 dX7_units_75 rfl (lv_at hl 4 rfl) ?_
                refine lv_if_ne (tgt := 84) C0.1 C0.2.1 dX7_units_76 (by decide) (fun _ => ?_) (fun h9 => absurd h9 (by decide))
                refine lv_iload_n C0.1 C0.2.1 dX7_units_84 rfl (lv_at hl 4 rfl) ?_
                refine lv_iload C0.1 C0.2.1 dX7_units_85 (lv_at hl 0 rfl) ?_
                refine lv_icmp_gt (tgt := 101) C0.1 C0.2.1 dX7_units_87 (by decide) (fun h9 => absurd h9 (by decide)) (fun _ => ?_)
                refine lv_aload_n C0.1 C0.2.1 dX7_units_90 rfl (lv_at hl 1 rfl) ?_
                refine gf_X7_36 C0 w hV235 rfl dX7_units_91 ?_
                refine lv_iload_n C0.1 C0.2.1 dX7_units_94 rfl (lv_at hl 4 rfl) ?_
                refine lv_iconst (v := 1) C0.1 C0.2.1 dX7_units_95 (by decide) ?_
                refine lv_isub C0.1 C0.2.1 dX7_units_96 ?_
                rw [show (2 : Int32) - 1 = 1 by decide]
                refine hv_iald C0 w hV255 (hn_in (n := 1) (by decide) (by decide)) dX7_units_97 ?_
                have hc9 : (1 : Int32).toNatClampNeg = 1 := by decide
                rw [hc9]; clear hc9
                refine lv_goto (tgt := 103) C0.1 C0.2.1 dX7_units_98 (by decide) ?_
                exact hv_iret C0 w hr hlk (by have h9 := (((fu_ru hb4 hb8).2 hf1).2 hf2).1 _ _ hf3 hm3; rw [sp_units, if_pos ⟨hb4, hb8⟩, if_pos hw3, if_neg (by rw [h9.1]; decide), if_neg (by decide), if_neg (by decide), if_pos rfl, h9.2.2.1]; exact ⟨rfl, ⟨ab, be, pl, cl, sg, ik, ((by rw [eV233, hv_un (by omega), eV206, hv_un (by omega), eV179, hv_un (by omega)] : _ = V mo).trans hO), hRw.fr (fun q h7 h8 => by rw [eV233, hv_un (by omega), eV206, hv_un (by omega), eV179, hv_un (by omega)]), (by rw [eV233, hv_un (by omega), eV206, hv_un (by omega), eV179, hv_un (by omega)] : _ = V (mo + 10)).trans hTx, ⟨⟨wd, (by rw [eV233, hv_un (by omega), eV206, hv_un (by omega), eV179, hv_un (by omega)] : _ = V (mo + 11)).trans s1⟩, ⟨td, (by rw [eV233, hv_un (by omega), eV206, hv_un (by omega), eV179, hv_un (by omega)] : _ = V (mo + 12)).trans s2⟩, ⟨sn, (by rw [eV233, hv_un (by omega), eV206, hv_un (by omega), eV179, hv_un (by omega)] : _ = V (mo + 13)).trans s3⟩, ⟨_, by rw [eV233]; exact hv_us⟩, kn, (by rw [eV233, hv_un (by omega), eV206, hv_un (by omega), eV179, hv_un (by omega)] : _ = V (mo + 20)).trans s5⟩, hSe.fr (fun q h7 h8 => by rw [eV233, hv_un (by omega), eV206, hv_un (by omega), eV179, hv_un (by omega)]), hEv.fr (by rw [eV233, hv_un (by omega), eV206, hv_un (by omega), eV179, hv_un (by omega)]) (by rw [eV233, hv_un (by omega), eV206, hv_un (by omega), eV179, hv_un (by omega)]), hBk.fr (by rw [eV233, hv_un (by omega), eV206, hv_un (by omega), eV179, hv_un (by omega)]) (by rw [eV233, hv_un (by omega), eV206, hv_un (by omega), eV179, hv_un (by omega)]), hIm.fr (fun q h7 h8 => by rw [eV233, hv_un (by omega), eV206, hv_un (by omega), eV179, hv_un (by omega)]), hTp.fr (fun q h7 h8 => by rw [eV233, hv_un (by omega), eV206, hv_un (by omega), eV179, hv_un (by omega)])⟩, (fun q h7 => by rw [eV233, hv_un (by omega), eV206, hv_un (by omega), eV179, hv_un (by omega)])⟩) dX7_units_103
              · skip
                refine lv_if_ne (tgt := 66) C0.1 C0.2.1 dX7_units_57 (by decide) (fun h9 => absurd h9 (by decide)) (fun _ => ?_)
                refine lv_iinc (v := 3 + 1) (lv' := [(4, .int (3 + 1)), (0, .ref mo), (1, .int u), (2, .int lo), (3, .int 2)]) C0.1 C0.2.1 dX7_units_60 hl (k := 0) rfl rfl (by decide) rfl (fun ls hl => ?_)
                have hl : lv_has ls 5 [(4, .int 4), (0, .ref mo), (1, .int u), (2, .int lo), (3, .int 2)] := by rw [show (4 : Int32) = 3 + 1 from by decide]; exact hl
                refine lv_goto (tgt := 39) C0.1 C0.2.1 dX7_units_63 (by decide) ?_
                refine lv_iload C0.1 C0.2.1 dX7_units_39 (lv_at hl 0 rfl) ?_
                refine lv_iconst (v := 3) C0.1 C0.2.1 dX7_units_41 (by decide) ?_
                refine lv_icmp_gt (tgt := 66) C0.1 C0.2.1 dX7_units_42 (by decide) (fun _ => ?_) (fun h9 => absurd h9 (by decide))
                refine lv_iload C0.1 C0.2.1 dX7_units_66 (lv_at hl 0 rfl) ?_
                refine lv_iconst (v := 3) C0.1 C0.2.1 dX7_units_68 (by decide) ?_
                refine lv_icmp_le (tgt := 75) C0.1 C0.2.1 dX7_units_69 (by decide) (fun h9 => absurd h9 (by decide)) (fun _ => ?_)
                refine lv_bipush (v := -5) C0.1 C0.2.1 dX7_units_72 (by decide) ?_
                exact hv_iret C0 w hr hlk (by have h9 := (((fu_ru hb4 hb8).2 hf1).2 hf2).2 hf3; rw [sp_units, if_pos ⟨hb4, hb8⟩, if_pos hw3, if_pos (by rw [h9]; decide)]; exact ⟨rfl, ⟨ab, be, pl, cl, sg, ik, ((by rw [eV233, hv_un (by omega), eV206, hv_un (by omega), eV179, hv_un (by omega)] : _ = V mo).trans hO), hRw.fr (fun q h7 h8 => by rw [eV233, hv_un (by omega), eV206, hv_un (by omega), eV179, hv_un (by omega)]), (by rw [eV233, hv_un (by omega), eV206, hv_un (by omega), eV179, hv_un (by omega)] : _ = V (mo + 10)).trans hTx, ⟨⟨wd, (by rw [eV233, hv_un (by omega), eV206, hv_un (by omega), eV179, hv_un (by omega)] : _ = V (mo + 11)).trans s1⟩, ⟨td, (by rw [eV233, hv_un (by omega), eV206, hv_un (by omega), eV179, hv_un (by omega)] : _ = V (mo + 12)).trans s2⟩, ⟨sn, (by rw [eV233, hv_un (by omega), eV206, hv_un (by omega), eV179, hv_un (by omega)] : _ = V (mo + 13)).trans s3⟩, ⟨_, by rw [eV233]; exact hv_us⟩, kn, (by rw [eV233, hv_un (by omega), eV206, hv_un (by omega), eV179, hv_un (by omega)] : _ = V (mo + 20)).trans s5⟩, hSe.fr (fun q h7 h8 => by rw [eV233, hv_un (by omega), eV206, hv_un (by omega), eV179, hv_un (by omega)]), hEv.fr (by rw [eV233, hv_un (by omega), eV206, hv_un (by omega), eV179, hv_un (by omega)]) (by rw [eV233, hv_un (by omega), eV206, hv_un (by omega), eV179, hv_un (by omega)]), hBk.fr (by rw [eV233, hv_un (by omega), eV206, hv_un (by omega), eV179, hv_un (by omega)]) (by rw [eV233, hv_un (by omega), eV206, hv_un (by omega), eV179, hv_un (by omega)]), hIm.fr (fun q h7 h8 => by rw [eV233, hv_un (by omega), eV206, hv_un (by omega), eV179, hv_un (by omega)]), hTp.fr (fun q h7 h8 => by rw [eV233, hv_un (by omega), eV206, hv_un (by omega), eV179, hv_un (by omega)])⟩, (fun q h7 => by rw [eV233, hv_un (by omega), eV206, hv_un (by omega), eV179, hv_un (by omega)])⟩) dX7_units_74
        · skip
          refine lv_iconst (v := 1) C0.1 C0.2.1 dX7_units_36 (by decide) ?_
          refine lv_istore (lv' := [(4, .int 1), (0, .ref mo), (1, .int u), (2, .int lo), (3, .int 3)]) C0.1 C0.2.1 dX7_units_37 hl (by decide) rfl (fun ls hl => ?_)
          refine lv_iload C0.1 C0.2.1 dX7_units_39 (lv_at hl 0 rfl) ?_
          refine lv_iconst (v := 3) C0.1 C0.2.1 dX7_units_41 (by decide) ?_
          refine lv_icmp_gt (tgt := 66) C0.1 C0.2.1 dX7_units_42 (by decide) (fun h9 => absurd h9 (by decide)) (fun _ => ?_)
          refine lv_aload_n C0.1 C0.2.1 dX7_units_45 rfl (lv_at hl 1 rfl) ?_
          refine lv_iload C0.1 C0.2.1 dX7_units_46 (lv_at hl 0 rfl) ?_
          refine lv_iconst (v := 0) C0.1 C0.2.1 dX7_units_48 (by decide) ?_
          refine lv_iconst (v := 2) C0.1 C0.2.1 dX7_units_49 (by decide) ?_
          refine lv_iload_n C0.1 C0.2.1 dX7_units_50 rfl (lv_at hl 2 rfl) ?_
          refine lv_i2l (v := u.toInt64) C0.1 C0.2.1 dX7_units_51 rfl ?_
          refine lv_iload_n C0.1 C0.2.1 dX7_units_52 rfl (lv_at hl 3 rfl) ?_
          refine lv_i2l (v := lo.toInt64) C0.1 C0.2.1 dX7_units_53 rfl ?_
          refine hv_cVi C0 w kl_X7_271 kv_X7_isUnits rfl hO (c_X7_isUnits (N := 1) (by decide) 1 hO s4 (k := 0) (fr := 2) rfl (by decide)) (by decide) (by decide) rfl hl.1 rfl (Nat.le_of_ble_eq_true rfl) dX7_units_54 ⟨Nat.le_refl _, Nat.le_refl _⟩ (fun x256 V257 Hq lq hp258 w => ?_)
          obtain ⟨u259, eV260, -, hz261⟩ := hp258
          have hV262 : V257 mo = some (.inr (7, [.ref (mo + 1), .ref (mo + 2), .ref (mo + 3), .long ab, .long be, .ref (mo + 10), .int (nI σ.2.2.1.1), .int pl, .int cl, .ref (mo + 11), .ref (mo + 12), .ref (mo + 13), .int sg, .ref (mo + 14), .ref (mo + 15), .ref (mo + 16), .ref (mo + 17), .int (nI σ.1.2.1.1), .ref (mo + 18), .ref (mo + 19), .int (nI σ.1.2.2.1.1), .ref (mo + 20), .ref (mo + 21), .ref (mo + 22), .int (nI σ.1.2.2.2.1), .int ik, .ref (mo + 23), .ref (mo + 24), .ref (mo + 25), .ref (mo + 26), .ref (mo + 33), .ref (mo + 41), .ref (mo + 42), .ref (mo + 43)])) := by rw [eV260, hv_un (by omega)]; exact hO
          have hV263 : V257 (mo + 1) = some (.inl (X.2.1 0, 6, .inl σ.1.1.1)) := by rw [eV260, hv_un (by omega)]; exact r1
          have hV264 : V257 (mo + 2) = some (.inl (X.2.1 0, 6, .inl (fun j => nI (σ.1.1.2.1 j)))) := by rw [eV260, hv_un (by omega)]; exact r2
          have hV265 : V257 (mo + 3) = some (.inl (X.2.1 6, 6, .inr (.inr (.inr (.inr rf))))) := by rw [eV260, hv_un (by omega)]; exact r3
          have hV266 : V257 (mo + 10) = some (.inl (X.2.1 2, 100, .inl σ.2.2.1.2)) := by rw [eV260, hv_un (by omega)]; exact hTx
          have hV267 : V257 (mo + 11) = some (.inl (X.2.1 0, 12, .inl wd)) := by rw [eV260, hv_un (by omega)]; exact s1
          have hV268 : V257 (mo + 12) = some (.inl (X.2.1 0, 48, .inl td)) := by rw [eV260, hv_un (by omega)]; exact s2
          have hV269 : V257 (mo + 13) = some (.inl (X.2.1 2, 178, .inl sn)) := by rw [eV260, hv_un (by omega)]; exact s3
          have hV271 : V257 (mo + 20) = some (.inl (X.2.1 0, 16, .inl kn)) := by rw [eV260, hv_un (by omega)]; exact s5
          have hV272 : V257 (mo + 15) = some (.inl (X.2.1 0, 4, .inl sf)) := by rw [eV260, hv_un (by omega)]; exact e1
          have hV273 : V257 (mo + 16) = some (.inl (X.2.1 0, 4, .inl sg9)) := by rw [eV260, hv_un (by omega)]; exact e2
          have hV274 : V257 (mo + 17) = some (.inl (X.2.1 0, 4, .inl sh)) := by rw [eV260, hv_un (by omega)]; exact e3
          have hV275 : V257 (mo + 18) = some (.inl (X.2.1 0, 8, .inl ef)) := by rw [eV260, hv_un (by omega)]; exact v1
          have hV276 : V257 (mo + 19) = some (.inl (X.2.1 0, 8, .inl eg)) := by rw [eV260, hv_un (by omega)]; exact v2
          have hV277 : V257 (mo + 21) = some (.inl (X.2.1 0, 8, .inl bf)) := by rw [eV260, hv_un (by omega)]; exact b1
          have hV278 : V257 (mo + 22) = some (.inl (X.2.1 0, 8, .inl bg)) := by rw [eV260, hv_un (by omega)]; exact b2
          have hV279 : V257 (mo + 41) = some (.inl (X.2.1 0, 6, .inl σ.2.2.2.1)) := by rw [eV260, hv_un (by omega)]; exact t1
          have hV280 : V257 (mo + 42) = some (.inl (X.2.1 0, 6, .inl (fun j => nI (σ.2.2.2.2.1 j)))) := by rw [eV260, hv_un (by omega)]; exact t2
          have hV281 : V257 (mo + 43) = some (.inl (X.2.1 7, 6, .inr (.inr (.inr (.inr tf))))) := by rw [eV260, hv_un (by omega)]; exact t3
          have hV282 : V257 (mo + 14) = some (.inl (X.2.1 0, 3, .inl u259)) := by rw [eV260]; exact hv_us
          rcases hz261 with ⟨rfl, l1, hf1, hm1⟩ | ⟨rfl, hf1⟩
          · skip
            refine lv_if_ne (tgt := 66) C0.1 C0.2.1 dX7_units_57 (by decide) (fun _ => ?_) (fun h9 => absurd h9 (by decide))
            refine lv_iload C0.1 C0.2.1 dX7_units_66 (lv_at hl 0 rfl) ?_
            refine lv_iconst (v := 3) C0.1 C0.2.1 dX7_units_68 (by decide) ?_
            refine lv_icmp_le (tgt := 75) C0.1 C0.2.1 dX7_units_69 (by decide) (fun _ => ?_) (fun h9 => absurd h9 (by decide))
            refine lv_iload_n C0.1 C0.2.1 dX7_units_75 rfl (lv_at hl 4 rfl) ?_
            refine lv_if_ne (tgt := 84) C0.1 C0.2.1 dX7_units_76 (by decide) (fun _ => ?_) (fun h9 => absurd h9 (by decide))
            refine lv_iload_n C0.1 C0.2.1 dX7_units_84 rfl (lv_at hl 4 rfl) ?_
            refine lv_iload C0.1 C0.2.1 dX7_units_85 (lv_at hl 0 rfl) ?_
            refine lv_icmp_gt (tgt := 101) C0.1 C0.2.1 dX7_units_87 (by decide) (fun _ => ?_) (fun h9 => absurd h9 (by decide))
            refine lv_bipush (v := -5) C0.1 C0.2.1 dX7_units_101 (by decide) ?_
            exact hv_iret C0 w hr hlk (by have h9 := (fu_ru hb4 hb8).1 _ _ hf1 hm1; rw [sp_units, if_pos ⟨hb4, hb8⟩, if_pos hw3, if_pos (by rw [h9.1]; decide)]; exact ⟨rfl, ⟨ab, be, pl, cl, sg, ik, ((by rw [eV260, hv_un (by omega)] : _ = V mo).trans hO), hRw.fr (fun q h7 h8 => by rw [eV260, hv_un (by omega)]), (by rw [eV260, hv_un (by omega)] : _ = V (mo + 10)).trans hTx, ⟨⟨wd, (by rw [eV260, hv_un (by omega)] : _ = V (mo + 11)).trans s1⟩, ⟨td, (by rw [eV260, hv_un (by omega)] : _ = V (mo + 12)).trans s2⟩, ⟨sn, (by rw [eV260, hv_un (by omega)] : _ = V (mo + 13)).trans s3⟩, ⟨_, by rw [eV260]; exact hv_us⟩, kn, (by rw [eV260, hv_un (by omega)] : _ = V (mo + 20)).trans s5⟩, hSe.fr (fun q h7 h8 => by rw [eV260, hv_un (by omega)]), hEv.fr (by rw [eV260, hv_un (by omega)]) (by rw [eV260, hv_un (by omega)]), hBk.fr (by rw [eV260, hv_un (by omega)]) (by rw [eV260, hv_un (by omega)]), hIm.fr (fun q h7 h8 => by rw [eV260, hv_un (by omega)]), hTp.fr (fun q h7 h8 => by rw [eV260, hv_un (by omega)])⟩, (fun q h7 => by rw [eV260, hv_un (by omega)])⟩) dX7_units_103
          · skip
            refine lv_if_ne (tgt := 66) C0.1 C0.2.1 dX7_units_57 (by decide) (fun h9 => absurd h9 (by decide)) (fun _ => ?_)
            refine lv_iinc (v := 1 + 1) (lv' := [(4, .int (1 + 1)), (0, .ref mo), (1, .int u), (2, .int lo), (3, .int 3)]) C0.1 C0.2.1 dX7_units_60 hl (k := 0) rfl rfl (by decide) rfl (fun ls hl => ?_)
            have hl : lv_has ls 5 [(4, .int 2), (0, .ref mo), (1, .int u), (2, .int lo), (3, .int 3)] := by rw [show (2 : Int32) = 1 + 1 from by decide]; exact hl
            refine lv_goto (tgt := 39) C0.1 C0.2.1 dX7_units_63 (by decide) ?_
            refine lv_iload C0.1 C0.2.1 dX7_units_39 (lv_at hl 0 rfl) ?_
            refine lv_iconst (v := 3) C0.1 C0.2.1 dX7_units_41 (by decide) ?_
            refine lv_icmp_gt (tgt := 66) C0.1 C0.2.1 dX7_units_42 (by decide) (fun h9 => absurd h9 (by decide)) (fun _ => ?_)
            refine lv_aload_n C0.1 C0.2.1 dX7_units_45 rfl (lv_at hl 1 rfl) ?_
            refine lv_iload C0.1 C0.2.1 dX7_units_46 (lv_at hl 0 rfl) ?_
            refine lv_iconst (v := 0) C0.1 C0.2.1 dX7_units_48 (by decide) ?_
            refine lv_iconst (v := 2) C0.1 C0.2.1 dX7_units_49 (by decide) ?_
            refine lv_iload_n C0.1 C0.2.1 dX7_units_50 rfl (lv_at hl 2 rfl) ?_
            refine lv_i2l (v := u.toInt64) C0.1 C0.2.1 dX7_units_51 rfl ?_
            refine lv_iload_n C0.1 C0.2.1 dX7_units_52 rfl (lv_at hl 3 rfl) ?_
            refine lv_i2l (v := lo.toInt64) C0.1 C0.2.1 dX7_units_53 rfl ?_
            refine hv_cVi C0 w kl_X7_271 kv_X7_isUnits rfl hV262 (c_X7_isUnits (N := 2) (by decide) 2 hV262 hV282 (k := 0) (fr := 2) rfl (by decide)) (by decide) (by decide) rfl hl.1 rfl (Nat.le_of_ble_eq_true rfl) dX7_units_54 ⟨Nat.le_refl _, Nat.le_refl _⟩ (fun x283 V284 Hq lq hp285 w => ?_)
            obtain ⟨u286, eV287, -, hz288⟩ := hp285
            have hV289 : V284 mo = some (.inr (7, [.ref (mo + 1), .ref (mo + 2), .ref (mo + 3), .long ab, .long be, .ref (mo + 10), .int (nI σ.2.2.1.1), .int pl, .int cl, .ref (mo + 11), .ref (mo + 12), .ref (mo + 13), .int sg, .ref (mo + 14), .ref (mo + 15), .ref (mo + 16), .ref (mo + 17), .int (nI σ.1.2.1.1), .ref (mo + 18), .ref (mo + 19), .int (nI σ.1.2.2.1.1), .ref (mo + 20), .ref (mo + 21), .ref (mo + 22), .int (nI σ.1.2.2.2.1), .int ik, .ref (mo + 23), .ref (mo + 24), .ref (mo + 25), .ref (mo + 26), .ref (mo + 33), .ref (mo + 41), .ref (mo + 42), .ref (mo + 43)])) := by rw [eV287, hv_un (by omega)]; exact hV262
            have hV290 : V284 (mo + 1) = some (.inl (X.2.1 0, 6, .inl σ.1.1.1)) := by rw [eV287, hv_un (by omega)]; exact hV263
            have hV291 : V284 (mo + 2) = some (.inl (X.2.1 0, 6, .inl (fun j => nI (σ.1.1.2.1 j)))) := by rw [eV287, hv_un (by omega)]; exact hV264
            have hV292 : V284 (mo + 3) = some (.inl (X.2.1 6, 6, .inr (.inr (.inr (.inr rf))))) := by rw [eV287, hv_un (by omega)]; exact hV265
            have hV293 : V284 (mo + 10) = some (.inl (X.2.1 2, 100, .inl σ.2.2.1.2)) := by rw [eV287, hv_un (by omega)]; exact hV266
            have hV294 : V284 (mo + 11) = some (.inl (X.2.1 0, 12, .inl wd)) := by rw [eV287, hv_un (by omega)]; exact hV267
            have hV295 : V284 (mo + 12) = some (.inl (X.2.1 0, 48, .inl td)) := by rw [eV287, hv_un (by omega)]; exact hV268
            have hV296 : V284 (mo + 13) = some (.inl (X.2.1 2, 178, .inl sn)) := by rw [eV287, hv_un (by omega)]; exact hV269
            have hV297 : V284 (mo + 20) = some (.inl (X.2.1 0, 16, .inl kn)) := by rw [eV287, hv_un (by omega)]; exact hV271
            have hV298 : V284 (mo + 15) = some (.inl (X.2.1 0, 4, .inl sf)) := by rw [eV287, hv_un (by omega)]; exact hV272
            have hV299 : V284 (mo + 16) = some (.inl (X.2.1 0, 4, .inl sg9)) := by rw [eV287, hv_un (by omega)]; exact hV273
            have hV300 : V284 (mo + 17) = some (.inl (X.2.1 0, 4, .inl sh)) := by rw [eV287, hv_un (by omega)]; exact hV274
            have hV301 : V284 (mo + 18) = some (.inl (X.2.1 0, 8, .inl ef)) := by rw [eV287, hv_un (by omega)]; exact hV275
            have hV302 : V284 (mo + 19) = some (.inl (X.2.1 0, 8, .inl eg)) := by rw [eV287, hv_un (by omega)]; exact hV276
            have hV303 : V284 (mo + 21) = some (.inl (X.2.1 0, 8, .inl bf)) := by rw [eV287, hv_un (by omega)]; exact hV277
            have hV304 : V284 (mo + 22) = some (.inl (X.2.1 0, 8, .inl bg)) := by rw [eV287, hv_un (by omega)]; exact hV278
            have hV305 : V284 (mo + 41) = some (.inl (X.2.1 0, 6, .inl σ.2.2.2.1)) := by rw [eV287, hv_un (by omega)]; exact hV279
            have hV306 : V284 (mo + 42) = some (.inl (X.2.1 0, 6, .inl (fun j => nI (σ.2.2.2.2.1 j)))) := by rw [eV287, hv_un (by omega)]; exact hV280
            have hV307 : V284 (mo + 43) = some (.inl (X.2.1 7, 6, .inr (.inr (.inr (.inr tf))))) := by rw [eV287, hv_un (by omega)]; exact hV281
            have hV309 : V284 (mo + 14) = some (.inl (X.2.1 0, 3, .inl u286)) := by rw [eV287]; exact hv_us
            rcases hz288 with ⟨rfl, l2, hf2, hm2⟩ | ⟨rfl, hf2⟩
            · skip
              refine lv_if_ne (tgt := 66) C0.1 C0.2.1 dX7_units_57 (by decide) (fun _ => ?_) (fun h9 => absurd h9 (by decide))
              refine lv_iload C0.1 C0.2.1 dX7_units_66 (lv_at hl 0 rfl) ?_
              refine lv_iconst (v := 3) C0.1 C0.2.1 dX7_units_68 (by decide) ?_
              refine lv_icmp_le (tgt := 75) C0.1 C0.2.1 dX7_units_69 (by decide) (fun _ => ?_) (fun h9 => absurd h9 (by decide))
              refine lv_iload_n C0.1 C0.2.1 dX7_units_75 rfl (lv_at hl 4 rfl) ?_
              refine lv_if_ne (tgt := 84) C0.1 C0.2.1 dX7_units_76 (by decide) (fun _ => ?_) (fun h9 => absurd h9 (by decide))
              refine lv_iload_n C0.1 C0.2.1 dX7_units_84 rfl (lv_at hl 4 rfl) ?_
              refine lv_iload C0.1 C0.2.1 dX7_units_85 (lv_at hl 0 rfl) ?_
              refine lv_icmp_gt (tgt := 101) C0.1 C0.2.1 dX7_units_87 (by decide) (fun _ => ?_) (fun h9 => absurd h9 (by decide))
              refine lv_bipush (v := -5) C0.1 C0.2.1 dX7_units_101 (by decide) ?_
              exact hv_iret C0 w hr hlk (by have h9 := ((fu_ru hb4 hb8).2 hf1).1 _ _ hf2 hm2; rw [sp_units, if_pos ⟨hb4, hb8⟩, if_pos hw3, if_pos (by rw [h9.1]; decide)]; exact ⟨rfl, ⟨ab, be, pl, cl, sg, ik, ((by rw [eV287, hv_un (by omega), eV260, hv_un (by omega)] : _ = V mo).trans hO), hRw.fr (fun q h7 h8 => by rw [eV287, hv_un (by omega), eV260, hv_un (by omega)]), (by rw [eV287, hv_un (by omega), eV260, hv_un (by omega)] : _ = V (mo + 10)).trans hTx, ⟨⟨wd, (by rw [eV287, hv_un (by omega), eV260, hv_un (by omega)] : _ = V (mo + 11)).trans s1⟩, ⟨td, (by rw [eV287, hv_un (by omega), eV260, hv_un (by omega)] : _ = V (mo + 12)).trans s2⟩, ⟨sn, (by rw [eV287, hv_un (by omega), eV260, hv_un (by omega)] : _ = V (mo + 13)).trans s3⟩, ⟨_, by rw [eV287]; exact hv_us⟩, kn, (by rw [eV287, hv_un (by omega), eV260, hv_un (by omega)] : _ = V (mo + 20)).trans s5⟩, hSe.fr (fun q h7 h8 => by rw [eV287, hv_un (by omega), eV260, hv_un (by omega)]), hEv.fr (by rw [eV287, hv_un (by omega), eV260, hv_un (by omega)]) (by rw [eV287, hv_un (by omega), eV260, hv_un (by omega)]), hBk.fr (by rw [eV287, hv_un (by omega), eV260, hv_un (by omega)]) (by rw [eV287, hv_un (by omega), eV260, hv_un (by omega)]), hIm.fr (fun q h7 h8 => by rw [eV287, hv_un (by omega), eV260, hv_un (by omega)]), hTp.fr (fun q h7 h8 => by rw [eV287, hv_un (by omega), eV260, hv_un (by omega)])⟩, (fun q h7 => by rw [eV287, hv_un (by omega), eV260, hv_un (by omega)])⟩) dX7_units_103
            · skip
              refine lv_if_ne (tgt := 66) C0.1 C0.2.1 dX7_units_57 (by decide) (fun h9 => absurd h9 (by decide)) (fun _ => ?_)
              refine lv_iinc (v := 2 + 1) (lv' := [(4, .int (2 + 1)), (0, .ref mo), (1, .int u), (2, .int lo), (3, .int 3)]) C0.1 C0.2.1 dX7_units_60 hl (k := 0) rfl rfl (by decide) rfl (fun ls hl => ?_)
              have hl : lv_has ls 5 [(4, .int 3), (0, .ref mo), (1, .int u), (2, .int lo), (3, .int 3)] := by rw [show (3 : Int32) = 2 + 1 from by decide]; exact hl
              refine lv_goto (tgt := 39) C0.1 C0.2.1 dX7_units_63 (by decide) ?_
              refine lv_iload C0.1 C0.2.1 dX7_units_39 (lv_at hl 0 rfl) ?_
              refine lv_iconst (v := 3) C0.1 C0.2.1 dX7_units_41 (by decide) ?_
              refine lv_icmp_gt (tgt := 66) C0.1 C0.2.1 dX7_units_42 (by decide) (fun h9 => absurd h9 (by decide)) (fun _ => ?_)
              refine lv_aload_n C0.1 C0.2.1 dX7_units_45 rfl (lv_at hl 1 rfl) ?_
              refine lv_iload C0.1 C0.2.1 dX7_units_46 (lv_at hl 0 rfl) ?_
              refine lv_iconst (v := 0) C0.1 C0.2.1 dX7_units_48 (by decide) ?_
              refine lv_iconst (v := 2) C0.1 C0.2.1 dX7_units_49 (by decide) ?_
              refine lv_iload_n C0.1 C0.2.1 dX7_units_50 rfl (lv_at hl 2 rfl) ?_
              refine lv_i2l (v := u.toInt64) C0.1 C0.2.1 dX7_units_51 rfl ?_
              refine lv_iload_n C0.1 C0.2.1 dX7_units_52 rfl (lv_at hl 3 rfl) ?_
              refine lv_i2l (v := lo.toInt64) C0.1 C0.2.1 dX7_units_53 rfl ?_
              refine hv_cVi C0 w kl_X7_271 kv_X7_isUnits rfl hV289 (c_X7_isUnits (N := 3) (by decide) 3 hV289 hV309 (k := 0) (fr := 2) rfl (by decide)) (by decide) (by decide) rfl hl.1 rfl (Nat.le_of_ble_eq_true rfl) dX7_units_54 ⟨Nat.le_refl _, Nat.le_refl _⟩ (fun x310 V311 Hq lq hp312 w => ?_)
              obtain ⟨u313, eV314, -, hz315⟩ := hp312
              have hV316 : V311 mo = some (.inr (7, [.ref (mo + 1), .ref (mo + 2), .ref (mo + 3), .long ab, .long be, .ref (mo + 10), .int (nI σ.2.2.1.1), .int pl, .int cl, .ref (mo + 11), .ref (mo + 12), .ref (mo + 13), .int sg, .ref (mo + 14), .ref (mo + 15), .ref (mo + 16), .ref (mo + 17), .int (nI σ.1.2.1.1), .ref (mo + 18), .ref (mo + 19), .int (nI σ.1.2.2.1.1), .ref (mo + 20), .ref (mo + 21), .ref (mo + 22), .int (nI σ.1.2.2.2.1), .int ik, .ref (mo + 23), .ref (mo + 24), .ref (mo + 25), .ref (mo + 26), .ref (mo + 33), .ref (mo + 41), .ref (mo + 42), .ref (mo + 43)])) := by rw [eV314, hv_un (by omega)]; exact hV289
              have hV317 : V311 (mo + 1) = some (.inl (X.2.1 0, 6, .inl σ.1.1.1)) := by rw [eV314, hv_un (by omega)]; exact hV290
              have hV318 : V311 (mo + 2) = some (.inl (X.2.1 0, 6, .inl (fun j => nI (σ.1.1.2.1 j)))) := by rw [eV314, hv_un (by omega)]; exact hV291
              have hV319 : V311 (mo + 3) = some (.inl (X.2.1 6, 6, .inr (.inr (.inr (.inr rf))))) := by rw [eV314, hv_un (by omega)]; exact hV292
              have hV320 : V311 (mo + 10) = some (.inl (X.2.1 2, 100, .inl σ.2.2.1.2)) := by rw [eV314, hv_un (by omega)]; exact hV293
              have hV321 : V311 (mo + 11) = some (.inl (X.2.1 0, 12, .inl wd)) := by rw [eV314, hv_un (by omega)]; exact hV294
              have hV322 : V311 (mo + 12) = some (.inl (X.2.1 0, 48, .inl td)) := by rw [eV314, hv_un (by omega)]; exact hV295
              have hV323 : V311 (mo + 13) = some (.inl (X.2.1 2, 178, .inl sn)) := by rw [eV314, hv_un (by omega)]; exact hV296
              have hV324 : V311 (mo + 20) = some (.inl (X.2.1 0, 16, .inl kn)) := by rw [eV314, hv_un (by omega)]; exact hV297
              have hV325 : V311 (mo + 15) = some (.inl (X.2.1 0, 4, .inl sf)) := by rw [eV314, hv_un (by omega)]; exact hV298
              have hV326 : V311 (mo + 16) = some (.inl (X.2.1 0, 4, .inl sg9)) := by rw [eV314, hv_un (by omega)]; exact hV299
              have hV327 : V311 (mo + 17) = some (.inl (X.2.1 0, 4, .inl sh)) := by rw [eV314, hv_un (by omega)]; exact hV300
              have hV328 : V311 (mo + 18) = some (.inl (X.2.1 0, 8, .inl ef)) := by rw [eV314, hv_un (by omega)]; exact hV301
              have hV329 : V311 (mo + 19) = some (.inl (X.2.1 0, 8, .inl eg)) := by rw [eV314, hv_un (by omega)]; exact hV302
              have hV330 : V311 (mo + 21) = some (.inl (X.2.1 0, 8, .inl bf)) := by rw [eV314, hv_un (by omega)]; exact hV303
              have hV331 : V311 (mo + 22) = some (.inl (X.2.1 0, 8, .inl bg)) := by rw [eV314, hv_un (by omega)]; exact hV304
              have hV332 : V311 (mo + 41) = some (.inl (X.2.1 0, 6, .inl σ.2.2.2.1)) := by rw [eV314, hv_un (by omega)]; exact hV305
              have hV333 : V311 (mo + 42) = some (.inl (X.2.1 0, 6, .inl (fun j => nI (σ.2.2.2.2.1 j)))) := by rw [eV314, hv_un (by omega)]; exact hV306
              have hV334 : V311 (mo + 43) = some (.inl (X.2.1 7, 6, .inr (.inr (.inr (.inr tf))))) := by rw [eV314, hv_un (by omega)]; exact hV307
              have hV336 : V311 (mo + 14) = some (.inl (X.2.1 0, 3, .inl u313)) := by rw [eV314]; exact hv_us
              rcases hz315 with ⟨rfl, l3, hf3, hm3⟩ | ⟨rfl, hf3⟩
              · skip
                refine lv_if_ne (tgt := 66) C0.1 C0.2.1 dX7_units_57 (by decide) (fun _ => ?_) (fun h9 => absurd h9 (by decide))
                refine lv_iload C0.1 C0.2.1 dX7_units_66 (lv_at hl 0 rfl) ?_
                refine lv_iconst (v := 3) C0.1 C0.2.1 dX7_units_68 (by decide) ?_
                refine lv_icmp_le (tgt := 75) C0.1 C0.2.1 dX7_units_69 (by decide) (fun _ => ?_) (fun h9 => absurd h9 (by decide))
                refine lv_iload_n C0.1 C0.2.1 dX7_units_75 rfl (lv_at hl 4 rfl) ?_
                refine lv_if_ne (tgt := 84) C0.1 C0.2.1 dX7_units_76 (by decide) (fun _ => ?_) (fun h9 => absurd h9 (by decide))
                refine lv_iload_n C0.1 C0.2.1 dX7_units_84 rfl (lv_at hl 4 rfl) ?_
                refine lv_iload C0.1 C0.2.1 dX7_units_85 (lv_at hl 0 rfl) ?_
                refine lv_icmp_gt (tgt := 101) C0.1 C0.2.1 dX7_units_87 (by decide) (fun h9 => absurd h9 (by decide)) (fun _ => ?_)
                refine lv_aload_n C0.1 C0.2.1 dX7_units_90 rfl (lv_at hl 1 rfl) ?_
                refine gf_X7_36 C0 w hV316 rfl dX7_units_91 ?_
                refine lv_iload_n C0.1 C0.2.1 dX7_units_94 rfl (lv_at hl 4 rfl) ?_
                refine lv_iconst (v := 1) C0.1 C0.2.1 dX7_units_95 (by decide) ?_
                refine lv_isub C0.1 C0.2.1 dX7_units_96 ?_
                rw [show (3 : Int32) - 1 = 2 by decide]
                refine hv_iald C0 w hV336 (hn_in (n := 2) (by decide) (by decide)) dX7_units_97 ?_
                have hc9 : (2 : Int32).toNatClampNeg = 2 := by decide
                rw [hc9]; clear hc9
                refine lv_goto (tgt := 103) C0.1 C0.2.1 dX7_units_98 (by decide) ?_
                exact hv_iret C0 w hr hlk (by have h9 := (((fu_ru hb4 hb8).2 hf1).2 hf2).1 _ _ hf3 hm3; rw [sp_units, if_pos ⟨hb4, hb8⟩, if_pos hw3, if_neg (by rw [h9.1]; decide), if_neg (by decide), if_neg (by decide), if_neg (by decide), h9.2.2.2]; exact ⟨rfl, ⟨ab, be, pl, cl, sg, ik, ((by rw [eV314, hv_un (by omega), eV287, hv_un (by omega), eV260, hv_un (by omega)] : _ = V mo).trans hO), hRw.fr (fun q h7 h8 => by rw [eV314, hv_un (by omega), eV287, hv_un (by omega), eV260, hv_un (by omega)]), (by rw [eV314, hv_un (by omega), eV287, hv_un (by omega), eV260, hv_un (by omega)] : _ = V (mo + 10)).trans hTx, ⟨⟨wd, (by rw [eV314, hv_un (by omega), eV287, hv_un (by omega), eV260, hv_un (by omega)] : _ = V (mo + 11)).trans s1⟩, ⟨td, (by rw [eV314, hv_un (by omega), eV287, hv_un (by omega), eV260, hv_un (by omega)] : _ = V (mo + 12)).trans s2⟩, ⟨sn, (by rw [eV314, hv_un (by omega), eV287, hv_un (by omega), eV260, hv_un (by omega)] : _ = V (mo + 13)).trans s3⟩, ⟨_, by rw [eV314]; exact hv_us⟩, kn, (by rw [eV314, hv_un (by omega), eV287, hv_un (by omega), eV260, hv_un (by omega)] : _ = V (mo + 20)).trans s5⟩, hSe.fr (fun q h7 h8 => by rw [eV314, hv_un (by omega), eV287, hv_un (by omega), eV260, hv_un (by omega)]), hEv.fr (by rw [eV314, hv_un (by omega), eV287, hv_un (by omega), eV260, hv_un (by omega)]) (by rw [eV314, hv_un (by omega), eV287, hv_un (by omega), eV260, hv_un (by omega)]), hBk.fr (by rw [eV314, hv_un (by omega), eV287, hv_un (by omega), eV260, hv_un (by omega)]) (by rw [eV314, hv_un (by omega), eV287, hv_un (by omega), eV260, hv_un (by omega)]), hIm.fr (fun q h7 h8 => by rw [eV314, hv_un (by omega), eV287, hv_un (by omega), eV260, hv_un (by omega)]), hTp.fr (fun q h7 h8 => by rw [eV314, hv_un (by omega), eV287, hv_un (by omega), eV260, hv_un (by omega)])⟩, (fun q h7 => by rw [eV314, hv_un (by omega), eV287, hv_un (by omega), eV260, hv_un (by omega)])⟩) dX7_units_103
              · skip
                refine lv_if_ne (tgt := 66) C0.1 C0.2.1 dX7_units_57 (by decide) (fun h9 => absurd h9 (by decide)) (fun _ => ?_)
                refine lv_iinc (v := 3 + 1) (lv' := [(4, .int (3 + 1)), (0, .ref mo), (1, .int u), (2, .int lo), (3, .int 3)]) C0.1 C0.2.1 dX7_units_60 hl (k := 0) rfl rfl (by decide) rfl (fun ls hl => ?_)
                have hl : lv_has ls 5 [(4, .int 4), (0, .ref mo), (1, .int u), (2, .int lo), (3, .int 3)] := by rw [show (4 : Int32) = 3 + 1 from by decide]; exact hl
                refine lv_goto (tgt := 39) C0.1 C0.2.1 dX7_units_63 (by decide) ?_
                refine lv_iload C0.1 C0.2.1 dX7_units_39 (lv_at hl 0 rfl) ?_
                refine lv_iconst (v := 3) C0.1 C0.2.1 dX7_units_41 (by decide) ?_
                refine lv_icmp_gt (tgt := 66) C0.1 C0.2.1 dX7_units_42 (by decide) (fun _ => ?_) (fun h9 => absurd h9 (by decide))
                refine lv_iload C0.1 C0.2.1 dX7_units_66 (lv_at hl 0 rfl) ?_
                refine lv_iconst (v := 3) C0.1 C0.2.1 dX7_units_68 (by decide) ?_
                refine lv_icmp_le (tgt := 75) C0.1 C0.2.1 dX7_units_69 (by decide) (fun h9 => absurd h9 (by decide)) (fun _ => ?_)
                refine lv_bipush (v := -5) C0.1 C0.2.1 dX7_units_72 (by decide) ?_
                exact hv_iret C0 w hr hlk (by have h9 := (((fu_ru hb4 hb8).2 hf1).2 hf2).2 hf3; rw [sp_units, if_pos ⟨hb4, hb8⟩, if_pos hw3, if_pos (by rw [h9]; decide)]; exact ⟨rfl, ⟨ab, be, pl, cl, sg, ik, ((by rw [eV314, hv_un (by omega), eV287, hv_un (by omega), eV260, hv_un (by omega)] : _ = V mo).trans hO), hRw.fr (fun q h7 h8 => by rw [eV314, hv_un (by omega), eV287, hv_un (by omega), eV260, hv_un (by omega)]), (by rw [eV314, hv_un (by omega), eV287, hv_un (by omega), eV260, hv_un (by omega)] : _ = V (mo + 10)).trans hTx, ⟨⟨wd, (by rw [eV314, hv_un (by omega), eV287, hv_un (by omega), eV260, hv_un (by omega)] : _ = V (mo + 11)).trans s1⟩, ⟨td, (by rw [eV314, hv_un (by omega), eV287, hv_un (by omega), eV260, hv_un (by omega)] : _ = V (mo + 12)).trans s2⟩, ⟨sn, (by rw [eV314, hv_un (by omega), eV287, hv_un (by omega), eV260, hv_un (by omega)] : _ = V (mo + 13)).trans s3⟩, ⟨_, by rw [eV314]; exact hv_us⟩, kn, (by rw [eV314, hv_un (by omega), eV287, hv_un (by omega), eV260, hv_un (by omega)] : _ = V (mo + 20)).trans s5⟩, hSe.fr (fun q h7 h8 => by rw [eV314, hv_un (by omega), eV287, hv_un (by omega), eV260, hv_un (by omega)]), hEv.fr (by rw [eV314, hv_un (by omega), eV287, hv_un (by omega), eV260, hv_un (by omega)]) (by rw [eV314, hv_un (by omega), eV287, hv_un (by omega), eV260, hv_un (by omega)]), hBk.fr (by rw [eV314, hv_un (by omega), eV287, hv_un (by omega), eV260, hv_un (by omega)]) (by rw [eV314, hv_un (by omega), eV287, hv_un (by omega), eV260, hv_un (by omega)]), hIm.fr (fun q h7 h8 => by rw [eV314, hv_un (by omega), eV287, hv_un (by omega), eV260, hv_un (by omega)]), hTp.fr (fun q h7 h8 => by rw [eV314, hv_un (by omega), eV287, hv_un (by omega), eV260, hv_un (by omega)])⟩, (fun q h7 => by rw [eV314, hv_un (by omega), eV287, hv_un (by omega), eV260, hv_un (by omega)])⟩) dX7_units_74
      · skip
        refine lv_if_ne (tgt := 36) C0.1 C0.2.1 dX7_units_31 (by decide) (fun h9 => absurd h9 (by decide)) (fun _ => ?_)
        refine lv_iconst (v := -1) C0.1 C0.2.1 dX7_units_34 (by decide) ?_
        exact hv_iret C0 w hr hlk (by rw [sp_units, if_pos ⟨hb4, hb8⟩, if_neg hb12]; exact ⟨rfl, hM, hv_out.rf⟩) dX7_units_35
    · skip
      refine lv_if_ne (tgt := 25) C0.1 C0.2.1 dX7_units_19 (by decide) (fun h9 => absurd h9 (by decide)) (fun _ => ?_)
      refine lv_bipush (v := -2) C0.1 C0.2.1 dX7_units_22 (by decide) ?_
      exact hv_iret C0 w hr hlk (by rw [sp_units, if_neg (fun h9 => hb8 h9.2)]; exact ⟨rfl, hM, hv_out.rf⟩) dX7_units_24
  · skip
    refine lv_if_eq (tgt := 22) C0.1 C0.2.1 dX7_units_8 (by decide) (fun _ => ?_) (fun h9 => absurd h9 (by decide))
    refine lv_bipush (v := -2) C0.1 C0.2.1 dX7_units_22 (by decide) ?_
    exact hv_iret C0 w hr hlk (by rw [sp_units, if_neg (fun h9 => hb4 h9.1)]; exact ⟨rfl, hM, hv_out.rf⟩) dX7_units_24

