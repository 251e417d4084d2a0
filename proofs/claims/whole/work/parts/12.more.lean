/-! lcmp with the branch behind it; the JDK's Math, System.arraycopy -/
section HV5
variable {p : Program} {l : Launch} {e : Env} {R : Room} {s : State} {m : MethodId} {args : Array Value} {below : List Frame} {meth : Method} {c : Code} {H : Heap} {locs : List Loc} {cells slots : Nat} {Q : State → Prop} {cc : ByteArray} {pc nL : Nat} {ls : Array Slot} {rest : List Value} {X : hv_X} {V : hv_V} {own : String} {a : Nat}
theorem hv_lc_lt (hx : p.tables.exec = Jvm.exec) (hb : c.code = cc) {x y : Int64} {off : Int} {tgt : Nat} (h1 : decode cc pc = .ok (.lcmp, 1)) (h2 : decode cc (pc + 1) = .ok (.ifCond .lt off, 3)) (ht : ((pc + 1 : Nat) : Int) + off = (tgt : Int)) (kt : x < y → W p l e R s m args below meth c H locs cells slots Q (F0 m tgt ls rest)) (kf : ¬ x < y → W p l e R s m args below meth c H locs cells slots Q (F0 m (pc + 4) ls rest)) : W p l e R s m args below meth c H locs cells slots Q (F0 m pc ls (.long y :: .long x :: rest)) :=
  W.lcmp hx hb h1 (lv_if_lt hx hb h2 ht (fun h => kt ((lg_cmp_lt x y).mp h)) (fun h => kf (fun q => h ((lg_cmp_lt x y).mpr q))))
theorem hv_lc_le (hx : p.tables.exec = Jvm.exec) (hb : c.code = cc) {x y : Int64} {off : Int} {tgt : Nat} (h1 : decode cc pc = .ok (.lcmp, 1)) (h2 : decode cc (pc + 1) = .ok (.ifCond .le off, 3)) (ht : ((pc + 1 : Nat) : Int) + off = (tgt : Int)) (kt : x ≤ y → W p l e R s m args below meth c H locs cells slots Q (F0 m tgt ls rest)) (kf : ¬ x ≤ y → W p l e R s m args below meth c H locs cells slots Q (F0 m (pc + 4) ls rest)) : W p l e R s m args below meth c H locs cells slots Q (F0 m pc ls (.long y :: .long x :: rest)) :=
  W.lcmp hx hb h1 (lv_if_le hx hb h2 ht (fun h => kt ((lg_cmp_le x y).mp h)) (fun h => kf (fun q => h ((lg_cmp_le x y).mpr q))))
theorem hv_lc_gt (hx : p.tables.exec = Jvm.exec) (hb : c.code = cc) {x y : Int64} {off : Int} {tgt : Nat} (h1 : decode cc pc = .ok (.lcmp, 1)) (h2 : decode cc (pc + 1) = .ok (.ifCond .gt off, 3)) (ht : ((pc + 1 : Nat) : Int) + off = (tgt : Int)) (kt : y < x → W p l e R s m args below meth c H locs cells slots Q (F0 m tgt ls rest)) (kf : ¬ y < x → W p l e R s m args below meth c H locs cells slots Q (F0 m (pc + 4) ls rest)) : W p l e R s m args below meth c H locs cells slots Q (F0 m pc ls (.long y :: .long x :: rest)) :=
  W.lcmp hx hb h1 (lv_if_gt hx hb h2 ht (fun h => kt ((lg_cmp_gt x y).mp h)) (fun h => kf (fun q => h ((lg_cmp_gt x y).mpr q))))
theorem hv_lc_ge (hx : p.tables.exec = Jvm.exec) (hb : c.code = cc) {x y : Int64} {off : Int} {tgt : Nat} (h1 : decode cc pc = .ok (.lcmp, 1)) (h2 : decode cc (pc + 1) = .ok (.ifCond .ge off, 3)) (ht : ((pc + 1 : Nat) : Int) + off = (tgt : Int)) (kt : y ≤ x → W p l e R s m args below meth c H locs cells slots Q (F0 m tgt ls rest)) (kf : ¬ y ≤ x → W p l e R s m args below meth c H locs cells slots Q (F0 m (pc + 4) ls rest)) : W p l e R s m args below meth c H locs cells slots Q (F0 m pc ls (.long y :: .long x :: rest)) :=
  W.lcmp hx hb h1 (lv_if_ge hx hb h2 ht (fun h => kt ((lg_cmp_ge x y).mp h)) (fun h => kf (fun q => h ((lg_cmp_ge x y).mpr q))))
theorem hv_lc_eq (hx : p.tables.exec = Jvm.exec) (hb : c.code = cc) {x y : Int64} {off : Int} {tgt : Nat} (h1 : decode cc pc = .ok (.lcmp, 1)) (h2 : decode cc (pc + 1) = .ok (.ifCond .eq off, 3)) (ht : ((pc + 1 : Nat) : Int) + off = (tgt : Int)) (kt : x = y → W p l e R s m args below meth c H locs cells slots Q (F0 m tgt ls rest)) (kf : ¬ x = y → W p l e R s m args below meth c H locs cells slots Q (F0 m (pc + 4) ls rest)) : W p l e R s m args below meth c H locs cells slots Q (F0 m pc ls (.long y :: .long x :: rest)) :=
  W.lcmp hx hb h1 (lv_if_eq hx hb h2 ht (fun h => kt ((lg_cmp_eq x y).mp h)) (fun h => kf (fun q => h ((lg_cmp_eq x y).mpr q))))
theorem hv_lc_ne (hx : p.tables.exec = Jvm.exec) (hb : c.code = cc) {x y : Int64} {off : Int} {tgt : Nat} (h1 : decode cc pc = .ok (.lcmp, 1)) (h2 : decode cc (pc + 1) = .ok (.ifCond .ne off, 3)) (ht : ((pc + 1 : Nat) : Int) + off = (tgt : Int)) (kt : ¬ x = y → W p l e R s m args below meth c H locs cells slots Q (F0 m tgt ls rest)) (kf : x = y → W p l e R s m args below meth c H locs cells slots Q (F0 m (pc + 4) ls rest)) : W p l e R s m args below meth c H locs cells slots Q (F0 m pc ls (.long y :: .long x :: rest)) :=
  W.lcmp hx hb h1 (lv_if_ne hx hb h2 ht (fun h => kt (fun q => h ((lg_cmp_eq x y).mpr q))) (fun h => kf ((lg_cmp_eq x y).mp h)))
theorem kj_Math : Cond.initialized "java/lang/Math" ∈ hv_g := hv_mem 87 (by decide +kernel) (by decide +kernel)
theorem kj_Sys : Cond.initialized "java/lang/System" ∈ hv_g := hv_mem 93 (by decide +kernel) (by decide +kernel)
theorem kj_max_s : Cond.static Lib.Math.max.name ∈ hv_g := hv_mem 122 (by decide +kernel) (by decide +kernel)
theorem kj_max_c : Cond.code Lib.Math.max.name Lib.Math.max.code 2 (some .int) ∈ hv_g := hv_mem 123 (by decide +kernel) (by decide +kernel)
theorem kj_min_s : Cond.static Lib.Math.min.name ∈ hv_g := hv_mem 380 (by decide +kernel) (by decide +kernel)
theorem kj_min_c : Cond.code Lib.Math.min.name Lib.Math.min.code 2 (some .int) ∈ hv_g := hv_mem 381 (by decide +kernel) (by decide +kernel)
theorem kj_abs_s : Cond.static Lib.MathLoose.abs_long.x ∈ hv_g := hv_mem 302 (by decide +kernel) (by decide +kernel)
theorem kj_abs_c : Cond.code Lib.MathLoose.abs_long.x Lib.MathLoose.abs_long.code 2 (some .long) ∈ hv_g := hv_mem 303 (by decide +kernel) (by decide +kernel)
theorem kj_cp_s : Cond.static arraycopyName ∈ hv_g := hv_mem 369 (by decide +kernel) (by decide +kernel)
theorem kj_cp_n : Cond.native arraycopyName ∈ hv_g := hv_mem 370 (by decide +kernel) (by decide +kernel)
theorem kj_X1_9 : Cond.methodLink RX1 9 Lib.Math.max.name ∈ hv_g := hv_mem 121 (by decide +kernel) (by decide +kernel)
theorem kj_X0_22 : Cond.methodLink RX0 22 Lib.MathLoose.abs_long.x ∈ hv_g := hv_mem 301 (by decide +kernel) (by decide +kernel)
theorem kj_X3_22 : Cond.methodLink RX3 22 arraycopyName ∈ hv_g := hv_mem 368 (by decide +kernel) (by decide +kernel)
theorem kj_X3_34 : Cond.methodLink RX3 34 Lib.Math.min.name ∈ hv_g := hv_mem 379 (by decide +kernel) (by decide +kernel)
theorem kj_X4_59 : Cond.methodLink RX4 59 Lib.Math.max.name ∈ hv_g := hv_mem 498 (by decide +kernel) (by decide +kernel)
theorem kj_X3_93 : Cond.methodLink RX3 93 Lib.Math.max.name ∈ hv_g := hv_mem 664 (by decide +kernel) (by decide +kernel)
theorem kj_X6_262 : Cond.methodLink RX6 262 arraycopyName ∈ hv_g := hv_mem 749 (by decide +kernel) (by decide +kernel)
theorem kj_X7_97 : Cond.methodLink RX7 97 Lib.MathLoose.abs_long.x ∈ hv_g := hv_mem 881 (by decide +kernel) (by decide +kernel)
theorem kj_X7_148 : Cond.methodLink RX7 148 arraycopyName ∈ hv_g := hv_mem 920 (by decide +kernel) (by decide +kernel)
theorem kj_X7_288 : Cond.methodLink RX7 288 Lib.Math.max.name ∈ hv_g := hv_mem 1101 (by decide +kernel) (by decide +kernel)
theorem kj_X7_291 : Cond.methodLink RX7 291 Lib.Math.min.name ∈ hv_g := hv_mem 1102 (by decide +kernel) (by decide +kernel)
theorem hv_copyi {index : Nat} (C0 : hv_C X p s m args c cc nL own) (w : hv_w X s V H locs) (hsz : ls.size = nL) (hlink : Cond.methodLink own index arraycopyName ∈ hv_g) {a0 n0 n1 : Nat} {f g : Nat → Int32} (h0 : V a0 = some (.inl (X.2.1 0, n0, .inl f))) (h1 : V a = some (.inl (X.2.1 0, n1, .inl g))) {sp dp n : Int32} (q1 : ¬ sp < 0) (q2 : ¬ dp < 0) (q3 : ¬ n < 0) (q4 : sp.toNatClampNeg + n.toNatClampNeg ≤ n0) (q5 : dp.toNatClampNeg + n.toNatClampNeg ≤ n1) (hfr : 1 ≤ R.frames) (hlo : (rest.map fun v => v.category).sum + (nativeFrameWords "java/lang/System" "arraycopy" 5 + 11) ≤ R.locals) (hdg : decode cc pc = .ok (.invokestatic index, 3))
    (kk : ∀ (H1 : Heap) (locs1 : List Loc), hv_w X s (hv_up V a (.inl (X.2.1 0, n1, .inl (va_cpy f g sp.toNatClampNeg dp.toNatClampNeg n.toNatClampNeg)))) H1 locs1 → W p l e R s m args below meth c H1 locs1 cells slots Q (F0 m (pc + 3) ls rest)) : W p l e R s m args below meth c H locs cells slots Q (F0 m pc ls (.int n :: .int dp :: .ref a :: .int sp :: .ref a0 :: rest)) := by
  obtain ⟨hx, hb, hml, hown, hts, hE⟩ := C0
  obtain ⟨⟨ws, hP, hD, hi⟩, hS⟩ := w
  obtain ⟨j0, hj0⟩ := (hi a0 _).mp h0
  obtain ⟨j, hj⟩ := (hi a _).mp h1
  exact va_copyi hx hb (hml.trans hsz.symm) hown (hts _ hlink) (hts _ kj_cp_n) (hts _ kj_cp_s) (hts _ kj_Sys) hE.1 hP hD hS j0 j 0 0 hj0 hj rfl rfl rfl q1 q2 q3 q4 q5 (fun i hi => rfl) hfr hlo hdg (fun H1 locs1 hP1 hD1 hS1 => kk H1 locs1 ⟨⟨_, hP1, hD1, hv_set hD hi hj⟩, hS1⟩)
theorem hv_copyl {index : Nat} (C0 : hv_C X p s m args c cc nL own) (w : hv_w X s V H locs) (hsz : ls.size = nL) (hlink : Cond.methodLink own index arraycopyName ∈ hv_g) {a0 n0 n1 : Nat} {f g : Nat → Int64} (h0 : V a0 = some (.inl (X.2.1 1, n0, .inr (.inl f)))) (h1 : V a = some (.inl (X.2.1 1, n1, .inr (.inl g)))) {sp dp n : Int32} (q1 : ¬ sp < 0) (q2 : ¬ dp < 0) (q3 : ¬ n < 0) (q4 : sp.toNatClampNeg + n.toNatClampNeg ≤ n0) (q5 : dp.toNatClampNeg + n.toNatClampNeg ≤ n1) (hfr : 1 ≤ R.frames) (hlo : (rest.map fun v => v.category).sum + (nativeFrameWords "java/lang/System" "arraycopy" 5 + 11) ≤ R.locals) (hdg : decode cc pc = .ok (.invokestatic index, 3))
    (kk : ∀ (H1 : Heap) (locs1 : List Loc), hv_w X s (hv_up V a (.inl (X.2.1 1, n1, .inr (.inl (va_cpy f g sp.toNatClampNeg dp.toNatClampNeg n.toNatClampNeg))))) H1 locs1 → W p l e R s m args below meth c H1 locs1 cells slots Q (F0 m (pc + 3) ls rest)) : W p l e R s m args below meth c H locs cells slots Q (F0 m pc ls (.int n :: .int dp :: .ref a :: .int sp :: .ref a0 :: rest)) := by
  obtain ⟨hx, hb, hml, hown, hts, hE⟩ := C0
  obtain ⟨⟨ws, hP, hD, hi⟩, hS⟩ := w
  obtain ⟨j0, hj0⟩ := (hi a0 _).mp h0
  obtain ⟨j, hj⟩ := (hi a _).mp h1
  exact va_copyl hx hb (hml.trans hsz.symm) hown (hts _ hlink) (hts _ kj_cp_n) (hts _ kj_cp_s) (hts _ kj_Sys) hE.1 hP hD hS j0 j 1 1 hj0 hj rfl rfl rfl q1 q2 q3 q4 q5 (fun i hi => rfl) hfr hlo hdg (fun H1 locs1 hP1 hD1 hS1 => kk H1 locs1 ⟨⟨_, hP1, hD1, hv_set hD hi hj⟩, hS1⟩)
end HV5
