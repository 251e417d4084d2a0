set_option maxHeartbeats 4000000 in
set_option maxRecDepth 100000 in
theorem law_spread {p : Program} {l : Launch} {e : Env} {s : State} {m : MethodId} {args : Array Value} {below : List Frame} {meth : Method} {c : Code} {X : hv_X} {V : hv_V} {σ : hs_S} {x b L i : Nat} {xs : Nat → Int32} {Hq : Heap} {lq : List Loc} {ls : Array Slot} {Q : State → Prop} (C0 : hv_C X p s m args c cL_law 4 RL) (hXs : va_X b L xs s s.heap) (hbl : b < s.heap.size) (hbA : ¬ X.2.2.1 b) (hx : okX X V x σ) (hm : okM X V (x + 92) σ) (hB : hs_b σ) (w : hv_w X s V Hq lq) (hl : lv_has ls 4 [(0, .ref b), (1, .ref x), (2, .ref (x + 92)), (3, .int (nI i))]) (hi : i + 6 ≤ L) (hL : L ≤ 3072) (kk : ∀ (σ1 : hs_S) (V1 : hv_V) (Hq : Heap) (lq : List Loc), okX X V1 x σ1 → okM X V1 (x + 92) σ1 → hs_b σ1 → hv_w X s V1 Hq lq → W p l e (hv_rm 2048 600000 7302250) s m args below meth c Hq lq 142 2151 Q (F0 m 1317 ls [])) : W p l e (hv_rm 2048 600000 7302250) s m args below meth c Hq lq 142 2151 Q (F0 m 176 ls []) := by
  obtain ⟨kk0, hX0, -⟩ := id hx
  refine lv_aload_n C0.1 C0.2.1 dL_law_176 rfl (lv_at hl 1 rfl) ?_
  refine lv_aload_n C0.1 C0.2.1 dL_law_177 rfl (lv_at hl 0 rfl) ?_
  refine lv_iload_n C0.1 C0.2.1 dL_law_178 rfl (lv_at hl 3 rfl) ?_
  refine lv_iconst (v := 1) C0.1 C0.2.1 dL_law_179 (by decide) ?_
  refine lv_iadd C0.1 C0.2.1 dL_law_180 ?_
  rw [show nI i + 1 = nI (i + 1) from nI_add i 1]
  refine va_sld C0.1 C0.2.1 hXs hbl hbA w.2 (hn_in (by omega) (by omega)) dL_law_181 ?_
  refine lv_aload_n C0.1 C0.2.1 dL_law_182 rfl (lv_at hl 0 rfl) ?_
  refine lv_iload_n C0.1 C0.2.1 dL_law_183 rfl (lv_at hl 3 rfl) ?_
  refine lv_iconst (v := 2) C0.1 C0.2.1 dL_law_184 (by decide) ?_
  refine lv_iadd C0.1 C0.2.1 dL_law_185 ?_
  rw [show nI i + 2 = nI (i + 2) from nI_add i 2]
  refine va_sld C0.1 C0.2.1 hXs hbl hbA w.2 (hn_in (by omega) (by omega)) dL_law_186 ?_
  refine lv_aload_n C0.1 C0.2.1 dL_law_187 rfl (lv_at hl 0 rfl) ?_
  refine lv_iload_n C0.1 C0.2.1 dL_law_188 rfl (lv_at hl 3 rfl) ?_
  refine lv_iconst (v := 3) C0.1 C0.2.1 dL_law_189 (by decide) ?_
  refine lv_iadd C0.1 C0.2.1 dL_law_190 ?_
  rw [show nI i + 3 = nI (i + 3) from nI_add i 3]
  refine va_sld C0.1 C0.2.1 hXs hbl hbA w.2 (hn_in (by omega) (by omega)) dL_law_191 ?_
  refine lv_aload_n C0.1 C0.2.1 dL_law_192 rfl (lv_at hl 0 rfl) ?_
  refine lv_iload_n C0.1 C0.2.1 dL_law_193 rfl (lv_at hl 3 rfl) ?_
  refine lv_iconst (v := 4) C0.1 C0.2.1 dL_law_194 (by decide) ?_
  refine lv_iadd C0.1 C0.2.1 dL_law_195 ?_
  rw [show nI i + 4 = nI (i + 4) from nI_add i 4]
  refine va_sld C0.1 C0.2.1 hXs hbl hbA w.2 (hn_in (by omega) (by omega)) dL_law_196 ?_
  refine hv_cVi C0 w kl_L_13 kv_X6_spread rfl hX0 (m_X6_spread hx hB) (by decide) (by decide) rfl hl.1 rfl (Nat.le_of_ble_eq_true rfl) dL_law_197 ⟨Nat.le_of_ble_eq_true rfl, Nat.le_of_ble_eq_true rfl⟩ (fun x1 V2 Hq lq hp3 w => ?_)
  obtain ⟨ey, hx1, ho1⟩ := hp3
  have hm1 : okM X V2 (x + 92) σ := hm.fr (fun q h1 h2 => ho1 q (Or.inr h1))
  obtain ⟨ab, be, pl, cl, sg, ik, hM0, -⟩ := id hm1
  refine lv_aload_n C0.1 C0.2.1 dL_law_200 rfl (lv_at hl 2 rfl) ?_
  refine lv_aload_n C0.1 C0.2.1 dL_law_201 rfl (lv_at hl 0 rfl) ?_
  refine lv_iload_n C0.1 C0.2.1 dL_law_202 rfl (lv_at hl 3 rfl) ?_
  refine lv_iconst (v := 1) C0.1 C0.2.1 dL_law_203 (by decide) ?_
  refine lv_iadd C0.1 C0.2.1 dL_law_204 ?_
  rw [show nI i + 1 = nI (i + 1) from nI_add i 1]
  refine va_sld C0.1 C0.2.1 hXs hbl hbA w.2 (hn_in (by omega) (by omega)) dL_law_205 ?_
  refine lv_aload_n C0.1 C0.2.1 dL_law_206 rfl (lv_at hl 0 rfl) ?_
  refine lv_iload_n C0.1 C0.2.1 dL_law_207 rfl (lv_at hl 3 rfl) ?_
  refine lv_iconst (v := 2) C0.1 C0.2.1 dL_law_208 (by decide) ?_
  refine lv_iadd C0.1 C0.2.1 dL_law_209 ?_
  rw [show nI i + 2 = nI (i + 2) from nI_add i 2]
  refine va_sld C0.1 C0.2.1 hXs hbl hbA w.2 (hn_in (by omega) (by omega)) dL_law_210 ?_
  refine lv_aload_n C0.1 C0.2.1 dL_law_211 rfl (lv_at hl 0 rfl) ?_
  refine lv_iload_n C0.1 C0.2.1 dL_law_212 rfl (lv_at hl 3 rfl) ?_
  refine lv_iconst (v := 3) C0.1 C0.2.1 dL_law_213 (by decide) ?_
  refine lv_iadd C0.1 C0.2.1 dL_law_214 ?_
  rw [show nI i + 3 = nI (i + 3) from nI_add i 3]
  refine va_sld C0.1 C0.2.1 hXs hbl hbA w.2 (hn_in (by omega) (by omega)) dL_law_215 ?_
  refine lv_aload_n C0.1 C0.2.1 dL_law_216 rfl (lv_at hl 0 rfl) ?_
  refine lv_iload_n C0.1 C0.2.1 dL_law_217 rfl (lv_at hl 3 rfl) ?_
  refine lv_iconst (v := 4) C0.1 C0.2.1 dL_law_218 (by decide) ?_
  refine lv_iadd C0.1 C0.2.1 dL_law_219 ?_
  rw [show nI i + 4 = nI (i + 4) from nI_add i 4]
  refine va_sld C0.1 C0.2.1 hXs hbl hbA w.2 (hn_in (by omega) (by omega)) dL_law_220 ?_
  refine hv_cVi C0 w kl_L_17 kv_X7_spread rfl hM0 (m_X7_spread hm1 hB) (by decide) (by decide) rfl hl.1 rfl (Nat.le_of_ble_eq_true rfl) dL_law_221 ⟨Nat.le_of_ble_eq_true rfl, Nat.le_of_ble_eq_true rfl⟩ (fun x4 V5 Hq lq hp6 w => ?_)
  obtain ⟨ez, hm2, ho2⟩ := hp6
  have hx2 := hx1.fr (V1 := V5) (fun q h1 h2 => ho2 q (Or.inl h2))
  refine lv_icmp_eq (tgt := 1317) C0.1 C0.2.1 dL_law_224 (by decide) (fun c_224 => ?_) (fun c_224 => absurd (ey.trans ez.symm) c_224)
  exact kk _ _ _ _ hx2 hm2 (hb_spread hB _ _ _ _) w

set_option maxHeartbeats 4000000 in
set_option maxRecDepth 100000 in
theorem law_begin {p : Program} {l : Launch} {e : Env} {s : State} {m : MethodId} {args : Array Value} {below : List Frame} {meth : Method} {c : Code} {X : hv_X} {V : hv_V} {σ : hs_S} {x b L i : Nat} {xs : Nat → Int32} {Hq : Heap} {lq : List Loc} {ls : Array Slot} {Q : State → Prop} (C0 : hv_C X p s m args c cL_law 4 RL) (hXs : va_X b L xs s s.heap) (hbl : b < s.heap.size) (hbA : ¬ X.2.2.1 b) (hx : okX X V x σ) (hm : okM X V (x + 92) σ) (hB : hs_b σ) (w : hv_w X s V Hq lq) (hl : lv_has ls 4 [(0, .ref b), (1, .ref x), (2, .ref (x + 92)), (3, .int (nI i))]) (hi : i + 6 ≤ L) (hL : L ≤ 3072) (kk : ∀ (σ1 : hs_S) (V1 : hv_V) (Hq : Heap) (lq : List Loc), okX X V1 x σ1 → okM X V1 (x + 92) σ1 → hs_b σ1 → hv_w X s V1 Hq lq → W p l e (hv_rm 2048 600000 7302250) s m args below meth c Hq lq 142 2151 Q (F0 m 1317 ls [])) : W p l e (hv_rm 2048 600000 7302250) s m args below meth c Hq lq 142 2151 Q (F0 m 229 ls []) := by
  obtain ⟨kk0, hX0, -⟩ := id hx
  refine lv_aload_n C0.1 C0.2.1 dL_law_229 rfl (lv_at hl 1 rfl) ?_
  refine lv_aload_n C0.1 C0.2.1 dL_law_230 rfl (lv_at hl 0 rfl) ?_
  refine lv_iload_n C0.1 C0.2.1 dL_law_231 rfl (lv_at hl 3 rfl) ?_
  refine lv_iconst (v := 1) C0.1 C0.2.1 dL_law_232 (by decide) ?_
  refine lv_iadd C0.1 C0.2.1 dL_law_233 ?_
  rw [show nI i + 1 = nI (i + 1) from nI_add i 1]
  refine va_sld C0.1 C0.2.1 hXs hbl hbA w.2 (hn_in (by omega) (by omega)) dL_law_234 ?_
  refine lv_aload_n C0.1 C0.2.1 dL_law_235 rfl (lv_at hl 0 rfl) ?_
  refine lv_iload_n C0.1 C0.2.1 dL_law_236 rfl (lv_at hl 3 rfl) ?_
  refine lv_iconst (v := 2) C0.1 C0.2.1 dL_law_237 (by decide) ?_
  refine lv_iadd C0.1 C0.2.1 dL_law_238 ?_
  rw [show nI i + 2 = nI (i + 2) from nI_add i 2]
  refine va_sld C0.1 C0.2.1 hXs hbl hbA w.2 (hn_in (by omega) (by omega)) dL_law_239 ?_
  refine hv_cVi C0 w kl_L_18 kv_X6_begin rfl hX0 (m_X6_begin hx hB) (by decide) (by decide) rfl hl.1 rfl (Nat.le_of_ble_eq_true rfl) dL_law_240 ⟨Nat.le_of_ble_eq_true rfl, Nat.le_of_ble_eq_true rfl⟩ (fun x1 V2 Hq lq hp3 w => ?_)
  obtain ⟨ey, hx1, ho1⟩ := hp3
  have hm1 : okM X V2 (x + 92) σ := hm.fr (fun q h1 h2 => ho1 q (Or.inr h1))
  obtain ⟨ab, be, pl, cl, sg, ik, hM0, -⟩ := id hm1
  refine lv_aload_n C0.1 C0.2.1 dL_law_243 rfl (lv_at hl 2 rfl) ?_
  refine lv_aload_n C0.1 C0.2.1 dL_law_244 rfl (lv_at hl 0 rfl) ?_
  refine lv_iload_n C0.1 C0.2.1 dL_law_245 rfl (lv_at hl 3 rfl) ?_
  refine lv_iconst (v := 1) C0.1 C0.2.1 dL_law_246 (by decide) ?_
  refine lv_iadd C0.1 C0.2.1 dL_law_247 ?_
  rw [show nI i + 1 = nI (i + 1) from nI_add i 1]
  refine va_sld C0.1 C0.2.1 hXs hbl hbA w.2 (hn_in (by omega) (by omega)) dL_law_248 ?_
  refine lv_aload_n C0.1 C0.2.1 dL_law_249 rfl (lv_at hl 0 rfl) ?_
  refine lv_iload_n C0.1 C0.2.1 dL_law_250 rfl (lv_at hl 3 rfl) ?_
  refine lv_iconst (v := 2) C0.1 C0.2.1 dL_law_251 (by decide) ?_
  refine lv_iadd C0.1 C0.2.1 dL_law_252 ?_
  rw [show nI i + 2 = nI (i + 2) from nI_add i 2]
  refine va_sld C0.1 C0.2.1 hXs hbl hbA w.2 (hn_in (by omega) (by omega)) dL_law_253 ?_
  refine hv_cVi C0 w kl_L_22 kv_X7_begin rfl hM0 (m_X7_begin hm1 hB) (by decide) (by decide) rfl hl.1 rfl (Nat.le_of_ble_eq_true rfl) dL_law_254 ⟨Nat.le_of_ble_eq_true rfl, Nat.le_of_ble_eq_true rfl⟩ (fun x4 V5 Hq lq hp6 w => ?_)
  obtain ⟨ez, hm2, ho2⟩ := hp6
  have hx2 := hx1.fr (V1 := V5) (fun q h1 h2 => ho2 q (Or.inl h2))
  refine lv_icmp_eq (tgt := 1317) C0.1 C0.2.1 dL_law_257 (by decide) (fun c_257 => ?_) (fun c_257 => absurd (ey.trans ez.symm) c_257)
  exact kk _ _ _ _ hx2 hm2 (hb_begin hB _ _) w

set_option maxHeartbeats 4000000 in
set_option maxRecDepth 100000 in
theorem law_add {p : Program} {l : Launch} {e : Env} {s : State} {m : MethodId} {args : Array Value} {below : List Frame} {meth : Method} {c : Code} {X : hv_X} {V : hv_V} {σ : hs_S} {x b L i : Nat} {xs : Nat → Int32} {Hq : Heap} {lq : List Loc} {ls : Array Slot} {Q : State → Prop} (C0 : hv_C X p s m args c cL_law 4 RL) (hXs : va_X b L xs s s.heap) (hbl : b < s.heap.size) (hbA : ¬ X.2.2.1 b) (hx : okX X V x σ) (hm : okM X V (x + 92) σ) (hB : hs_b σ) (w : hv_w X s V Hq lq) (hl : lv_has ls 4 [(0, .ref b), (1, .ref x), (2, .ref (x + 92)), (3, .int (nI i))]) (hi : i + 6 ≤ L) (hL : L ≤ 3072) (kk : ∀ (σ1 : hs_S) (V1 : hv_V) (Hq : Heap) (lq : List Loc), okX X V1 x σ1 → okM X V1 (x + 92) σ1 → hs_b σ1 → hv_w X s V1 Hq lq → W p l e (hv_rm 2048 600000 7302250) s m args below meth c Hq lq 142 2151 Q (F0 m 1317 ls [])) : W p l e (hv_rm 2048 600000 7302250) s m args below meth c Hq lq 142 2151 Q (F0 m 262 ls []) := by
  obtain ⟨kk0, hX0, -⟩ := id hx
  refine lv_aload_n C0.1 C0.2.1 dL_law_262 rfl (lv_at hl 1 rfl) ?_
  refine lv_aload_n C0.1 C0.2.1 dL_law_263 rfl (lv_at hl 0 rfl) ?_
  refine lv_iload_n C0.1 C0.2.1 dL_law_264 rfl (lv_at hl 3 rfl) ?_
  refine lv_iconst (v := 1) C0.1 C0.2.1 dL_law_265 (by decide) ?_
  refine lv_iadd C0.1 C0.2.1 dL_law_266 ?_
  rw [show nI i + 1 = nI (i + 1) from nI_add i 1]
  refine va_sld C0.1 C0.2.1 hXs hbl hbA w.2 (hn_in (by omega) (by omega)) dL_law_267 ?_
  refine lv_aload_n C0.1 C0.2.1 dL_law_268 rfl (lv_at hl 0 rfl) ?_
  refine lv_iload_n C0.1 C0.2.1 dL_law_269 rfl (lv_at hl 3 rfl) ?_
  refine lv_iconst (v := 2) C0.1 C0.2.1 dL_law_270 (by decide) ?_
  refine lv_iadd C0.1 C0.2.1 dL_law_271 ?_
  rw [show nI i + 2 = nI (i + 2) from nI_add i 2]
  refine va_sld C0.1 C0.2.1 hXs hbl hbA w.2 (hn_in (by omega) (by omega)) dL_law_272 ?_
  refine hv_cVi C0 w kl_L_23 kv_X6_add rfl hX0 (m_X6_add hx hB) (by decide) (by decide) rfl hl.1 rfl (Nat.le_of_ble_eq_true rfl) dL_law_273 ⟨Nat.le_of_ble_eq_true rfl, Nat.le_of_ble_eq_true rfl⟩ (fun x1 V2 Hq lq hp3 w => ?_)
  obtain ⟨ey, hx1, ho1⟩ := hp3
  have hm1 : okM X V2 (x + 92) σ := hm.fr (fun q h1 h2 => ho1 q (Or.inr h1))
  obtain ⟨ab, be, pl, cl, sg, ik, hM0, -⟩ := id hm1
  refine lv_aload_n C0.1 C0.2.1 dL_law_276 rfl (lv_at hl 2 rfl) ?_
  refine lv_aload_n C0.1 C0.2.1 dL_law_277 rfl (lv_at hl 0 rfl) ?_
  refine lv_iload_n C0.1 C0.2.1 dL_law_278 rfl (lv_at hl 3 rfl) ?_
  refine lv_iconst (v := 1) C0.1 C0.2.1 dL_law_279 (by decide) ?_
  refine lv_iadd C0.1 C0.2.1 dL_law_280 ?_
  rw [show nI i + 1 = nI (i + 1) from nI_add i 1]
  refine va_sld C0.1 C0.2.1 hXs hbl hbA w.2 (hn_in (by omega) (by omega)) dL_law_281 ?_
  refine lv_aload_n C0.1 C0.2.1 dL_law_282 rfl (lv_at hl 0 rfl) ?_
  refine lv_iload_n C0.1 C0.2.1 dL_law_283 rfl (lv_at hl 3 rfl) ?_
  refine lv_iconst (v := 2) C0.1 C0.2.1 dL_law_284 (by decide) ?_
  refine lv_iadd C0.1 C0.2.1 dL_law_285 ?_
  rw [show nI i + 2 = nI (i + 2) from nI_add i 2]
  refine va_sld C0.1 C0.2.1 hXs hbl hbA w.2 (hn_in (by omega) (by omega)) dL_law_286 ?_
  refine hv_cVi C0 w kl_L_26 kv_X7_add rfl hM0 (m_X7_add hm1 hB) (by decide) (by decide) rfl hl.1 rfl (Nat.le_of_ble_eq_true rfl) dL_law_287 ⟨Nat.le_of_ble_eq_true rfl, Nat.le_of_ble_eq_true rfl⟩ (fun x4 V5 Hq lq hp6 w => ?_)
  obtain ⟨ez, hm2, ho2⟩ := hp6
  have hx2 := hx1.fr (V1 := V5) (fun q h1 h2 => ho2 q (Or.inl h2))
  refine lv_icmp_eq (tgt := 1317) C0.1 C0.2.1 dL_law_290 (by decide) (fun c_290 => ?_) (fun c_290 => absurd (ey.trans ez.symm) c_290)
  exact kk _ _ _ _ hx2 hm2 (hb_add hB _ _) w

set_option maxHeartbeats 4000000 in
set_option maxRecDepth 100000 in
theorem law_cut {p : Program} {l : Launch} {e : Env} {s : State} {m : MethodId} {args : Array Value} {below : List Frame} {meth : Method} {c : Code} {X : hv_X} {V : hv_V} {σ : hs_S} {x b L i : Nat} {xs : Nat → Int32} {Hq : Heap} {lq : List Loc} {ls : Array Slot} {Q : State → Prop} (C0 : hv_C X p s m args c cL_law 4 RL) (hXs : va_X b L xs s s.heap) (hbl : b < s.heap.size) (hbA : ¬ X.2.2.1 b) (hx : okX X V x σ) (hm : okM X V (x + 92) σ) (hB : hs_b σ) (w : hv_w X s V Hq lq) (hl : lv_has ls 4 [(0, .ref b), (1, .ref x), (2, .ref (x + 92)), (3, .int (nI i))]) (hi : i + 6 ≤ L) (hL : L ≤ 3072) (kk : ∀ (σ1 : hs_S) (V1 : hv_V) (Hq : Heap) (lq : List Loc), okX X V1 x σ1 → okM X V1 (x + 92) σ1 → hs_b σ1 → hv_w X s V1 Hq lq → W p l e (hv_rm 2048 600000 7302250) s m args below meth c Hq lq 142 2151 Q (F0 m 1317 ls [])) : W p l e (hv_rm 2048 600000 7302250) s m args below meth c Hq lq 142 2151 Q (F0 m 295 ls []) := by
  obtain ⟨kk0, hX0, -⟩ := id hx
  refine lv_aload_n C0.1 C0.2.1 dL_law_295 rfl (lv_at hl 1 rfl) ?_
  refine lv_aload_n C0.1 C0.2.1 dL_law_296 rfl (lv_at hl 0 rfl) ?_
  refine lv_iload_n C0.1 C0.2.1 dL_law_297 rfl (lv_at hl 3 rfl) ?_
  refine lv_iconst (v := 1) C0.1 C0.2.1 dL_law_298 (by decide) ?_
  refine lv_iadd C0.1 C0.2.1 dL_law_299 ?_
  rw [show nI i + 1 = nI (i + 1) from nI_add i 1]
  refine va_sld C0.1 C0.2.1 hXs hbl hbA w.2 (hn_in (by omega) (by omega)) dL_law_300 ?_
  refine lv_aload_n C0.1 C0.2.1 dL_law_301 rfl (lv_at hl 0 rfl) ?_
  refine lv_iload_n C0.1 C0.2.1 dL_law_302 rfl (lv_at hl 3 rfl) ?_
  refine lv_iconst (v := 2) C0.1 C0.2.1 dL_law_303 (by decide) ?_
  refine lv_iadd C0.1 C0.2.1 dL_law_304 ?_
  rw [show nI i + 2 = nI (i + 2) from nI_add i 2]
  refine va_sld C0.1 C0.2.1 hXs hbl hbA w.2 (hn_in (by omega) (by omega)) dL_law_305 ?_
  refine hv_cVi C0 w kl_L_27 kv_X6_cut rfl hX0 (m_X6_cut hx hB) (by decide) (by decide) rfl hl.1 rfl (Nat.le_of_ble_eq_true rfl) dL_law_306 ⟨Nat.le_of_ble_eq_true rfl, Nat.le_of_ble_eq_true rfl⟩ (fun x1 V2 Hq lq hp3 w => ?_)
  obtain ⟨ey, hx1, ho1⟩ := hp3
  have hm1 : okM X V2 (x + 92) σ := hm.fr (fun q h1 h2 => ho1 q (Or.inr h1))
  obtain ⟨ab, be, pl, cl, sg, ik, hM0, -⟩ := id hm1
  refine lv_aload_n C0.1 C0.2.1 dL_law_309 rfl (lv_at hl 2 rfl) ?_
  refine lv_aload_n C0.1 C0.2.1 dL_law_310 rfl (lv_at hl 0 rfl) ?_
  refine lv_iload_n C0.1 C0.2.1 dL_law_311 rfl (lv_at hl 3 rfl) ?_
  refine lv_iconst (v := 1) C0.1 C0.2.1 dL_law_312 (by decide) ?_
  refine lv_iadd C0.1 C0.2.1 dL_law_313 ?_
  rw [show nI i + 1 = nI (i + 1) from nI_add i 1]
  refine va_sld C0.1 C0.2.1 hXs hbl hbA w.2 (hn_in (by omega) (by omega)) dL_law_314 ?_
  refine lv_aload_n C0.1 C0.2.1 dL_law_315 rfl (lv_at hl 0 rfl) ?_
  refine lv_iload_n C0.1 C0.2.1 dL_law_316 rfl (lv_at hl 3 rfl) ?_
  refine lv_iconst (v := 2) C0.1 C0.2.1 dL_law_317 (by decide) ?_
  refine lv_iadd C0.1 C0.2.1 dL_law_318 ?_
  rw [show nI i + 2 = nI (i + 2) from nI_add i 2]
  refine va_sld C0.1 C0.2.1 hXs hbl hbA w.2 (hn_in (by omega) (by omega)) dL_law_319 ?_
  refine hv_cVi C0 w kl_L_30 kv_X7_cut rfl hM0 (m_X7_cut hm1 hB) (by decide) (by decide) rfl hl.1 rfl (Nat.le_of_ble_eq_true rfl) dL_law_320 ⟨Nat.le_of_ble_eq_true rfl, Nat.le_of_ble_eq_true rfl⟩ (fun x4 V5 Hq lq hp6 w => ?_)
  obtain ⟨ez, hm2, ho2⟩ := hp6
  have hx2 := hx1.fr (V1 := V5) (fun q h1 h2 => ho2 q (Or.inl h2))
  refine lv_icmp_eq (tgt := 1317) C0.1 C0.2.1 dL_law_323 (by decide) (fun c_323 => ?_) (fun c_323 => absurd (ey.trans ez.symm) c_323)
  exact kk _ _ _ _ hx2 hm2 (hb_cut hB _ _) w

set_option maxHeartbeats 4000000 in
set_option maxRecDepth 100000 in
theorem law_copies {p : Program} {l : Launch} {e : Env} {s : State} {m : MethodId} {args : Array Value} {below : List Frame} {meth : Method} {c : Code} {X : hv_X} {V : hv_V} {σ : hs_S} {x b L i : Nat} {xs : Nat → Int32} {Hq : Heap} {lq : List Loc} {ls : Array Slot} {Q : State → Prop} (C0 : hv_C X p s m args c cL_law 4 RL) (hXs : va_X b L xs s s.heap) (hbl : b < s.heap.size) (hbA : ¬ X.2.2.1 b) (hx : okX X V x σ) (hm : okM X V (x + 92) σ) (hB : hs_b σ) (w : hv_w X s V Hq lq) (hl : lv_has ls 4 [(0, .ref b), (1, .ref x), (2, .ref (x + 92)), (3, .int (nI i))]) (hi : i + 6 ≤ L) (hL : L ≤ 3072) (kk : ∀ (σ1 : hs_S) (V1 : hv_V) (Hq : Heap) (lq : List Loc), okX X V1 x σ1 → okM X V1 (x + 92) σ1 → hs_b σ1 → hv_w X s V1 Hq lq → W p l e (hv_rm 2048 600000 7302250) s m args below meth c Hq lq 142 2151 Q (F0 m 1317 ls [])) : W p l e (hv_rm 2048 600000 7302250) s m args below meth c Hq lq 142 2151 Q (F0 m 328 ls []) := by
  obtain ⟨kk0, hX0, -⟩ := id hx
  refine lv_aload_n C0.1 C0.2.1 dL_law_328 rfl (lv_at hl 1 rfl) ?_
  refine lv_aload_n C0.1 C0.2.1 dL_law_329 rfl (lv_at hl 0 rfl) ?_
  refine lv_iload_n C0.1 C0.2.1 dL_law_330 rfl (lv_at hl 3 rfl) ?_
  refine lv_iconst (v := 1) C0.1 C0.2.1 dL_law_331 (by decide) ?_
  refine lv_iadd C0.1 C0.2.1 dL_law_332 ?_
  rw [show nI i + 1 = nI (i + 1) from nI_add i 1]
  refine va_sld C0.1 C0.2.1 hXs hbl hbA w.2 (hn_in (by omega) (by omega)) dL_law_333 ?_
  refine lv_aload_n C0.1 C0.2.1 dL_law_334 rfl (lv_at hl 0 rfl) ?_
  refine lv_iload_n C0.1 C0.2.1 dL_law_335 rfl (lv_at hl 3 rfl) ?_
  refine lv_iconst (v := 2) C0.1 C0.2.1 dL_law_336 (by decide) ?_
  refine lv_iadd C0.1 C0.2.1 dL_law_337 ?_
  rw [show nI i + 2 = nI (i + 2) from nI_add i 2]
  refine va_sld C0.1 C0.2.1 hXs hbl hbA w.2 (hn_in (by omega) (by omega)) dL_law_338 ?_
  refine hv_cVi C0 w kl_L_31 kv_X6_copies rfl hX0 (m_X6_copies hx hB) (by decide) (by decide) rfl hl.1 rfl (Nat.le_of_ble_eq_true rfl) dL_law_339 ⟨Nat.le_of_ble_eq_true rfl, Nat.le_of_ble_eq_true rfl⟩ (fun x1 V2 Hq lq hp3 w => ?_)
  obtain ⟨ey, hx1, ho1⟩ := hp3
  have hm1 : okM X V2 (x + 92) σ := hm.fr (fun q h1 h2 => ho1 q (Or.inr h1))
  obtain ⟨ab, be, pl, cl, sg, ik, hM0, -⟩ := id hm1
  refine lv_aload_n C0.1 C0.2.1 dL_law_342 rfl (lv_at hl 2 rfl) ?_
  refine lv_aload_n C0.1 C0.2.1 dL_law_343 rfl (lv_at hl 0 rfl) ?_
  refine lv_iload_n C0.1 C0.2.1 dL_law_344 rfl (lv_at hl 3 rfl) ?_
  refine lv_iconst (v := 1) C0.1 C0.2.1 dL_law_345 (by decide) ?_
  refine lv_iadd C0.1 C0.2.1 dL_law_346 ?_
  rw [show nI i + 1 = nI (i + 1) from nI_add i 1]
  refine va_sld C0.1 C0.2.1 hXs hbl hbA w.2 (hn_in (by omega) (by omega)) dL_law_347 ?_
  refine lv_aload_n C0.1 C0.2.1 dL_law_348 rfl (lv_at hl 0 rfl) ?_
  refine lv_iload_n C0.1 C0.2.1 dL_law_349 rfl (lv_at hl 3 rfl) ?_
  refine lv_iconst (v := 2) C0.1 C0.2.1 dL_law_350 (by decide) ?_
  refine lv_iadd C0.1 C0.2.1 dL_law_351 ?_
  rw [show nI i + 2 = nI (i + 2) from nI_add i 2]
  refine va_sld C0.1 C0.2.1 hXs hbl hbA w.2 (hn_in (by omega) (by omega)) dL_law_352 ?_
  refine hv_cVi C0 w kl_L_34 kv_X7_copies rfl hM0 (m_X7_copies hm1 hB) (by decide) (by decide) rfl hl.1 rfl (Nat.le_of_ble_eq_true rfl) dL_law_353 ⟨Nat.le_of_ble_eq_true rfl, Nat.le_of_ble_eq_true rfl⟩ (fun x4 V5 Hq lq hp6 w => ?_)
  obtain ⟨ez, hm2, ho2⟩ := hp6
  have hx2 := hx1.fr (V1 := V5) (fun q h1 h2 => ho2 q (Or.inl h2))
  refine lv_icmp_eq (tgt := 1317) C0.1 C0.2.1 dL_law_356 (by decide) (fun c_356 => ?_) (fun c_356 => absurd (ey.trans ez.symm) c_356)
  exact kk _ _ _ _ hx2 hm2 (hb_copies hB _ _) w

set_option maxHeartbeats 4000000 in
set_option maxRecDepth 100000 in
theorem law_works {p : Program} {l : Launch} {e : Env} {s : State} {m : MethodId} {args : Array Value} {below : List Frame} {meth : Method} {c : Code} {X : hv_X} {V : hv_V} {σ : hs_S} {x b L i : Nat} {xs : Nat → Int32} {Hq : Heap} {lq : List Loc} {ls : Array Slot} {Q : State → Prop} (C0 : hv_C X p s m args c cL_law 4 RL) (hXs : va_X b L xs s s.heap) (hbl : b < s.heap.size) (hbA : ¬ X.2.2.1 b) (hx : okX X V x σ) (hm : okM X V (x + 92) σ) (hB : hs_b σ) (w : hv_w X s V Hq lq) (hl : lv_has ls 4 [(0, .ref b), (1, .ref x), (2, .ref (x + 92)), (3, .int (nI i))]) (hi : i + 6 ≤ L) (hL : L ≤ 3072) (kk : ∀ (σ1 : hs_S) (V1 : hv_V) (Hq : Heap) (lq : List Loc), okX X V1 x σ1 → okM X V1 (x + 92) σ1 → hs_b σ1 → hv_w X s V1 Hq lq → W p l e (hv_rm 2048 600000 7302250) s m args below meth c Hq lq 142 2151 Q (F0 m 1317 ls [])) : W p l e (hv_rm 2048 600000 7302250) s m args below meth c Hq lq 142 2151 Q (F0 m 361 ls []) := by
  obtain ⟨kk0, hX0, -⟩ := id hx
  refine lv_aload_n C0.1 C0.2.1 dL_law_361 rfl (lv_at hl 1 rfl) ?_
  refine lv_aload_n C0.1 C0.2.1 dL_law_362 rfl (lv_at hl 0 rfl) ?_
  refine lv_iload_n C0.1 C0.2.1 dL_law_363 rfl (lv_at hl 3 rfl) ?_
  refine lv_iconst (v := 1) C0.1 C0.2.1 dL_law_364 (by decide) ?_
  refine lv_iadd C0.1 C0.2.1 dL_law_365 ?_
  rw [show nI i + 1 = nI (i + 1) from nI_add i 1]
  refine va_sld C0.1 C0.2.1 hXs hbl hbA w.2 (hn_in (by omega) (by omega)) dL_law_366 ?_
  refine lv_aload_n C0.1 C0.2.1 dL_law_367 rfl (lv_at hl 0 rfl) ?_
  refine lv_iload_n C0.1 C0.2.1 dL_law_368 rfl (lv_at hl 3 rfl) ?_
  refine lv_iconst (v := 2) C0.1 C0.2.1 dL_law_369 (by decide) ?_
  refine lv_iadd C0.1 C0.2.1 dL_law_370 ?_
  rw [show nI i + 2 = nI (i + 2) from nI_add i 2]
  refine va_sld C0.1 C0.2.1 hXs hbl hbA w.2 (hn_in (by omega) (by omega)) dL_law_371 ?_
  refine lv_aload_n C0.1 C0.2.1 dL_law_372 rfl (lv_at hl 0 rfl) ?_
  refine lv_iload_n C0.1 C0.2.1 dL_law_373 rfl (lv_at hl 3 rfl) ?_
  refine lv_iconst (v := 3) C0.1 C0.2.1 dL_law_374 (by decide) ?_
  refine lv_iadd C0.1 C0.2.1 dL_law_375 ?_
  rw [show nI i + 3 = nI (i + 3) from nI_add i 3]
  refine va_sld C0.1 C0.2.1 hXs hbl hbA w.2 (hn_in (by omega) (by omega)) dL_law_376 ?_
  refine lv_aload_n C0.1 C0.2.1 dL_law_377 rfl (lv_at hl 0 rfl) ?_
  refine lv_iload_n C0.1 C0.2.1 dL_law_378 rfl (lv_at hl 3 rfl) ?_
  refine lv_iconst (v := 4) C0.1 C0.2.1 dL_law_379 (by decide) ?_
  refine lv_iadd C0.1 C0.2.1 dL_law_380 ?_
  rw [show nI i + 4 = nI (i + 4) from nI_add i 4]
  refine va_sld C0.1 C0.2.1 hXs hbl hbA w.2 (hn_in (by omega) (by omega)) dL_law_381 ?_
  refine hv_cVi C0 w kl_L_35 kv_X6_works rfl hX0 (m_X6_works hx hB) (by decide) (by decide) rfl hl.1 rfl (Nat.le_of_ble_eq_true rfl) dL_law_382 ⟨Nat.le_of_ble_eq_true rfl, Nat.le_of_ble_eq_true rfl⟩ (fun x1 V2 Hq lq hp3 w => ?_)
  obtain ⟨ey, hx1, ho1⟩ := hp3
  have hm1 : okM X V2 (x + 92) σ := hm.fr (fun q h1 h2 => ho1 q (Or.inr h1))
  obtain ⟨ab, be, pl, cl, sg, ik, hM0, -⟩ := id hm1
  refine lv_aload_n C0.1 C0.2.1 dL_law_385 rfl (lv_at hl 2 rfl) ?_
  refine lv_aload_n C0.1 C0.2.1 dL_law_386 rfl (lv_at hl 0 rfl) ?_
  refine lv_iload_n C0.1 C0.2.1 dL_law_387 rfl (lv_at hl 3 rfl) ?_
  refine lv_iconst (v := 1) C0.1 C0.2.1 dL_law_388 (by decide) ?_
  refine lv_iadd C0.1 C0.2.1 dL_law_389 ?_
  rw [show nI i + 1 = nI (i + 1) from nI_add i 1]
  refine va_sld C0.1 C0.2.1 hXs hbl hbA w.2 (hn_in (by omega) (by omega)) dL_law_390 ?_
  refine lv_aload_n C0.1 C0.2.1 dL_law_391 rfl (lv_at hl 0 rfl) ?_
  refine lv_iload_n C0.1 C0.2.1 dL_law_392 rfl (lv_at hl 3 rfl) ?_
  refine lv_iconst (v := 2) C0.1 C0.2.1 dL_law_393 (by decide) ?_
  refine lv_iadd C0.1 C0.2.1 dL_law_394 ?_
  rw [show nI i + 2 = nI (i + 2) from nI_add i 2]
  refine va_sld C0.1 C0.2.1 hXs hbl hbA w.2 (hn_in (by omega) (by omega)) dL_law_395 ?_
  refine lv_aload_n C0.1 C0.2.1 dL_law_396 rfl (lv_at hl 0 rfl) ?_
  refine lv_iload_n C0.1 C0.2.1 dL_law_397 rfl (lv_at hl 3 rfl) ?_
  refine lv_iconst (v := 3) C0.1 C0.2.1 dL_law_398 (by decide) ?_
  refine lv_iadd C0.1 C0.2.1 dL_law_399 ?_
  rw [show nI i + 3 = nI (i + 3) from nI_add i 3]
  refine va_sld C0.1 C0.2.1 hXs hbl hbA w.2 (hn_in (by omega) (by omega)) dL_law_400 ?_
  refine lv_aload_n C0.1 C0.2.1 dL_law_401 rfl (lv_at hl 0 rfl) ?_
  refine lv_iload_n C0.1 C0.2.1 dL_law_402 rfl (lv_at hl 3 rfl) ?_
  refine lv_iconst (v := 4) C0.1 C0.2.1 dL_law_403 (by decide) ?_
  refine lv_iadd C0.1 C0.2.1 dL_law_404 ?_
  rw [show nI i + 4 = nI (i + 4) from nI_add i 4]
  refine va_sld C0.1 C0.2.1 hXs hbl hbA w.2 (hn_in (by omega) (by omega)) dL_law_405 ?_
  refine hv_cVi C0 w kl_L_38 kv_X7_works rfl hM0 (m_X7_works hm1 hB) (by decide) (by decide) rfl hl.1 rfl (Nat.le_of_ble_eq_true rfl) dL_law_406 ⟨Nat.le_of_ble_eq_true rfl, Nat.le_of_ble_eq_true rfl⟩ (fun x4 V5 Hq lq hp6 w => ?_)
  obtain ⟨ez, hm2, ho2⟩ := hp6
  have hx2 := hx1.fr (V1 := V5) (fun q h1 h2 => ho2 q (Or.inl h2))
  refine lv_icmp_eq (tgt := 1317) C0.1 C0.2.1 dL_law_409 (by decide) (fun c_409 => ?_) (fun c_409 => absurd (ey.trans ez.symm) c_409)
  exact kk _ _ _ _ hx2 hm2 (hb_works hB _ _ _ _) w

set_option maxHeartbeats 4000000 in
set_option maxRecDepth 100000 in
theorem law_feed {p : Program} {l : Launch} {e : Env} {s : State} {m : MethodId} {args : Array Value} {below : List Frame} {meth : Method} {c : Code} {X : hv_X} {V : hv_V} {σ : hs_S} {x b L i : Nat} {xs : Nat → Int32} {Hq : Heap} {lq : List Loc} {ls : Array Slot} {Q : State → Prop} (C0 : hv_C X p s m args c cL_law 4 RL) (hXs : va_X b L xs s s.heap) (hbl : b < s.heap.size) (hbA : ¬ X.2.2.1 b) (hx : okX X V x σ) (hm : okM X V (x + 92) σ) (hB : hs_b σ) (w : hv_w X s V Hq lq) (hl : lv_has ls 4 [(0, .ref b), (1, .ref x), (2, .ref (x + 92)), (3, .int (nI i))]) (hi : i + 6 ≤ L) (hL : L ≤ 3072) (kk : ∀ (σ1 : hs_S) (V1 : hv_V) (Hq : Heap) (lq : List Loc), okX X V1 x σ1 → okM X V1 (x + 92) σ1 → hs_b σ1 → hv_w X s V1 Hq lq → W p l e (hv_rm 2048 600000 7302250) s m args below meth c Hq lq 142 2151 Q (F0 m 1317 ls [])) : W p l e (hv_rm 2048 600000 7302250) s m args below meth c Hq lq 142 2151 Q (F0 m 414 ls []) := by
  obtain ⟨kk0, hX0, -⟩ := id hx
  refine lv_aload_n C0.1 C0.2.1 dL_law_414 rfl (lv_at hl 1 rfl) ?_
  refine lv_aload_n C0.1 C0.2.1 dL_law_415 rfl (lv_at hl 0 rfl) ?_
  refine lv_iload_n C0.1 C0.2.1 dL_law_416 rfl (lv_at hl 3 rfl) ?_
  refine lv_iconst (v := 1) C0.1 C0.2.1 dL_law_417 (by decide) ?_
  refine lv_iadd C0.1 C0.2.1 dL_law_418 ?_
  rw [show nI i + 1 = nI (i + 1) from nI_add i 1]
  refine va_sld C0.1 C0.2.1 hXs hbl hbA w.2 (hn_in (by omega) (by omega)) dL_law_419 ?_
  refine hv_cVi C0 w kl_L_39 kv_X6_feed rfl hX0 (m_X6_feed hx hB) (by decide) (by decide) rfl hl.1 rfl (Nat.le_of_ble_eq_true rfl) dL_law_420 ⟨Nat.le_of_ble_eq_true rfl, Nat.le_of_ble_eq_true rfl⟩ (fun x1 V2 Hq lq hp3 w => ?_)
  obtain ⟨ey, hx1, ho1⟩ := hp3
  have hm1 : okM X V2 (x + 92) σ := hm.fr (fun q h1 h2 => ho1 q (Or.inr h1))
  obtain ⟨ab, be, pl, cl, sg, ik, hM0, -⟩ := id hm1
  refine lv_aload_n C0.1 C0.2.1 dL_law_423 rfl (lv_at hl 2 rfl) ?_
  refine lv_aload_n C0.1 C0.2.1 dL_law_424 rfl (lv_at hl 0 rfl) ?_
  refine lv_iload_n C0.1 C0.2.1 dL_law_425 rfl (lv_at hl 3 rfl) ?_
  refine lv_iconst (v := 1) C0.1 C0.2.1 dL_law_426 (by decide) ?_
  refine lv_iadd C0.1 C0.2.1 dL_law_427 ?_
  rw [show nI i + 1 = nI (i + 1) from nI_add i 1]
  refine va_sld C0.1 C0.2.1 hXs hbl hbA w.2 (hn_in (by omega) (by omega)) dL_law_428 ?_
  refine hv_cVi C0 w kl_L_43 kv_X7_feed rfl hM0 (m_X7_feed hm1 hB) (by decide) (by decide) rfl hl.1 rfl (Nat.le_of_ble_eq_true rfl) dL_law_429 ⟨Nat.le_of_ble_eq_true rfl, Nat.le_of_ble_eq_true rfl⟩ (fun x4 V5 Hq lq hp6 w => ?_)
  obtain ⟨ez, hm2, ho2⟩ := hp6
  have hx2 := hx1.fr (V1 := V5) (fun q h1 h2 => ho2 q (Or.inl h2))
  refine lv_icmp_eq (tgt := 1317) C0.1 C0.2.1 dL_law_432 (by decide) (fun c_432 => ?_) (fun c_432 => absurd (ey.trans ez.symm) c_432)
  exact kk _ _ _ _ hx2 hm2 (hb_feed hB _) w

set_option maxHeartbeats 4000000 in
set_option maxRecDepth 100000 in
theorem law_read {p : Program} {l : Launch} {e : Env} {s : State} {m : MethodId} {args : Array Value} {below : List Frame} {meth : Method} {c : Code} {X : hv_X} {V : hv_V} {σ : hs_S} {x b L i : Nat} {xs : Nat → Int32} {Hq : Heap} {lq : List Loc} {ls : Array Slot} {Q : State → Prop} (C0 : hv_C X p s m args c cL_law 4 RL) (hXs : va_X b L xs s s.heap) (hbl : b < s.heap.size) (hbA : ¬ X.2.2.1 b) (hx : okX X V x σ) (hm : okM X V (x + 92) σ) (hB : hs_b σ) (w : hv_w X s V Hq lq) (hl : lv_has ls 4 [(0, .ref b), (1, .ref x), (2, .ref (x + 92)), (3, .int (nI i))]) (hi : i + 6 ≤ L) (hL : L ≤ 3072) (kk : ∀ (σ1 : hs_S) (V1 : hv_V) (Hq : Heap) (lq : List Loc), okX X V1 x σ1 → okM X V1 (x + 92) σ1 → hs_b σ1 → hv_w X s V1 Hq lq → W p l e (hv_rm 2048 600000 7302250) s m args below meth c Hq lq 142 2151 Q (F0 m 1317 ls [])) : W p l e (hv_rm 2048 600000 7302250) s m args below meth c Hq lq 142 2151 Q (F0 m 437 ls []) := by
  obtain ⟨kk0, hX0, -⟩ := id hx
  refine lv_aload_n C0.1 C0.2.1 dL_law_437 rfl (lv_at hl 1 rfl) ?_
  refine hv_cVi C0 w kl_L_44 kv_X6_read rfl hX0 (m_X6_read hx hB) (by decide) (by decide) rfl hl.1 rfl (Nat.le_of_ble_eq_true rfl) dL_law_438 ⟨Nat.le_of_ble_eq_true rfl, Nat.le_of_ble_eq_true rfl⟩ (fun x1 V2 Hq lq hp3 w => ?_)
  obtain ⟨ey, hx1, ho1⟩ := hp3
  have hm1 : okM X V2 (x + 92) σ := hm.fr (fun q h1 h2 => ho1 q (Or.inr h1))
  obtain ⟨ab, be, pl, cl, sg, ik, hM0, -⟩ := id hm1
  refine lv_aload_n C0.1 C0.2.1 dL_law_441 rfl (lv_at hl 2 rfl) ?_
  refine hv_cVi C0 w kl_L_48 kv_X7_read rfl hM0 (m_X7_read hm1 hB) (by decide) (by decide) rfl hl.1 rfl (Nat.le_of_ble_eq_true rfl) dL_law_442 ⟨Nat.le_of_ble_eq_true rfl, Nat.le_of_ble_eq_true rfl⟩ (fun x4 V5 Hq lq hp6 w => ?_)
  obtain ⟨ez, hm2, ho2⟩ := hp6
  have hx2 := hx1.fr (V1 := V5) (fun q h1 h2 => ho2 q (Or.inl h2))
  refine lv_icmp_eq (tgt := 1317) C0.1 C0.2.1 dL_law_445 (by decide) (fun c_445 => ?_) (fun c_445 => absurd (ey.trans ez.symm) c_445)
  exact kk _ _ _ _ hx2 hm2 (hb_read hB) w

set_option maxHeartbeats 4000000 in
set_option maxRecDepth 100000 in
theorem law_of {p : Program} {l : Launch} {e : Env} {s : State} {m : MethodId} {args : Array Value} {below : List Frame} {meth : Method} {c : Code} {X : hv_X} {V : hv_V} {σ : hs_S} {x b L i : Nat} {xs : Nat → Int32} {Hq : Heap} {lq : List Loc} {ls : Array Slot} {Q : State → Prop} (C0 : hv_C X p s m args c cL_law 4 RL) (hXs : va_X b L xs s s.heap) (hbl : b < s.heap.size) (hbA : ¬ X.2.2.1 b) (hx : okX X V x σ) (hm : okM X V (x + 92) σ) (hB : hs_b σ) (w : hv_w X s V Hq lq) (hl : lv_has ls 4 [(0, .ref b), (1, .ref x), (2, .ref (x + 92)), (3, .int (nI i))]) (hi : i + 6 ≤ L) (hL : L ≤ 3072) (kk : ∀ (σ1 : hs_S) (V1 : hv_V) (Hq : Heap) (lq : List Loc), okX X V1 x σ1 → okM X V1 (x + 92) σ1 → hs_b σ1 → hv_w X s V1 Hq lq → W p l e (hv_rm 2048 600000 7302250) s m args below meth c Hq lq 142 2151 Q (F0 m 1317 ls [])) : W p l e (hv_rm 2048 600000 7302250) s m args below meth c Hq lq 142 2151 Q (F0 m 450 ls []) := by
  obtain ⟨kk0, hX0, -⟩ := id hx
  refine lv_aload_n C0.1 C0.2.1 dL_law_450 rfl (lv_at hl 1 rfl) ?_
  refine lv_aload_n C0.1 C0.2.1 dL_law_451 rfl (lv_at hl 0 rfl) ?_
  refine lv_iload_n C0.1 C0.2.1 dL_law_452 rfl (lv_at hl 3 rfl) ?_
  refine lv_iconst (v := 1) C0.1 C0.2.1 dL_law_453 (by decide) ?_
  refine lv_iadd C0.1 C0.2.1 dL_law_454 ?_
  rw [show nI i + 1 = nI (i + 1) from nI_add i 1]
  refine va_sld C0.1 C0.2.1 hXs hbl hbA w.2 (hn_in (by omega) (by omega)) dL_law_455 ?_
  refine lv_aload_n C0.1 C0.2.1 dL_law_456 rfl (lv_at hl 0 rfl) ?_
  refine lv_iload_n C0.1 C0.2.1 dL_law_457 rfl (lv_at hl 3 rfl) ?_
  refine lv_iconst (v := 2) C0.1 C0.2.1 dL_law_458 (by decide) ?_
  refine lv_iadd C0.1 C0.2.1 dL_law_459 ?_
  rw [show nI i + 2 = nI (i + 2) from nI_add i 2]
  refine va_sld C0.1 C0.2.1 hXs hbl hbA w.2 (hn_in (by omega) (by omega)) dL_law_460 ?_
  refine hv_cVi C0 w kl_L_49 kv_X6_of rfl hX0 (m_X6_of hx hB) (by decide) (by decide) rfl hl.1 rfl (Nat.le_of_ble_eq_true rfl) dL_law_461 ⟨Nat.le_of_ble_eq_true rfl, Nat.le_of_ble_eq_true rfl⟩ (fun x1 V2 Hq lq hp3 w => ?_)
  obtain ⟨ey, hx1, ho1⟩ := hp3
  have hm1 : okM X V2 (x + 92) σ := hm.fr (fun q h1 h2 => ho1 q (Or.inr h1))
  obtain ⟨ab, be, pl, cl, sg, ik, hM0, -⟩ := id hm1
  refine lv_aload_n C0.1 C0.2.1 dL_law_464 rfl (lv_at hl 2 rfl) ?_
  refine lv_aload_n C0.1 C0.2.1 dL_law_465 rfl (lv_at hl 0 rfl) ?_
  refine lv_iload_n C0.1 C0.2.1 dL_law_466 rfl (lv_at hl 3 rfl) ?_
  refine lv_iconst (v := 1) C0.1 C0.2.1 dL_law_467 (by decide) ?_
  refine lv_iadd C0.1 C0.2.1 dL_law_468 ?_
  rw [show nI i + 1 = nI (i + 1) from nI_add i 1]
  refine va_sld C0.1 C0.2.1 hXs hbl hbA w.2 (hn_in (by omega) (by omega)) dL_law_469 ?_
  refine lv_aload_n C0.1 C0.2.1 dL_law_470 rfl (lv_at hl 0 rfl) ?_
  refine lv_iload_n C0.1 C0.2.1 dL_law_471 rfl (lv_at hl 3 rfl) ?_
  refine lv_iconst (v := 2) C0.1 C0.2.1 dL_law_472 (by decide) ?_
  refine lv_iadd C0.1 C0.2.1 dL_law_473 ?_
  rw [show nI i + 2 = nI (i + 2) from nI_add i 2]
  refine va_sld C0.1 C0.2.1 hXs hbl hbA w.2 (hn_in (by omega) (by omega)) dL_law_474 ?_
  refine hv_cVi C0 w kl_L_52 kv_X7_of rfl hM0 (m_X7_of hm1 hB) (by decide) (by decide) rfl hl.1 rfl (Nat.le_of_ble_eq_true rfl) dL_law_475 ⟨Nat.le_of_ble_eq_true rfl, Nat.le_of_ble_eq_true rfl⟩ (fun x4 V5 Hq lq hp6 w => ?_)
  obtain ⟨ez, hm2, ho2⟩ := hp6
  have hx2 := hx1.fr (V1 := V5) (fun q h1 h2 => ho2 q (Or.inl h2))
  refine lv_icmp_eq (tgt := 1317) C0.1 C0.2.1 dL_law_478 (by decide) (fun c_478 => ?_) (fun c_478 => absurd (ey.trans ez.symm) c_478)
  exact kk _ _ _ _ hx2 hm2 (hB) w

set_option maxHeartbeats 4000000 in
set_option maxRecDepth 100000 in
theorem law_told {p : Program} {l : Launch} {e : Env} {s : State} {m : MethodId} {args : Array Value} {below : List Frame} {meth : Method} {c : Code} {X : hv_X} {V : hv_V} {σ : hs_S} {x b L i : Nat} {xs : Nat → Int32} {Hq : Heap} {lq : List Loc} {ls : Array Slot} {Q : State → Prop} (C0 : hv_C X p s m args c cL_law 4 RL) (hXs : va_X b L xs s s.heap) (hbl : b < s.heap.size) (hbA : ¬ X.2.2.1 b) (hx : okX X V x σ) (hm : okM X V (x + 92) σ) (hB : hs_b σ) (w : hv_w X s V Hq lq) (hl : lv_has ls 4 [(0, .ref b), (1, .ref x), (2, .ref (x + 92)), (3, .int (nI i))]) (hi : i + 6 ≤ L) (hL : L ≤ 3072) (kk : ∀ (σ1 : hs_S) (V1 : hv_V) (Hq : Heap) (lq : List Loc), okX X V1 x σ1 → okM X V1 (x + 92) σ1 → hs_b σ1 → hv_w X s V1 Hq lq → W p l e (hv_rm 2048 600000 7302250) s m args below meth c Hq lq 142 2151 Q (F0 m 1317 ls [])) : W p l e (hv_rm 2048 600000 7302250) s m args below meth c Hq lq 142 2151 Q (F0 m 483 ls []) := by
  obtain ⟨kk0, hX0, -⟩ := id hx
  refine lv_aload_n C0.1 C0.2.1 dL_law_483 rfl (lv_at hl 1 rfl) ?_
  refine lv_aload_n C0.1 C0.2.1 dL_law_484 rfl (lv_at hl 0 rfl) ?_
  refine lv_iload_n C0.1 C0.2.1 dL_law_485 rfl (lv_at hl 3 rfl) ?_
  refine lv_iconst (v := 1) C0.1 C0.2.1 dL_law_486 (by decide) ?_
  refine lv_iadd C0.1 C0.2.1 dL_law_487 ?_
  rw [show nI i + 1 = nI (i + 1) from nI_add i 1]
  refine va_sld C0.1 C0.2.1 hXs hbl hbA w.2 (hn_in (by omega) (by omega)) dL_law_488 ?_
  refine lv_aload_n C0.1 C0.2.1 dL_law_489 rfl (lv_at hl 0 rfl) ?_
  refine lv_iload_n C0.1 C0.2.1 dL_law_490 rfl (lv_at hl 3 rfl) ?_
  refine lv_iconst (v := 2) C0.1 C0.2.1 dL_law_491 (by decide) ?_
  refine lv_iadd C0.1 C0.2.1 dL_law_492 ?_
  rw [show nI i + 2 = nI (i + 2) from nI_add i 2]
  refine va_sld C0.1 C0.2.1 hXs hbl hbA w.2 (hn_in (by omega) (by omega)) dL_law_493 ?_
  refine hv_cVi C0 w kl_L_53 kv_X6_told rfl hX0 (m_X6_told hx hB) (by decide) (by decide) rfl hl.1 rfl (Nat.le_of_ble_eq_true rfl) dL_law_494 ⟨Nat.le_of_ble_eq_true rfl, Nat.le_of_ble_eq_true rfl⟩ (fun x1 V2 Hq lq hp3 w => ?_)
  obtain ⟨ey, hx1, ho1⟩ := hp3
  have hm1 : okM X V2 (x + 92) σ := hm.fr (fun q h1 h2 => ho1 q (Or.inr h1))
  obtain ⟨ab, be, pl, cl, sg, ik, hM0, -⟩ := id hm1
  refine lv_aload_n C0.1 C0.2.1 dL_law_497 rfl (lv_at hl 2 rfl) ?_
  refine lv_aload_n C0.1 C0.2.1 dL_law_498 rfl (lv_at hl 0 rfl) ?_
  refine lv_iload_n C0.1 C0.2.1 dL_law_499 rfl (lv_at hl 3 rfl) ?_
  refine lv_iconst (v := 1) C0.1 C0.2.1 dL_law_500 (by decide) ?_
  refine lv_iadd C0.1 C0.2.1 dL_law_501 ?_
  rw [show nI i + 1 = nI (i + 1) from nI_add i 1]
  refine va_sld C0.1 C0.2.1 hXs hbl hbA w.2 (hn_in (by omega) (by omega)) dL_law_502 ?_
  refine lv_aload_n C0.1 C0.2.1 dL_law_503 rfl (lv_at hl 0 rfl) ?_
  refine lv_iload_n C0.1 C0.2.1 dL_law_504 rfl (lv_at hl 3 rfl) ?_
  refine lv_iconst (v := 2) C0.1 C0.2.1 dL_law_505 (by decide) ?_
  refine lv_iadd C0.1 C0.2.1 dL_law_506 ?_
  rw [show nI i + 2 = nI (i + 2) from nI_add i 2]
  refine va_sld C0.1 C0.2.1 hXs hbl hbA w.2 (hn_in (by omega) (by omega)) dL_law_507 ?_
  refine hv_cVi C0 w kl_L_56 kv_X7_told rfl hM0 (m_X7_told hm1 hB) (by decide) (by decide) rfl hl.1 rfl (Nat.le_of_ble_eq_true rfl) dL_law_508 ⟨Nat.le_of_ble_eq_true rfl, Nat.le_of_ble_eq_true rfl⟩ (fun x4 V5 Hq lq hp6 w => ?_)
  obtain ⟨ez, hm2, ho2⟩ := hp6
  have hx2 := hx1.fr (V1 := V5) (fun q h1 h2 => ho2 q (Or.inl h2))
  refine lv_icmp_eq (tgt := 1317) C0.1 C0.2.1 dL_law_511 (by decide) (fun c_511 => ?_) (fun c_511 => absurd (ey.trans ez.symm) c_511)
  exact kk _ _ _ _ hx2 hm2 (hB) w

set_option maxHeartbeats 4000000 in
set_option maxRecDepth 100000 in
theorem law_worth {p : Program} {l : Launch} {e : Env} {s : State} {m : MethodId} {args : Array Value} {below : List Frame} {meth : Method} {c : Code} {X : hv_X} {V : hv_V} {σ : hs_S} {x b L i : Nat} {xs : Nat → Int32} {Hq : Heap} {lq : List Loc} {ls : Array Slot} {Q : State → Prop} (C0 : hv_C X p s m args c cL_law 4 RL) (hXs : va_X b L xs s s.heap) (hbl : b < s.heap.size) (hbA : ¬ X.2.2.1 b) (hx : okX X V x σ) (hm : okM X V (x + 92) σ) (hB : hs_b σ) (w : hv_w X s V Hq lq) (hl : lv_has ls 4 [(0, .ref b), (1, .ref x), (2, .ref (x + 92)), (3, .int (nI i))]) (hi : i + 6 ≤ L) (hL : L ≤ 3072) (kk : ∀ (σ1 : hs_S) (V1 : hv_V) (Hq : Heap) (lq : List Loc), okX X V1 x σ1 → okM X V1 (x + 92) σ1 → hs_b σ1 → hv_w X s V1 Hq lq → W p l e (hv_rm 2048 600000 7302250) s m args below meth c Hq lq 142 2151 Q (F0 m 1317 ls [])) : W p l e (hv_rm 2048 600000 7302250) s m args below meth c Hq lq 142 2151 Q (F0 m 516 ls []) := by
  obtain ⟨kk0, hX0, -⟩ := id hx
  refine lv_aload_n C0.1 C0.2.1 dL_law_516 rfl (lv_at hl 1 rfl) ?_
  refine lv_aload_n C0.1 C0.2.1 dL_law_517 rfl (lv_at hl 0 rfl) ?_
  refine lv_iload_n C0.1 C0.2.1 dL_law_518 rfl (lv_at hl 3 rfl) ?_
  refine lv_iconst (v := 1) C0.1 C0.2.1 dL_law_519 (by decide) ?_
  refine lv_iadd C0.1 C0.2.1 dL_law_520 ?_
  rw [show nI i + 1 = nI (i + 1) from nI_add i 1]
  refine va_sld C0.1 C0.2.1 hXs hbl hbA w.2 (hn_in (by omega) (by omega)) dL_law_521 ?_
  refine lv_aload_n C0.1 C0.2.1 dL_law_522 rfl (lv_at hl 0 rfl) ?_
  refine lv_iload_n C0.1 C0.2.1 dL_law_523 rfl (lv_at hl 3 rfl) ?_
  refine lv_iconst (v := 2) C0.1 C0.2.1 dL_law_524 (by decide) ?_
  refine lv_iadd C0.1 C0.2.1 dL_law_525 ?_
  rw [show nI i + 2 = nI (i + 2) from nI_add i 2]
  refine va_sld C0.1 C0.2.1 hXs hbl hbA w.2 (hn_in (by omega) (by omega)) dL_law_526 ?_
  refine hv_cVl C0 w kl_L_57 kv_X6_worth rfl hX0 (m_X6_worth hx hB) (by decide) (by decide) rfl hl.1 rfl (Nat.le_of_ble_eq_true rfl) dL_law_527 ⟨Nat.le_of_ble_eq_true rfl, Nat.le_of_ble_eq_true rfl⟩ (fun x1 V2 Hq lq hp3 w => ?_)
  obtain ⟨ey, hx1, ho1⟩ := hp3
  have hm1 : okM X V2 (x + 92) σ := hm.fr (fun q h1 h2 => ho1 q (Or.inr h1))
  obtain ⟨ab, be, pl, cl, sg, ik, hM0, -⟩ := id hm1
  refine lv_aload_n C0.1 C0.2.1 dL_law_530 rfl (lv_at hl 2 rfl) ?_
  refine lv_aload_n C0.1 C0.2.1 dL_law_531 rfl (lv_at hl 0 rfl) ?_
  refine lv_iload_n C0.1 C0.2.1 dL_law_532 rfl (lv_at hl 3 rfl) ?_
  refine lv_iconst (v := 1) C0.1 C0.2.1 dL_law_533 (by decide) ?_
  refine lv_iadd C0.1 C0.2.1 dL_law_534 ?_
  rw [show nI i + 1 = nI (i + 1) from nI_add i 1]
  refine va_sld C0.1 C0.2.1 hXs hbl hbA w.2 (hn_in (by omega) (by omega)) dL_law_535 ?_
  refine lv_aload_n C0.1 C0.2.1 dL_law_536 rfl (lv_at hl 0 rfl) ?_
  refine lv_iload_n C0.1 C0.2.1 dL_law_537 rfl (lv_at hl 3 rfl) ?_
  refine lv_iconst (v := 2) C0.1 C0.2.1 dL_law_538 (by decide) ?_
  refine lv_iadd C0.1 C0.2.1 dL_law_539 ?_
  rw [show nI i + 2 = nI (i + 2) from nI_add i 2]
  refine va_sld C0.1 C0.2.1 hXs hbl hbA w.2 (hn_in (by omega) (by omega)) dL_law_540 ?_
  refine hv_cVl C0 w kl_L_61 kv_X7_worth rfl hM0 (m_X7_worth hm1 hB) (by decide) (by decide) rfl hl.1 rfl (Nat.le_of_ble_eq_true rfl) dL_law_541 ⟨Nat.le_of_ble_eq_true rfl, Nat.le_of_ble_eq_true rfl⟩ (fun x4 V5 Hq lq hp6 w => ?_)
  obtain ⟨ez, hm2, ho2⟩ := hp6
  have hx2 := hx1.fr (V1 := V5) (fun q h1 h2 => ho2 q (Or.inl h2))
  refine hv_lc_eq (tgt := 1317) C0.1 C0.2.1 dL_law_544 dL_law_545 (by decide) (fun c_544 => ?_) (fun c_544 => absurd (ey.trans ez.symm) c_544)
  exact kk _ _ _ _ hx2 hm2 (hB) w

set_option maxHeartbeats 4000000 in
set_option maxRecDepth 100000 in
theorem law_written {p : Program} {l : Launch} {e : Env} {s : State} {m : MethodId} {args : Array Value} {below : List Frame} {meth : Method} {c : Code} {X : hv_X} {V : hv_V} {σ : hs_S} {x b L i : Nat} {xs : Nat → Int32} {Hq : Heap} {lq : List Loc} {ls : Array Slot} {Q : State → Prop} (C0 : hv_C X p s m args c cL_law 4 RL) (hXs : va_X b L xs s s.heap) (hbl : b < s.heap.size) (hbA : ¬ X.2.2.1 b) (hx : okX X V x σ) (hm : okM X V (x + 92) σ) (hB : hs_b σ) (w : hv_w X s V Hq lq) (hl : lv_has ls 4 [(0, .ref b), (1, .ref x), (2, .ref (x + 92)), (3, .int (nI i))]) (hi : i + 6 ≤ L) (hL : L ≤ 3072) (kk : ∀ (σ1 : hs_S) (V1 : hv_V) (Hq : Heap) (lq : List Loc), okX X V1 x σ1 → okM X V1 (x + 92) σ1 → hs_b σ1 → hv_w X s V1 Hq lq → W p l e (hv_rm 2048 600000 7302250) s m args below meth c Hq lq 142 2151 Q (F0 m 1317 ls [])) : W p l e (hv_rm 2048 600000 7302250) s m args below meth c Hq lq 142 2151 Q (F0 m 550 ls []) := by
  obtain ⟨kk0, hX0, -⟩ := id hx
  refine lv_aload_n C0.1 C0.2.1 dL_law_550 rfl (lv_at hl 1 rfl) ?_
  refine lv_aload_n C0.1 C0.2.1 dL_law_551 rfl (lv_at hl 0 rfl) ?_
  refine lv_iload_n C0.1 C0.2.1 dL_law_552 rfl (lv_at hl 3 rfl) ?_
  refine lv_iconst (v := 1) C0.1 C0.2.1 dL_law_553 (by decide) ?_
  refine lv_iadd C0.1 C0.2.1 dL_law_554 ?_
  rw [show nI i + 1 = nI (i + 1) from nI_add i 1]
  refine va_sld C0.1 C0.2.1 hXs hbl hbA w.2 (hn_in (by omega) (by omega)) dL_law_555 ?_
  refine lv_aload_n C0.1 C0.2.1 dL_law_556 rfl (lv_at hl 0 rfl) ?_
  refine lv_iload_n C0.1 C0.2.1 dL_law_557 rfl (lv_at hl 3 rfl) ?_
  refine lv_iconst (v := 2) C0.1 C0.2.1 dL_law_558 (by decide) ?_
  refine lv_iadd C0.1 C0.2.1 dL_law_559 ?_
  rw [show nI i + 2 = nI (i + 2) from nI_add i 2]
  refine va_sld C0.1 C0.2.1 hXs hbl hbA w.2 (hn_in (by omega) (by omega)) dL_law_560 ?_
  refine hv_cVi C0 w kl_L_62 kv_X6_written rfl hX0 (m_X6_written hx hB) (by decide) (by decide) rfl hl.1 rfl (Nat.le_of_ble_eq_true rfl) dL_law_561 ⟨Nat.le_of_ble_eq_true rfl, Nat.le_of_ble_eq_true rfl⟩ (fun x1 V2 Hq lq hp3 w => ?_)
  obtain ⟨ey, hx1, ho1⟩ := hp3
  have hm1 : okM X V2 (x + 92) σ := hm.fr (fun q h1 h2 => ho1 q (Or.inr h1))
  obtain ⟨ab, be, pl, cl, sg, ik, hM0, -⟩ := id hm1
  refine lv_aload_n C0.1 C0.2.1 dL_law_564 rfl (lv_at hl 2 rfl) ?_
  refine lv_aload_n C0.1 C0.2.1 dL_law_565 rfl (lv_at hl 0 rfl) ?_
  refine lv_iload_n C0.1 C0.2.1 dL_law_566 rfl (lv_at hl 3 rfl) ?_
  refine lv_iconst (v := 1) C0.1 C0.2.1 dL_law_567 (by decide) ?_
  refine lv_iadd C0.1 C0.2.1 dL_law_568 ?_
  rw [show nI i + 1 = nI (i + 1) from nI_add i 1]
  refine va_sld C0.1 C0.2.1 hXs hbl hbA w.2 (hn_in (by omega) (by omega)) dL_law_569 ?_
  refine lv_aload_n C0.1 C0.2.1 dL_law_570 rfl (lv_at hl 0 rfl) ?_
  refine lv_iload_n C0.1 C0.2.1 dL_law_571 rfl (lv_at hl 3 rfl) ?_
  refine lv_iconst (v := 2) C0.1 C0.2.1 dL_law_572 (by decide) ?_
  refine lv_iadd C0.1 C0.2.1 dL_law_573 ?_
  rw [show nI i + 2 = nI (i + 2) from nI_add i 2]
  refine va_sld C0.1 C0.2.1 hXs hbl hbA w.2 (hn_in (by omega) (by omega)) dL_law_574 ?_
  refine hv_cVi C0 w kl_L_65 kv_X7_written rfl hM0 (m_X7_written hm1 hB) (by decide) (by decide) rfl hl.1 rfl (Nat.le_of_ble_eq_true rfl) dL_law_575 ⟨Nat.le_of_ble_eq_true rfl, Nat.le_of_ble_eq_true rfl⟩ (fun x4 V5 Hq lq hp6 w => ?_)
  obtain ⟨ez, hm2, ho2⟩ := hp6
  have hx2 := hx1.fr (V1 := V5) (fun q h1 h2 => ho2 q (Or.inl h2))
  refine lv_icmp_eq (tgt := 1317) C0.1 C0.2.1 dL_law_578 (by decide) (fun c_578 => ?_) (fun c_578 => absurd (ey.trans ez.symm) c_578)
  exact kk _ _ _ _ hx2 hm2 (hB) w

set_option maxHeartbeats 4000000 in
set_option maxRecDepth 100000 in
theorem law_greater {p : Program} {l : Launch} {e : Env} {s : State} {m : MethodId} {args : Array Value} {below : List Frame} {meth : Method} {c : Code} {X : hv_X} {V : hv_V} {σ : hs_S} {x b L i : Nat} {xs : Nat → Int32} {Hq : Heap} {lq : List Loc} {ls : Array Slot} {Q : State → Prop} (C0 : hv_C X p s m args c cL_law 4 RL) (hXs : va_X b L xs s s.heap) (hbl : b < s.heap.size) (hbA : ¬ X.2.2.1 b) (hx : okX X V x σ) (hm : okM X V (x + 92) σ) (hB : hs_b σ) (w : hv_w X s V Hq lq) (hl : lv_has ls 4 [(0, .ref b), (1, .ref x), (2, .ref (x + 92)), (3, .int (nI i))]) (hi : i + 6 ≤ L) (hL : L ≤ 3072) (kk : ∀ (σ1 : hs_S) (V1 : hv_V) (Hq : Heap) (lq : List Loc), okX X V1 x σ1 → okM X V1 (x + 92) σ1 → hs_b σ1 → hv_w X s V1 Hq lq → W p l e (hv_rm 2048 600000 7302250) s m args below meth c Hq lq 142 2151 Q (F0 m 1317 ls [])) : W p l e (hv_rm 2048 600000 7302250) s m args below meth c Hq lq 142 2151 Q (F0 m 583 ls []) := by
  obtain ⟨kk0, hX0, -⟩ := id hx
  refine lv_aload_n C0.1 C0.2.1 dL_law_583 rfl (lv_at hl 1 rfl) ?_
  refine lv_aload_n C0.1 C0.2.1 dL_law_584 rfl (lv_at hl 0 rfl) ?_
  refine lv_iload_n C0.1 C0.2.1 dL_law_585 rfl (lv_at hl 3 rfl) ?_
  refine lv_iconst (v := 1) C0.1 C0.2.1 dL_law_586 (by decide) ?_
  refine lv_iadd C0.1 C0.2.1 dL_law_587 ?_
  rw [show nI i + 1 = nI (i + 1) from nI_add i 1]
  refine va_sld C0.1 C0.2.1 hXs hbl hbA w.2 (hn_in (by omega) (by omega)) dL_law_588 ?_
  refine lv_aload_n C0.1 C0.2.1 dL_law_589 rfl (lv_at hl 0 rfl) ?_
  refine lv_iload_n C0.1 C0.2.1 dL_law_590 rfl (lv_at hl 3 rfl) ?_
  refine lv_iconst (v := 2) C0.1 C0.2.1 dL_law_591 (by decide) ?_
  refine lv_iadd C0.1 C0.2.1 dL_law_592 ?_
  rw [show nI i + 2 = nI (i + 2) from nI_add i 2]
  refine va_sld C0.1 C0.2.1 hXs hbl hbA w.2 (hn_in (by omega) (by omega)) dL_law_593 ?_
  refine hv_cVi C0 w kl_L_66 kv_X6_greater rfl hX0 (m_X6_greater hx hB) (by decide) (by decide) rfl hl.1 rfl (Nat.le_of_ble_eq_true rfl) dL_law_594 ⟨Nat.le_of_ble_eq_true rfl, Nat.le_of_ble_eq_true rfl⟩ (fun x1 V2 Hq lq hp3 w => ?_)
  obtain ⟨ey, hx1, ho1⟩ := hp3
  have hm1 : okM X V2 (x + 92) σ := hm.fr (fun q h1 h2 => ho1 q (Or.inr h1))
  obtain ⟨ab, be, pl, cl, sg, ik, hM0, -⟩ := id hm1
  refine lv_aload_n C0.1 C0.2.1 dL_law_597 rfl (lv_at hl 2 rfl) ?_
  refine lv_aload_n C0.1 C0.2.1 dL_law_598 rfl (lv_at hl 0 rfl) ?_
  refine lv_iload_n C0.1 C0.2.1 dL_law_599 rfl (lv_at hl 3 rfl) ?_
  refine lv_iconst (v := 1) C0.1 C0.2.1 dL_law_600 (by decide) ?_
  refine lv_iadd C0.1 C0.2.1 dL_law_601 ?_
  rw [show nI i + 1 = nI (i + 1) from nI_add i 1]
  refine va_sld C0.1 C0.2.1 hXs hbl hbA w.2 (hn_in (by omega) (by omega)) dL_law_602 ?_
  refine lv_aload_n C0.1 C0.2.1 dL_law_603 rfl (lv_at hl 0 rfl) ?_
  refine lv_iload_n C0.1 C0.2.1 dL_law_604 rfl (lv_at hl 3 rfl) ?_
  refine lv_iconst (v := 2) C0.1 C0.2.1 dL_law_605 (by decide) ?_
  refine lv_iadd C0.1 C0.2.1 dL_law_606 ?_
  rw [show nI i + 2 = nI (i + 2) from nI_add i 2]
  refine va_sld C0.1 C0.2.1 hXs hbl hbA w.2 (hn_in (by omega) (by omega)) dL_law_607 ?_
  refine hv_cVi C0 w kl_L_69 kv_X7_greater rfl hM0 (m_X7_greater hm1 hB) (by decide) (by decide) rfl hl.1 rfl (Nat.le_of_ble_eq_true rfl) dL_law_608 ⟨Nat.le_of_ble_eq_true rfl, Nat.le_of_ble_eq_true rfl⟩ (fun x4 V5 Hq lq hp6 w => ?_)
  obtain ⟨ez, hm2, ho2⟩ := hp6
  have hx2 := hx1.fr (V1 := V5) (fun q h1 h2 => ho2 q (Or.inl h2))
  refine lv_icmp_eq (tgt := 1317) C0.1 C0.2.1 dL_law_611 (by decide) (fun c_611 => ?_) (fun c_611 => absurd (ey.trans ez.symm) c_611)
  exact kk _ _ _ _ hx2 hm2 (hB) w

set_option maxHeartbeats 4000000 in
set_option maxRecDepth 100000 in
theorem law_worthier {p : Program} {l : Launch} {e : Env} {s : State} {m : MethodId} {args : Array Value} {below : List Frame} {meth : Method} {c : Code} {X : hv_X} {V : hv_V} {σ : hs_S} {x b L i : Nat} {xs : Nat → Int32} {Hq : Heap} {lq : List Loc} {ls : Array Slot} {Q : State → Prop} (C0 : hv_C X p s m args c cL_law 4 RL) (hXs : va_X b L xs s s.heap) (hbl : b < s.heap.size) (hbA : ¬ X.2.2.1 b) (hx : okX X V x σ) (hm : okM X V (x + 92) σ) (hB : hs_b σ) (w : hv_w X s V Hq lq) (hl : lv_has ls 4 [(0, .ref b), (1, .ref x), (2, .ref (x + 92)), (3, .int (nI i))]) (hi : i + 6 ≤ L) (hL : L ≤ 3072) (kk : ∀ (σ1 : hs_S) (V1 : hv_V) (Hq : Heap) (lq : List Loc), okX X V1 x σ1 → okM X V1 (x + 92) σ1 → hs_b σ1 → hv_w X s V1 Hq lq → W p l e (hv_rm 2048 600000 7302250) s m args below meth c Hq lq 142 2151 Q (F0 m 1317 ls [])) : W p l e (hv_rm 2048 600000 7302250) s m args below meth c Hq lq 142 2151 Q (F0 m 616 ls []) := by
  obtain ⟨kk0, hX0, -⟩ := id hx
  refine lv_aload_n C0.1 C0.2.1 dL_law_616 rfl (lv_at hl 1 rfl) ?_
  refine lv_aload_n C0.1 C0.2.1 dL_law_617 rfl (lv_at hl 0 rfl) ?_
  refine lv_iload_n C0.1 C0.2.1 dL_law_618 rfl (lv_at hl 3 rfl) ?_
  refine lv_iconst (v := 1) C0.1 C0.2.1 dL_law_619 (by decide) ?_
  refine lv_iadd C0.1 C0.2.1 dL_law_620 ?_
  rw [show nI i + 1 = nI (i + 1) from nI_add i 1]
  refine va_sld C0.1 C0.2.1 hXs hbl hbA w.2 (hn_in (by omega) (by omega)) dL_law_621 ?_
  refine lv_aload_n C0.1 C0.2.1 dL_law_622 rfl (lv_at hl 0 rfl) ?_
  refine lv_iload_n C0.1 C0.2.1 dL_law_623 rfl (lv_at hl 3 rfl) ?_
  refine lv_iconst (v := 2) C0.1 C0.2.1 dL_law_624 (by decide) ?_
  refine lv_iadd C0.1 C0.2.1 dL_law_625 ?_
  rw [show nI i + 2 = nI (i + 2) from nI_add i 2]
  refine va_sld C0.1 C0.2.1 hXs hbl hbA w.2 (hn_in (by omega) (by omega)) dL_law_626 ?_
  refine hv_cVi C0 w kl_L_70 kv_X6_worthier rfl hX0 (m_X6_worthier hx hB) (by decide) (by decide) rfl hl.1 rfl (Nat.le_of_ble_eq_true rfl) dL_law_627 ⟨Nat.le_of_ble_eq_true rfl, Nat.le_of_ble_eq_true rfl⟩ (fun x1 V2 Hq lq hp3 w => ?_)
  obtain ⟨ey, hx1, ho1⟩ := hp3
  have hm1 : okM X V2 (x + 92) σ := hm.fr (fun q h1 h2 => ho1 q (Or.inr h1))
  obtain ⟨ab, be, pl, cl, sg, ik, hM0, -⟩ := id hm1
  refine lv_aload_n C0.1 C0.2.1 dL_law_630 rfl (lv_at hl 2 rfl) ?_
  refine lv_aload_n C0.1 C0.2.1 dL_law_631 rfl (lv_at hl 0 rfl) ?_
  refine lv_iload_n C0.1 C0.2.1 dL_law_632 rfl (lv_at hl 3 rfl) ?_
  refine lv_iconst (v := 1) C0.1 C0.2.1 dL_law_633 (by decide) ?_
  refine lv_iadd C0.1 C0.2.1 dL_law_634 ?_
  rw [show nI i + 1 = nI (i + 1) from nI_add i 1]
  refine va_sld C0.1 C0.2.1 hXs hbl hbA w.2 (hn_in (by omega) (by omega)) dL_law_635 ?_
  refine lv_aload_n C0.1 C0.2.1 dL_law_636 rfl (lv_at hl 0 rfl) ?_
  refine lv_iload_n C0.1 C0.2.1 dL_law_637 rfl (lv_at hl 3 rfl) ?_
  refine lv_iconst (v := 2) C0.1 C0.2.1 dL_law_638 (by decide) ?_
  refine lv_iadd C0.1 C0.2.1 dL_law_639 ?_
  rw [show nI i + 2 = nI (i + 2) from nI_add i 2]
  refine va_sld C0.1 C0.2.1 hXs hbl hbA w.2 (hn_in (by omega) (by omega)) dL_law_640 ?_
  refine hv_cVi C0 w kl_L_73 kv_X7_worthier rfl hM0 (m_X7_worthier hm1 hB) (by decide) (by decide) rfl hl.1 rfl (Nat.le_of_ble_eq_true rfl) dL_law_641 ⟨Nat.le_of_ble_eq_true rfl, Nat.le_of_ble_eq_true rfl⟩ (fun x4 V5 Hq lq hp6 w => ?_)
  obtain ⟨ez, hm2, ho2⟩ := hp6
  have hx2 := hx1.fr (V1 := V5) (fun q h1 h2 => ho2 q (Or.inl h2))
  refine lv_icmp_eq (tgt := 1317) C0.1 C0.2.1 dL_law_644 (by decide) (fun c_644 => ?_) (fun c_644 => absurd (ey.trans ez.symm) c_644)
  exact kk _ _ _ _ hx2 hm2 (hB) w

set_option maxHeartbeats 4000000 in
set_option maxRecDepth 100000 in
theorem law_beginning {p : Program} {l : Launch} {e : Env} {s : State} {m : MethodId} {args : Array Value} {below : List Frame} {meth : Method} {c : Code} {X : hv_X} {V : hv_V} {σ : hs_S} {x b L i : Nat} {xs : Nat → Int32} {Hq : Heap} {lq : List Loc} {ls : Array Slot} {Q : State → Prop} (C0 : hv_C X p s m args c cL_law 4 RL) (hXs : va_X b L xs s s.heap) (hbl : b < s.heap.size) (hbA : ¬ X.2.2.1 b) (hx : okX X V x σ) (hm : okM X V (x + 92) σ) (hB : hs_b σ) (w : hv_w X s V Hq lq) (hl : lv_has ls 4 [(0, .ref b), (1, .ref x), (2, .ref (x + 92)), (3, .int (nI i))]) (hi : i + 6 ≤ L) (hL : L ≤ 3072) (kk : ∀ (σ1 : hs_S) (V1 : hv_V) (Hq : Heap) (lq : List Loc), okX X V1 x σ1 → okM X V1 (x + 92) σ1 → hs_b σ1 → hv_w X s V1 Hq lq → W p l e (hv_rm 2048 600000 7302250) s m args below meth c Hq lq 142 2151 Q (F0 m 1317 ls [])) : W p l e (hv_rm 2048 600000 7302250) s m args below meth c Hq lq 142 2151 Q (F0 m 649 ls []) := by
  obtain ⟨kk0, hX0, -⟩ := id hx
  refine lv_aload_n C0.1 C0.2.1 dL_law_649 rfl (lv_at hl 1 rfl) ?_
  refine lv_aload_n C0.1 C0.2.1 dL_law_650 rfl (lv_at hl 0 rfl) ?_
  refine lv_iload_n C0.1 C0.2.1 dL_law_651 rfl (lv_at hl 3 rfl) ?_
  refine lv_iconst (v := 1) C0.1 C0.2.1 dL_law_652 (by decide) ?_
  refine lv_iadd C0.1 C0.2.1 dL_law_653 ?_
  rw [show nI i + 1 = nI (i + 1) from nI_add i 1]
  refine va_sld C0.1 C0.2.1 hXs hbl hbA w.2 (hn_in (by omega) (by omega)) dL_law_654 ?_
  refine lv_aload_n C0.1 C0.2.1 dL_law_655 rfl (lv_at hl 0 rfl) ?_
  refine lv_iload_n C0.1 C0.2.1 dL_law_656 rfl (lv_at hl 3 rfl) ?_
  refine lv_iconst (v := 2) C0.1 C0.2.1 dL_law_657 (by decide) ?_
  refine lv_iadd C0.1 C0.2.1 dL_law_658 ?_
  rw [show nI i + 2 = nI (i + 2) from nI_add i 2]
  refine va_sld C0.1 C0.2.1 hXs hbl hbA w.2 (hn_in (by omega) (by omega)) dL_law_659 ?_
  refine lv_aload_n C0.1 C0.2.1 dL_law_660 rfl (lv_at hl 0 rfl) ?_
  refine lv_iload_n C0.1 C0.2.1 dL_law_661 rfl (lv_at hl 3 rfl) ?_
  refine lv_iconst (v := 3) C0.1 C0.2.1 dL_law_662 (by decide) ?_
  refine lv_iadd C0.1 C0.2.1 dL_law_663 ?_
  rw [show nI i + 3 = nI (i + 3) from nI_add i 3]
  refine va_sld C0.1 C0.2.1 hXs hbl hbA w.2 (hn_in (by omega) (by omega)) dL_law_664 ?_
  refine lv_aload_n C0.1 C0.2.1 dL_law_665 rfl (lv_at hl 0 rfl) ?_
  refine lv_iload_n C0.1 C0.2.1 dL_law_666 rfl (lv_at hl 3 rfl) ?_
  refine lv_iconst (v := 4) C0.1 C0.2.1 dL_law_667 (by decide) ?_
  refine lv_iadd C0.1 C0.2.1 dL_law_668 ?_
  rw [show nI i + 4 = nI (i + 4) from nI_add i 4]
  refine va_sld C0.1 C0.2.1 hXs hbl hbA w.2 (hn_in (by omega) (by omega)) dL_law_669 ?_
  refine hv_cVl C0 w kl_L_74 kv_X6_beginning rfl hX0 (m_X6_beginning hx hB) (by decide) (by decide) rfl hl.1 rfl (Nat.le_of_ble_eq_true rfl) dL_law_670 ⟨Nat.le_of_ble_eq_true rfl, Nat.le_of_ble_eq_true rfl⟩ (fun x1 V2 Hq lq hp3 w => ?_)
  obtain ⟨ey, hx1, ho1⟩ := hp3
  have hm1 : okM X V2 (x + 92) σ := hm.fr (fun q h1 h2 => ho1 q (Or.inr h1))
  obtain ⟨ab, be, pl, cl, sg, ik, hM0, -⟩ := id hm1
  refine lv_aload_n C0.1 C0.2.1 dL_law_673 rfl (lv_at hl 2 rfl) ?_
  refine lv_aload_n C0.1 C0.2.1 dL_law_674 rfl (lv_at hl 0 rfl) ?_
  refine lv_iload_n C0.1 C0.2.1 dL_law_675 rfl (lv_at hl 3 rfl) ?_
  refine lv_iconst (v := 1) C0.1 C0.2.1 dL_law_676 (by decide) ?_
  refine lv_iadd C0.1 C0.2.1 dL_law_677 ?_
  rw [show nI i + 1 = nI (i + 1) from nI_add i 1]
  refine va_sld C0.1 C0.2.1 hXs hbl hbA w.2 (hn_in (by omega) (by omega)) dL_law_678 ?_
  refine lv_aload_n C0.1 C0.2.1 dL_law_679 rfl (lv_at hl 0 rfl) ?_
  refine lv_iload_n C0.1 C0.2.1 dL_law_680 rfl (lv_at hl 3 rfl) ?_
  refine lv_iconst (v := 2) C0.1 C0.2.1 dL_law_681 (by decide) ?_
  refine lv_iadd C0.1 C0.2.1 dL_law_682 ?_
  rw [show nI i + 2 = nI (i + 2) from nI_add i 2]
  refine va_sld C0.1 C0.2.1 hXs hbl hbA w.2 (hn_in (by omega) (by omega)) dL_law_683 ?_
  refine lv_aload_n C0.1 C0.2.1 dL_law_684 rfl (lv_at hl 0 rfl) ?_
  refine lv_iload_n C0.1 C0.2.1 dL_law_685 rfl (lv_at hl 3 rfl) ?_
  refine lv_iconst (v := 3) C0.1 C0.2.1 dL_law_686 (by decide) ?_
  refine lv_iadd C0.1 C0.2.1 dL_law_687 ?_
  rw [show nI i + 3 = nI (i + 3) from nI_add i 3]
  refine va_sld C0.1 C0.2.1 hXs hbl hbA w.2 (hn_in (by omega) (by omega)) dL_law_688 ?_
  refine lv_aload_n C0.1 C0.2.1 dL_law_689 rfl (lv_at hl 0 rfl) ?_
  refine lv_iload_n C0.1 C0.2.1 dL_law_690 rfl (lv_at hl 3 rfl) ?_
  refine lv_iconst (v := 4) C0.1 C0.2.1 dL_law_691 (by decide) ?_
  refine lv_iadd C0.1 C0.2.1 dL_law_692 ?_
  rw [show nI i + 4 = nI (i + 4) from nI_add i 4]
  refine va_sld C0.1 C0.2.1 hXs hbl hbA w.2 (hn_in (by omega) (by omega)) dL_law_693 ?_
  refine hv_cVl C0 w kl_L_78 kv_X7_beginning rfl hM0 (m_X7_beginning hm1 hB) (by decide) (by decide) rfl hl.1 rfl (Nat.le_of_ble_eq_true rfl) dL_law_694 ⟨Nat.le_of_ble_eq_true rfl, Nat.le_of_ble_eq_true rfl⟩ (fun x4 V5 Hq lq hp6 w => ?_)
  obtain ⟨ez, hm2, ho2⟩ := hp6
  have hx2 := hx1.fr (V1 := V5) (fun q h1 h2 => ho2 q (Or.inl h2))
  refine hv_lc_eq (tgt := 1317) C0.1 C0.2.1 dL_law_697 dL_law_698 (by decide) (fun c_697 => ?_) (fun c_697 => absurd (ey.trans ez.symm) c_697)
  exact kk _ _ _ _ hx2 hm2 (hB) w

set_option maxHeartbeats 4000000 in
set_option maxRecDepth 100000 in
theorem law_units {p : Program} {l : Launch} {e : Env} {s : State} {m : MethodId} {args : Array Value} {below : List Frame} {meth : Method} {c : Code} {X : hv_X} {V : hv_V} {σ : hs_S} {x b L i : Nat} {xs : Nat → Int32} {Hq : Heap} {lq : List Loc} {ls : Array Slot} {Q : State → Prop} (C0 : hv_C X p s m args c cL_law 4 RL) (hXs : va_X b L xs s s.heap) (hbl : b < s.heap.size) (hbA : ¬ X.2.2.1 b) (hx : okX X V x σ) (hm : okM X V (x + 92) σ) (hB : hs_b σ) (w : hv_w X s V Hq lq) (hl : lv_has ls 4 [(0, .ref b), (1, .ref x), (2, .ref (x + 92)), (3, .int (nI i))]) (hi : i + 6 ≤ L) (hL : L ≤ 3072) (kk : ∀ (σ1 : hs_S) (V1 : hv_V) (Hq : Heap) (lq : List Loc), okX X V1 x σ1 → okM X V1 (x + 92) σ1 → hs_b σ1 → hv_w X s V1 Hq lq → W p l e (hv_rm 2048 600000 7302250) s m args below meth c Hq lq 142 2151 Q (F0 m 1317 ls [])) : W p l e (hv_rm 2048 600000 7302250) s m args below meth c Hq lq 142 2151 Q (F0 m 703 ls []) := by
  obtain ⟨kk0, hX0, -⟩ := id hx
  refine lv_aload_n C0.1 C0.2.1 dL_law_703 rfl (lv_at hl 1 rfl) ?_
  refine lv_aload_n C0.1 C0.2.1 dL_law_704 rfl (lv_at hl 0 rfl) ?_
  refine lv_iload_n C0.1 C0.2.1 dL_law_705 rfl (lv_at hl 3 rfl) ?_
  refine lv_iconst (v := 1) C0.1 C0.2.1 dL_law_706 (by decide) ?_
  refine lv_iadd C0.1 C0.2.1 dL_law_707 ?_
  rw [show nI i + 1 = nI (i + 1) from nI_add i 1]
  refine va_sld C0.1 C0.2.1 hXs hbl hbA w.2 (hn_in (by omega) (by omega)) dL_law_708 ?_
  refine lv_aload_n C0.1 C0.2.1 dL_law_709 rfl (lv_at hl 0 rfl) ?_
  refine lv_iload_n C0.1 C0.2.1 dL_law_710 rfl (lv_at hl 3 rfl) ?_
  refine lv_iconst (v := 2) C0.1 C0.2.1 dL_law_711 (by decide) ?_
  refine lv_iadd C0.1 C0.2.1 dL_law_712 ?_
  rw [show nI i + 2 = nI (i + 2) from nI_add i 2]
  refine va_sld C0.1 C0.2.1 hXs hbl hbA w.2 (hn_in (by omega) (by omega)) dL_law_713 ?_
  refine lv_aload_n C0.1 C0.2.1 dL_law_714 rfl (lv_at hl 0 rfl) ?_
  refine lv_iload_n C0.1 C0.2.1 dL_law_715 rfl (lv_at hl 3 rfl) ?_
  refine lv_iconst (v := 3) C0.1 C0.2.1 dL_law_716 (by decide) ?_
  refine lv_iadd C0.1 C0.2.1 dL_law_717 ?_
  rw [show nI i + 3 = nI (i + 3) from nI_add i 3]
  refine va_sld C0.1 C0.2.1 hXs hbl hbA w.2 (hn_in (by omega) (by omega)) dL_law_718 ?_
  refine hv_cVi C0 w kl_L_79 kv_X6_units rfl hX0 (m_X6_units hx hB) (by decide) (by decide) rfl hl.1 rfl (Nat.le_of_ble_eq_true rfl) dL_law_719 ⟨Nat.le_of_ble_eq_true rfl, Nat.le_of_ble_eq_true rfl⟩ (fun x1 V2 Hq lq hp3 w => ?_)
  obtain ⟨ey, hx1, ho1⟩ := hp3
  have hm1 : okM X V2 (x + 92) σ := hm.fr (fun q h1 h2 => ho1 q (Or.inr h1))
  obtain ⟨ab, be, pl, cl, sg, ik, hM0, -⟩ := id hm1
  refine lv_aload_n C0.1 C0.2.1 dL_law_722 rfl (lv_at hl 2 rfl) ?_
  refine lv_aload_n C0.1 C0.2.1 dL_law_723 rfl (lv_at hl 0 rfl) ?_
  refine lv_iload_n C0.1 C0.2.1 dL_law_724 rfl (lv_at hl 3 rfl) ?_
  refine lv_iconst (v := 1) C0.1 C0.2.1 dL_law_725 (by decide) ?_
  refine lv_iadd C0.1 C0.2.1 dL_law_726 ?_
  rw [show nI i + 1 = nI (i + 1) from nI_add i 1]
  refine va_sld C0.1 C0.2.1 hXs hbl hbA w.2 (hn_in (by omega) (by omega)) dL_law_727 ?_
  refine lv_aload_n C0.1 C0.2.1 dL_law_728 rfl (lv_at hl 0 rfl) ?_
  refine lv_iload_n C0.1 C0.2.1 dL_law_729 rfl (lv_at hl 3 rfl) ?_
  refine lv_iconst (v := 2) C0.1 C0.2.1 dL_law_730 (by decide) ?_
  refine lv_iadd C0.1 C0.2.1 dL_law_731 ?_
  rw [show nI i + 2 = nI (i + 2) from nI_add i 2]
  refine va_sld C0.1 C0.2.1 hXs hbl hbA w.2 (hn_in (by omega) (by omega)) dL_law_732 ?_
  refine lv_aload_n C0.1 C0.2.1 dL_law_733 rfl (lv_at hl 0 rfl) ?_
  refine lv_iload_n C0.1 C0.2.1 dL_law_734 rfl (lv_at hl 3 rfl) ?_
  refine lv_iconst (v := 3) C0.1 C0.2.1 dL_law_735 (by decide) ?_
  refine lv_iadd C0.1 C0.2.1 dL_law_736 ?_
  rw [show nI i + 3 = nI (i + 3) from nI_add i 3]
  refine va_sld C0.1 C0.2.1 hXs hbl hbA w.2 (hn_in (by omega) (by omega)) dL_law_737 ?_
  refine hv_cVi C0 w kl_L_83 kv_X7_units rfl hM0 (m_X7_units hm1 hB) (by decide) (by decide) rfl hl.1 rfl (Nat.le_of_ble_eq_true rfl) dL_law_738 ⟨Nat.le_of_ble_eq_true rfl, Nat.le_of_ble_eq_true rfl⟩ (fun x4 V5 Hq lq hp6 w => ?_)
  obtain ⟨ez, hm2, ho2⟩ := hp6
  have hx2 := hx1.fr (V1 := V5) (fun q h1 h2 => ho2 q (Or.inl h2))
  refine lv_icmp_eq (tgt := 1317) C0.1 C0.2.1 dL_law_741 (by decide) (fun c_741 => ?_) (fun c_741 => absurd (ey.trans ez.symm) c_741)
  exact kk _ _ _ _ hx2 hm2 (hB) w

