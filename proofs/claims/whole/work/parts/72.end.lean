theorem m0_end {X : hv_X} {V8 : hv_V} {o : Nat} (h0 : V8 o = some (.inr (7, [.ref (o + 1 + 0), .ref (o + 1 + 1), .ref (o + 1 + 2), .long 0, .long 0, .ref (o + 1 + 9), .int 0, .int 0, .int 0, .ref (o + 1 + 10), .ref (o + 1 + 11), .ref (o + 1 + 12), .int 0, .ref (o + 1 + 13), .ref (o + 1 + 14), .ref (o + 1 + 15), .ref (o + 1 + 16), .int 0, .ref (o + 1 + 17), .ref (o + 1 + 18), .int 0, .ref (o + 1 + 19), .ref (o + 1 + 20), .ref (o + 1 + 21), .int 0, .int 0, .ref (o + 1 + 22), .ref (o + 1 + 23), .ref (o + 1 + 24), .ref (o + 1 + 25), .ref (o + 1 + 32), .ref (o + 1 + 40), .ref (o + 1 + 41), .ref (o + 1 + 42)]))) (h41 : V8 (o + 41) = some (iE X 6 (hw_so 6))) (g9 : ∀ j, j < 49 → j ≠ 40 → V8 (o + 1 + j) = some (m0_g X o j)) : okM X V8 o hs_0 := by
  have k1 : V8 (o + 1) = some (iE X 6 (fun _ => 0)) := by have h9 := g9 0 (by decide) (by decide); rw [m0_e0] at h9; exact h9
  have k2 : V8 (o + 2) = some (iE X 6 (fun _ => 0)) := by have h9 := g9 1 (by decide) (by decide); rw [m0_e1] at h9; exact h9
  have k3 : V8 (o + 3) = some (qE X 6 6 (hw_r (o + 1 + 2) 6)) := by have h9 := g9 2 (by decide) (by decide); rw [m0_e2] at h9; exact h9
  have k4 : V8 (o + 4) = some (iE X 16 (fun _ => 0)) := by have h9 := g9 3 (by decide) (by decide); rw [m0_e3] at h9; exact h9
  have k5 : V8 (o + 5) = some (iE X 16 (fun _ => 0)) := by have h9 := g9 4 (by decide) (by decide); rw [m0_e4] at h9; exact h9
  have k6 : V8 (o + 6) = some (iE X 16 (fun _ => 0)) := by have h9 := g9 5 (by decide) (by decide); rw [m0_e5] at h9; exact h9
  have k7 : V8 (o + 7) = some (iE X 16 (fun _ => 0)) := by have h9 := g9 6 (by decide) (by decide); rw [m0_e6] at h9; exact h9
  have k8 : V8 (o + 8) = some (iE X 16 (fun _ => 0)) := by have h9 := g9 7 (by decide) (by decide); rw [m0_e7] at h9; exact h9
  have k9 : V8 (o + 9) = some (iE X 16 (fun _ => 0)) := by have h9 := g9 8 (by decide) (by decide); rw [m0_e8] at h9; exact h9
  have k10 : V8 (o + 10) = some (bE X 100 (fun _ => 0)) := by have h9 := g9 9 (by decide) (by decide); rw [m0_e9] at h9; exact h9
  have k11 : V8 (o + 11) = some (iE X 12 (fun _ => 0)) := by have h9 := g9 10 (by decide) (by decide); rw [m0_e10] at h9; exact h9
  have k12 : V8 (o + 12) = some (iE X 48 (fun _ => 0)) := by have h9 := g9 11 (by decide) (by decide); rw [m0_e11] at h9; exact h9
  have k13 : V8 (o + 13) = some (bE X 178 (fun _ => 0)) := by have h9 := g9 12 (by decide) (by decide); rw [m0_e12] at h9; exact h9
  have k14 : V8 (o + 14) = some (iE X 3 (fun _ => 0)) := by have h9 := g9 13 (by decide) (by decide); rw [m0_e13] at h9; exact h9
  have k15 : V8 (o + 15) = some (iE X 4 (fun _ => 0)) := by have h9 := g9 14 (by decide) (by decide); rw [m0_e14] at h9; exact h9
  have k16 : V8 (o + 16) = some (iE X 4 (fun _ => 0)) := by have h9 := g9 15 (by decide) (by decide); rw [m0_e15] at h9; exact h9
  have k17 : V8 (o + 17) = some (iE X 4 (fun _ => 0)) := by have h9 := g9 16 (by decide) (by decide); rw [m0_e16] at h9; exact h9
  have k18 : V8 (o + 18) = some (iE X 8 (fun _ => 0)) := by have h9 := g9 17 (by decide) (by decide); rw [m0_e17] at h9; exact h9
  have k19 : V8 (o + 19) = some (iE X 8 (fun _ => 0)) := by have h9 := g9 18 (by decide) (by decide); rw [m0_e18] at h9; exact h9
  have k20 : V8 (o + 20) = some (iE X 16 (fun _ => 0)) := by have h9 := g9 19 (by decide) (by decide); rw [m0_e19] at h9; exact h9
  have k21 : V8 (o + 21) = some (iE X 8 (fun _ => 0)) := by have h9 := g9 20 (by decide) (by decide); rw [m0_e20] at h9; exact h9
  have k22 : V8 (o + 22) = some (iE X 8 (fun _ => 0)) := by have h9 := g9 21 (by decide) (by decide); rw [m0_e21] at h9; exact h9
  have k23 : V8 (o + 23) = some (iE X 3 (fun _ => 0)) := by have h9 := g9 22 (by decide) (by decide); rw [m0_e22] at h9; exact h9
  have k24 : V8 (o + 24) = some (iE X 6 (fun _ => 0)) := by have h9 := g9 23 (by decide) (by decide); rw [m0_e23] at h9; exact h9
  have k25 : V8 (o + 25) = some (iE X 6 (fun _ => 0)) := by have h9 := g9 24 (by decide) (by decide); rw [m0_e24] at h9; exact h9
  have k26 : V8 (o + 26) = some (qE X 6 6 (hw_r (o + 1 + 25) 6)) := by have h9 := g9 25 (by decide) (by decide); rw [m0_e25] at h9; exact h9
  have k27 : V8 (o + 27) = some (iE X 16 (fun _ => 0)) := by have h9 := g9 26 (by decide) (by decide); rw [m0_e26] at h9; exact h9
  have k28 : V8 (o + 28) = some (iE X 16 (fun _ => 0)) := by have h9 := g9 27 (by decide) (by decide); rw [m0_e27] at h9; exact h9
  have k29 : V8 (o + 29) = some (iE X 16 (fun _ => 0)) := by have h9 := g9 28 (by decide) (by decide); rw [m0_e28] at h9; exact h9
  have k30 : V8 (o + 30) = some (iE X 16 (fun _ => 0)) := by have h9 := g9 29 (by decide) (by decide); rw [m0_e29] at h9; exact h9
  have k31 : V8 (o + 31) = some (iE X 16 (fun _ => 0)) := by have h9 := g9 30 (by decide) (by decide); rw [m0_e30] at h9; exact h9
  have k32 : V8 (o + 32) = some (iE X 16 (fun _ => 0)) := by have h9 := g9 31 (by decide) (by decide); rw [m0_e31] at h9; exact h9
  have k33 : V8 (o + 33) = some (qE X 6 7 (hw_r (o + 1 + 32) 7)) := by have h9 := g9 32 (by decide) (by decide); rw [m0_e32] at h9; exact h9
  have k34 : V8 (o + 34) = some (iE X 8 (fun _ => 0)) := by have h9 := g9 33 (by decide) (by decide); rw [m0_e33] at h9; exact h9
  have k35 : V8 (o + 35) = some (iE X 8 (fun _ => 0)) := by have h9 := g9 34 (by decide) (by decide); rw [m0_e34] at h9; exact h9
  have k36 : V8 (o + 36) = some (iE X 8 (fun _ => 0)) := by have h9 := g9 35 (by decide) (by decide); rw [m0_e35] at h9; exact h9
  have k37 : V8 (o + 37) = some (iE X 8 (fun _ => 0)) := by have h9 := g9 36 (by decide) (by decide); rw [m0_e36] at h9; exact h9
  have k38 : V8 (o + 38) = some (iE X 8 (fun _ => 0)) := by have h9 := g9 37 (by decide) (by decide); rw [m0_e37] at h9; exact h9
  have k39 : V8 (o + 39) = some (iE X 8 (fun _ => 0)) := by have h9 := g9 38 (by decide) (by decide); rw [m0_e38] at h9; exact h9
  have k40 : V8 (o + 40) = some (iE X 8 (fun _ => 0)) := by have h9 := g9 39 (by decide) (by decide); rw [m0_e39] at h9; exact h9
  have k42 : V8 (o + 42) = some (iE X 6 (fun _ => 0)) := by have h9 := g9 41 (by decide) (by decide); rw [m0_e41] at h9; exact h9
  have k43 : V8 (o + 43) = some (qE X 7 6 (hw_r (o + 1 + 42) 6)) := by have h9 := g9 42 (by decide) (by decide); rw [m0_e42] at h9; exact h9
  have k44 : V8 (o + 44) = some (jE X (fun _ => 0)) := by have h9 := g9 43 (by decide) (by decide); rw [m0_e43] at h9; exact h9
  have k45 : V8 (o + 45) = some (jE X (fun _ => 0)) := by have h9 := g9 44 (by decide) (by decide); rw [m0_e44] at h9; exact h9
  have k46 : V8 (o + 46) = some (jE X (fun _ => 0)) := by have h9 := g9 45 (by decide) (by decide); rw [m0_e45] at h9; exact h9
  have k47 : V8 (o + 47) = some (jE X (fun _ => 0)) := by have h9 := g9 46 (by decide) (by decide); rw [m0_e46] at h9; exact h9
  have k48 : V8 (o + 48) = some (jE X (fun _ => 0)) := by have h9 := g9 47 (by decide) (by decide); rw [m0_e47] at h9; exact h9
  have k49 : V8 (o + 49) = some (jE X (fun _ => 0)) := by have h9 := g9 48 (by decide) (by decide); rw [m0_e48] at h9; exact h9
  have rws9 : om_rows X V8 o hs_0.1.1 := ⟨k1, k2, ⟨_, k3, fun j hj => if_pos hj⟩, (fun j hj => by rcases m0_6 j hj with rfl | rfl | rfl | rfl | rfl | rfl <;> first | exact k4 | exact k5 | exact k6 | exact k7 | exact k8 | exact k9)⟩
  have scr9 : om_scr X V8 o := ⟨⟨_, k11⟩, ⟨_, k12⟩, ⟨_, k13⟩, ⟨_, k14⟩, _, k20⟩
  have seen9 : om_seen X V8 o hs_0.1.2.1 := ⟨_, _, _, k15, k16, k17, fun j hj => absurd hj (Nat.not_lt_zero j)⟩
  have t19 : om_two X V8 (o + 18) (o + 19) hs_0.1.2.2.1 := ⟨_, _, k18, k19, fun j hj => absurd hj (Nat.not_lt_zero j)⟩
  have t29 : om_two X V8 (o + 21) (o + 22) hs_0.1.2.2.2 := ⟨_, _, k21, k22, fun j hj => absurd hj (Nat.not_lt_zero j)⟩
  have img9 : om_img X V8 o hs_0.2.1 0 := ⟨(fun _ => 0), (fun _ => 0), (fun _ => 0), hw_r (o + 1 + 25) 6, hw_r (o + 1 + 32) 7, (fun _ _ => 0), (fun _ _ => 0), k23, k24, k25, ⟨k26, fun j hj => if_pos hj⟩, (fun j hj => by rcases m0_6 j hj with rfl | rfl | rfl | rfl | rfl | rfl <;> first | exact k27 | exact k28 | exact k29 | exact k30 | exact k31 | exact k32), ⟨k33, fun j hj => if_pos hj⟩, (fun j hj => by rcases m0_7 j hj with rfl | rfl | rfl | rfl | rfl | rfl | rfl <;> first | exact k34 | exact k35 | exact k36 | exact k37 | exact k38 | exact k39 | exact k40), (by show (0 : Int32) = 0; rfl)⟩
  have tp9 : om_tapes X V8 o hs_0.2.2.2 := ⟨h41, k42, ⟨_, k43, fun j hj => if_pos hj⟩, (fun j hj => by rcases m0_6 j hj with rfl | rfl | rfl | rfl | rfl | rfl <;> first | exact k44 | exact k45 | exact k46 | exact k47 | exact k48 | exact k49)⟩
  exact ⟨0, 0, 0, 0, 0, 0, h0, rws9, k10, scr9, seen9, t19, t29, img9, tp9⟩
