set_option maxHeartbeats 4000000 in
set_option maxRecDepth 100000 in
theorem ws_c0 (σ : Nat → Nat) (cA : Nat → ClassId) : rd_cell σ cA (fun _ => 0) (.inr (4, [.inl 1, .inl 2, .inl 3, .inl 4, .inl 5, .inl 6])) = .inr (4, [.ref (σ 1), .ref (σ 2), .ref (σ 3), .ref (σ 4), .ref (σ 5), .ref (σ 6)]) := by simp only [rd_cell, List.mapIdx_cons, List.mapIdx_nil, rd_fv]
set_option maxHeartbeats 4000000 in
set_option maxRecDepth 100000 in
theorem ws_c1 (σ : Nat → Nat) (cA : Nat → ClassId) : rd_cell σ cA (fun _ => 0) (.inr (2, [.inl 7, .inl 8, .inl 9])) = .inr (2, [.ref (σ 7), .ref (σ 8), .ref (σ 9)]) := by simp only [rd_cell, List.mapIdx_cons, List.mapIdx_nil, rd_fv]
set_option maxHeartbeats 4000000 in
set_option maxRecDepth 100000 in
theorem ws_c2 (σ : Nat → Nat) (cA : Nat → ClassId) : rd_cell σ cA (fun _ => 0) (.inr (1, [.inr 0, .inl 10, .inl 11, .inl 12, .inl 13, .inl 14, .inl 15])) = .inr (1, [rd_i 0, .ref (σ 10), .ref (σ 11), .ref (σ 12), .ref (σ 13), .ref (σ 14), .ref (σ 15)]) := by simp only [rd_cell, List.mapIdx_cons, List.mapIdx_nil, rd_fv]
set_option maxHeartbeats 4000000 in
set_option maxRecDepth 100000 in
theorem ws_c3 (σ : Nat → Nat) (cA : Nat → ClassId) : rd_cell σ cA (fun _ => 0) (.inr (3, [.inr 0, .inl 16, .inl 17, .inl 18, .inl 19, .inl 20, .inl 21, .inl 22])) = .inr (3, [rd_i 0, .ref (σ 16), .ref (σ 17), .ref (σ 18), .ref (σ 19), .ref (σ 20), .ref (σ 21), .ref (σ 22)]) := by simp only [rd_cell, List.mapIdx_cons, List.mapIdx_nil, rd_fv]
set_option maxHeartbeats 4000000 in
set_option maxRecDepth 100000 in
theorem ws_c4 (σ : Nat → Nat) (cA : Nat → ClassId) : rd_cell σ cA (fun _ => 0) (.inr (0, [.inl 1, .inl 2, .inl 3, .inl 23, .inl 24, .inl 25, .inl 26, .inl 27, .inl 28, .inl 29, .inl 30, .inr 0, .inl 31])) = .inr (0, [.ref (σ 1), .ref (σ 2), .ref (σ 3), .ref (σ 23), .ref (σ 24), .ref (σ 25), .ref (σ 26), .ref (σ 27), .ref (σ 28), .ref (σ 29), .ref (σ 30), rd_i 0, .ref (σ 31)]) := by simp only [rd_cell, List.mapIdx_cons, List.mapIdx_nil, rd_fv]
set_option maxHeartbeats 4000000 in
set_option maxRecDepth 100000 in
theorem ws_c32 (σ : Nat → Nat) (cA : Nat → ClassId) : rd_cell σ cA (fun _ => 0) (.inr (5, [.inr 0, .inl 33, .inl 34, .inl 35, .inl 36, .inl 37, .inl 38, .inl 39, .inl 40, .inr 0, .inl 41, .inl 42, .inl 43, .inl 44, .inl 45, .inr 0, .inl 46, .inl 47, .inl 48, .inl 49, .inl 50, .inl 51, .inl 52, .inl 53, .inl 54, .inl 55, .inl 56, .inl 57, .inr 1, .inr 1])) = .inr (5, [rd_i 0, .ref (σ 33), .ref (σ 34), .ref (σ 35), .ref (σ 36), .ref (σ 37), .ref (σ 38), .ref (σ 39), .ref (σ 40), rd_i 0, .ref (σ 41), .ref (σ 42), .ref (σ 43), .ref (σ 44), .ref (σ 45), rd_i 0, .ref (σ 46), .ref (σ 47), .ref (σ 48), .ref (σ 49), .ref (σ 50), .ref (σ 51), .ref (σ 52), .ref (σ 53), .ref (σ 54), .ref (σ 55), .ref (σ 56), .ref (σ 57), rd_l 0, rd_l 0]) := by simp only [rd_cell, List.mapIdx_cons, List.mapIdx_nil, rd_fv]
set_option maxHeartbeats 4000000 in
set_option maxRecDepth 100000 in
theorem ws_wd (σ : Nat → Nat) (cA : Nat → ClassId) : rd_wd σ cA (fun _ _ => 0) = [(σ 0, .inr (4, [.ref (σ 1), .ref (σ 2), .ref (σ 3), .ref (σ 4), .ref (σ 5), .ref (σ 6)])), (σ 1, .inr (2, [.ref (σ 7), .ref (σ 8), .ref (σ 9)])), (σ 2, .inr (1, [rd_i 0, .ref (σ 10), .ref (σ 11), .ref (σ 12), .ref (σ 13), .ref (σ 14), .ref (σ 15)])), (σ 3, .inr (3, [rd_i 0, .ref (σ 16), .ref (σ 17), .ref (σ 18), .ref (σ 19), .ref (σ 20), .ref (σ 21), .ref (σ 22)])), (σ 4, .inr (0, [.ref (σ 1), .ref (σ 2), .ref (σ 3), .ref (σ 23), .ref (σ 24), .ref (σ 25), .ref (σ 26), .ref (σ 27), .ref (σ 28), .ref (σ 29), .ref (σ 30), rd_i 0, .ref (σ 31)])), (σ 5, bZ cA 4), (σ 6, bJ cA 6), (σ 7, bI cA 12), (σ 8, bI cA 12), (σ 9, bI cA 12), (σ 10, bI cA 40), (σ 11, bI cA 40), (σ 12, bI cA 40), (σ 13, bI cA 40), (σ 14, bZ cA 40), (σ 15, bI cA 40), (σ 16, bI cA 10), (σ 17, bI cA 10), (σ 18, bJ cA 10), (σ 19, bJ cA 10), (σ 20, bJ cA 10), (σ 21, bJ cA 10), (σ 22, bI cA 60), (σ 23, bZ cA 40), (σ 24, bI cA 40), (σ 25, bI cA 400), (σ 26, bJ cA 10), (σ 27, bI cA 100), (σ 28, bJ cA 12), (σ 29, bJ cA 10), (σ 30, bI cA 40), (σ 31, bJ cA 40), (σ 32, .inr (5, [rd_i 0, .ref (σ 33), .ref (σ 34), .ref (σ 35), .ref (σ 36), .ref (σ 37), .ref (σ 38), .ref (σ 39), .ref (σ 40), rd_i 0, .ref (σ 41), .ref (σ 42), .ref (σ 43), .ref (σ 44), .ref (σ 45), rd_i 0, .ref (σ 46), .ref (σ 47), .ref (σ 48), .ref (σ 49), .ref (σ 50), .ref (σ 51), .ref (σ 52), .ref (σ 53), .ref (σ 54), .ref (σ 55), .ref (σ 56), .ref (σ 57), rd_l 0, rd_l 0])), (σ 33, bI cA 12), (σ 34, bI cA 12), (σ 35, bI cA 12), (σ 36, bI cA 40), (σ 37, bI cA 40), (σ 38, bI cA 40), (σ 39, bI cA 40), (σ 40, bZ cA 40), (σ 41, bI cA 10), (σ 42, bI cA 10), (σ 43, bI cA 10), (σ 44, bI cA 10), (σ 45, bI cA 10), (σ 46, bI cA 60), (σ 47, bJ cA 6), (σ 48, bZ cA 4), (σ 49, bJ cA 40), (σ 50, bJ cA 400), (σ 51, bJ cA 10), (σ 52, bJ cA 10), (σ 53, bI cA 100), (σ 54, bJ cA 12), (σ 55, bZ cA 40), (σ 56, bJ cA 40), (σ 57, bI cA 40), (σ 58, bJ cA 1)] := by
  apply List.ext_getElem?
  intro k
  match k with
  | 0 => exact (rd_wd_at (c := .inr (4, [.inl 1, .inl 2, .inl 3, .inl 4, .inl 5, .inl 6])) rfl).trans (congrArg (fun z => some (σ 0, z)) (ws_c0 σ cA))
  | 1 => exact (rd_wd_at (c := .inr (2, [.inl 7, .inl 8, .inl 9])) rfl).trans (congrArg (fun z => some (σ 1, z)) (ws_c1 σ cA))
  | 2 => exact (rd_wd_at (c := .inr (1, [.inr 0, .inl 10, .inl 11, .inl 12, .inl 13, .inl 14, .inl 15])) rfl).trans (congrArg (fun z => some (σ 2, z)) (ws_c2 σ cA))
  | 3 => exact (rd_wd_at (c := .inr (3, [.inr 0, .inl 16, .inl 17, .inl 18, .inl 19, .inl 20, .inl 21, .inl 22])) rfl).trans (congrArg (fun z => some (σ 3, z)) (ws_c3 σ cA))
  | 4 => exact (rd_wd_at (c := .inr (0, [.inl 1, .inl 2, .inl 3, .inl 23, .inl 24, .inl 25, .inl 26, .inl 27, .inl 28, .inl 29, .inl 30, .inr 0, .inl 31])) rfl).trans (congrArg (fun z => some (σ 4, z)) (ws_c4 σ cA))
  | 5 => exact rd_wd_at (c := .inl (2, 4)) rfl
  | 6 => exact rd_wd_at (c := .inl (1, 6)) rfl
  | 7 => exact rd_wd_at (c := .inl (0, 12)) rfl
  | 8 => exact rd_wd_at (c := .inl (0, 12)) rfl
  | 9 => exact rd_wd_at (c := .inl (0, 12)) rfl
  | 10 => exact rd_wd_at (c := .inl (0, 40)) rfl
  | 11 => exact rd_wd_at (c := .inl (0, 40)) rfl
  | 12 => exact rd_wd_at (c := .inl (0, 40)) rfl
  | 13 => exact rd_wd_at (c := .inl (0, 40)) rfl
  | 14 => exact rd_wd_at (c := .inl (2, 40)) rfl
  | 15 => exact rd_wd_at (c := .inl (0, 40)) rfl
  | 16 => exact rd_wd_at (c := .inl (0, 10)) rfl
  | 17 => exact rd_wd_at (c := .inl (0, 10)) rfl
  | 18 => exact rd_wd_at (c := .inl (1, 10)) rfl
  | 19 => exact rd_wd_at (c := .inl (1, 10)) rfl
  | 20 => exact rd_wd_at (c := .inl (1, 10)) rfl
  | 21 => exact rd_wd_at (c := .inl (1, 10)) rfl
  | 22 => exact rd_wd_at (c := .inl (0, 60)) rfl
  | 23 => exact rd_wd_at (c := .inl (2, 40)) rfl
  | 24 => exact rd_wd_at (c := .inl (0, 40)) rfl
  | 25 => exact rd_wd_at (c := .inl (0, 400)) rfl
  | 26 => exact rd_wd_at (c := .inl (1, 10)) rfl
  | 27 => exact rd_wd_at (c := .inl (0, 100)) rfl
  | 28 => exact rd_wd_at (c := .inl (1, 12)) rfl
  | 29 => exact rd_wd_at (c := .inl (1, 10)) rfl
  | 30 => exact rd_wd_at (c := .inl (0, 40)) rfl
  | 31 => exact rd_wd_at (c := .inl (1, 40)) rfl
  | 32 => exact (rd_wd_at (c := .inr (5, [.inr 0, .inl 33, .inl 34, .inl 35, .inl 36, .inl 37, .inl 38, .inl 39, .inl 40, .inr 0, .inl 41, .inl 42, .inl 43, .inl 44, .inl 45, .inr 0, .inl 46, .inl 47, .inl 48, .inl 49, .inl 50, .inl 51, .inl 52, .inl 53, .inl 54, .inl 55, .inl 56, .inl 57, .inr 1, .inr 1])) rfl).trans (congrArg (fun z => some (σ 32, z)) (ws_c32 σ cA))
  | 33 => exact rd_wd_at (c := .inl (0, 12)) rfl
  | 34 => exact rd_wd_at (c := .inl (0, 12)) rfl
  | 35 => exact rd_wd_at (c := .inl (0, 12)) rfl
  | 36 => exact rd_wd_at (c := .inl (0, 40)) rfl
  | 37 => exact rd_wd_at (c := .inl (0, 40)) rfl
  | 38 => exact rd_wd_at (c := .inl (0, 40)) rfl
  | 39 => exact rd_wd_at (c := .inl (0, 40)) rfl
  | 40 => exact rd_wd_at (c := .inl (2, 40)) rfl
  | 41 => exact rd_wd_at (c := .inl (0, 10)) rfl
  | 42 => exact rd_wd_at (c := .inl (0, 10)) rfl
  | 43 => exact rd_wd_at (c := .inl (0, 10)) rfl
  | 44 => exact rd_wd_at (c := .inl (0, 10)) rfl
  | 45 => exact rd_wd_at (c := .inl (0, 10)) rfl
  | 46 => exact rd_wd_at (c := .inl (0, 60)) rfl
  | 47 => exact rd_wd_at (c := .inl (1, 6)) rfl
  | 48 => exact rd_wd_at (c := .inl (2, 4)) rfl
  | 49 => exact rd_wd_at (c := .inl (1, 40)) rfl
  | 50 => exact rd_wd_at (c := .inl (1, 400)) rfl
  | 51 => exact rd_wd_at (c := .inl (1, 10)) rfl
  | 52 => exact rd_wd_at (c := .inl (1, 10)) rfl
  | 53 => exact rd_wd_at (c := .inl (0, 100)) rfl
  | 54 => exact rd_wd_at (c := .inl (1, 12)) rfl
  | 55 => exact rd_wd_at (c := .inl (2, 40)) rfl
  | 56 => exact rd_wd_at (c := .inl (1, 40)) rfl
  | 57 => exact rd_wd_at (c := .inl (0, 40)) rfl
  | 58 => exact rd_wd_at (c := .inl (1, 1)) rfl
  | n + 59 => exact (List.getElem?_eq_none (by rw [rd_wd_len]; exact Nat.le_trans (show rd_SH.length ≤ 59 from by decide) (by omega))).trans rfl
