set_option maxHeartbeats 4000000 in
set_option maxRecDepth 100000 in
theorem ws_go {p : Program} {e : Env} {s : State} {m : MethodId} {args : Array Value} {below : List Frame} {meth : Method} {c : Code} {l : Launch} {D : va_G} {cA : Nat → ClassId} {A : Nat → Prop} {L : Nat} {xs : Nat → Int32} {H : Heap} {locs : List Loc} {ls : Array Slot} (σ : Nat → Nat) (hL : L ≤ 3072) (htb : c.exceptionTable.toList = tableOf []) (hx : p.tables.exec = Jvm.exec) (hb : c.code = c_L_law) (hr : meth.sig.returnType = ret) (hml : c.maxLocals = 8) (hown : s.vm.findClass "ReinsuranceDeskLaw" = some m.cls) (htl : ∀ w ∈ lw_tbl, w.before args s = true) (hlocks : meth.locks = false) (hK : va_K D rd_CL (rd_ty cA) s) (hXF : rd_XF l s A) (hA : ∀ q : Nat, s.heap.size ≤ q → A q) (hAn : ∀ q : Nat, A q → s.heap.size ≤ q) (hX : va_X (σ 999) L xs s s.heap) (hbl : σ 999 < s.heap.size)
    (hP : va_P D rd_CL [(σ 0, .inr (4, [.ref (σ 1), .ref (σ 2), .ref (σ 3), .ref (σ 4), .ref (σ 5), .ref (σ 6)])), (σ 1, .inr (2, [.ref (σ 7), .ref (σ 8), .ref (σ 9)])), (σ 2, .inr (1, [rd_i 0, .ref (σ 10), .ref (σ 11), .ref (σ 12), .ref (σ 13), .ref (σ 14), .ref (σ 15)])), (σ 3, .inr (3, [rd_i 0, .ref (σ 16), .ref (σ 17), .ref (σ 18), .ref (σ 19), .ref (σ 20), .ref (σ 21), .ref (σ 22)])), (σ 4, .inr (0, [.ref (σ 1), .ref (σ 2), .ref (σ 3), .ref (σ 23), .ref (σ 24), .ref (σ 25), .ref (σ 26), .ref (σ 27), .ref (σ 28), .ref (σ 29), .ref (σ 30), rd_i 0, .ref (σ 31)])), (σ 5, bZ cA 4), (σ 6, bJ cA 6), (σ 7, bI cA 12), (σ 8, bI cA 12), (σ 9, bI cA 12), (σ 10, bI cA 40), (σ 11, bI cA 40), (σ 12, bI cA 40), (σ 13, bI cA 40), (σ 14, bZ cA 40), (σ 15, bI cA 40), (σ 16, bI cA 10), (σ 17, bI cA 10), (σ 18, bJ cA 10), (σ 19, bJ cA 10), (σ 20, bJ cA 10), (σ 21, bJ cA 10), (σ 22, bI cA 60), (σ 23, bZ cA 40), (σ 24, bI cA 40), (σ 25, bI cA 400), (σ 26, bJ cA 10), (σ 27, bI cA 100), (σ 28, bJ cA 12), (σ 29, bJ cA 10), (σ 30, bI cA 40), (σ 31, bJ cA 40), (σ 32, .inr (5, [rd_i 0, .ref (σ 33), .ref (σ 34), .ref (σ 35), .ref (σ 36), .ref (σ 37), .ref (σ 38), .ref (σ 39), .ref (σ 40), rd_i 0, .ref (σ 41), .ref (σ 42), .ref (σ 43), .ref (σ 44), .ref (σ 45), rd_i 0, .ref (σ 46), .ref (σ 47), .ref (σ 48), .ref (σ 49), .ref (σ 50), .ref (σ 51), .ref (σ 52), .ref (σ 53), .ref (σ 54), .ref (σ 55), .ref (σ 56), .ref (σ 57), rd_l 0, rd_l 0])), (σ 33, bI cA 12), (σ 34, bI cA 12), (σ 35, bI cA 12), (σ 36, bI cA 40), (σ 37, bI cA 40), (σ 38, bI cA 40), (σ 39, bI cA 40), (σ 40, bZ cA 40), (σ 41, bI cA 10), (σ 42, bI cA 10), (σ 43, bI cA 10), (σ 44, bI cA 10), (σ 45, bI cA 10), (σ 46, bI cA 60), (σ 47, bJ cA 6), (σ 48, bZ cA 4), (σ 49, bJ cA 40), (σ 50, bJ cA 400), (σ 51, bJ cA 10), (σ 52, bJ cA 10), (σ 53, bI cA 100), (σ 54, bJ cA 12), (σ 55, bZ cA 40), (σ 56, bJ cA 40), (σ 57, bI cA 40), (σ 58, bJ cA 1)] H) (hD : va_D A [(σ 0, .inr (4, [.ref (σ 1), .ref (σ 2), .ref (σ 3), .ref (σ 4), .ref (σ 5), .ref (σ 6)])), (σ 1, .inr (2, [.ref (σ 7), .ref (σ 8), .ref (σ 9)])), (σ 2, .inr (1, [rd_i 0, .ref (σ 10), .ref (σ 11), .ref (σ 12), .ref (σ 13), .ref (σ 14), .ref (σ 15)])), (σ 3, .inr (3, [rd_i 0, .ref (σ 16), .ref (σ 17), .ref (σ 18), .ref (σ 19), .ref (σ 20), .ref (σ 21), .ref (σ 22)])), (σ 4, .inr (0, [.ref (σ 1), .ref (σ 2), .ref (σ 3), .ref (σ 23), .ref (σ 24), .ref (σ 25), .ref (σ 26), .ref (σ 27), .ref (σ 28), .ref (σ 29), .ref (σ 30), rd_i 0, .ref (σ 31)])), (σ 5, bZ cA 4), (σ 6, bJ cA 6), (σ 7, bI cA 12), (σ 8, bI cA 12), (σ 9, bI cA 12), (σ 10, bI cA 40), (σ 11, bI cA 40), (σ 12, bI cA 40), (σ 13, bI cA 40), (σ 14, bZ cA 40), (σ 15, bI cA 40), (σ 16, bI cA 10), (σ 17, bI cA 10), (σ 18, bJ cA 10), (σ 19, bJ cA 10), (σ 20, bJ cA 10), (σ 21, bJ cA 10), (σ 22, bI cA 60), (σ 23, bZ cA 40), (σ 24, bI cA 40), (σ 25, bI cA 400), (σ 26, bJ cA 10), (σ 27, bI cA 100), (σ 28, bJ cA 12), (σ 29, bJ cA 10), (σ 30, bI cA 40), (σ 31, bJ cA 40), (σ 32, .inr (5, [rd_i 0, .ref (σ 33), .ref (σ 34), .ref (σ 35), .ref (σ 36), .ref (σ 37), .ref (σ 38), .ref (σ 39), .ref (σ 40), rd_i 0, .ref (σ 41), .ref (σ 42), .ref (σ 43), .ref (σ 44), .ref (σ 45), rd_i 0, .ref (σ 46), .ref (σ 47), .ref (σ 48), .ref (σ 49), .ref (σ 50), .ref (σ 51), .ref (σ 52), .ref (σ 53), .ref (σ 54), .ref (σ 55), .ref (σ 56), .ref (σ 57), rd_l 0, rd_l 0])), (σ 33, bI cA 12), (σ 34, bI cA 12), (σ 35, bI cA 12), (σ 36, bI cA 40), (σ 37, bI cA 40), (σ 38, bI cA 40), (σ 39, bI cA 40), (σ 40, bZ cA 40), (σ 41, bI cA 10), (σ 42, bI cA 10), (σ 43, bI cA 10), (σ 44, bI cA 10), (σ 45, bI cA 10), (σ 46, bI cA 60), (σ 47, bJ cA 6), (σ 48, bZ cA 4), (σ 49, bJ cA 40), (σ 50, bJ cA 400), (σ 51, bJ cA 10), (σ 52, bJ cA 10), (σ 53, bI cA 100), (σ 54, bJ cA 12), (σ 55, bZ cA 40), (σ 56, bJ cA 40), (σ 57, bI cA 40), (σ 58, bJ cA 1)]) (hS : va_S A s.heap H locs) (hl : lv_has ls 8 [(4, rd_i 0), (3, .ref (σ 58)), (2, .ref (σ 32)), (1, .ref (σ 0)), (0, .ref (σ 999))]) : W p l e room_1 s m args below meth c H locs 59 2214 (lw_Z below args s) (F0 m 23 ls []) := by
  rw [← ws_wd σ cA] at hP hD
  have hat : ∀ i (hi : i < rd_SH.length), (rd_wd σ cA (fun _ _ => 0))[i]? = some (σ i, rd_cell σ cA ((fun _ _ => 0 : rd_M) i) rd_SH[i]) := fun i hi => rd_wd_at (List.getElem?_eq_getElem hi)
  have hj : rd_inj σ := fun i j hi hj e => hD.1 i j _ _ (hat i hi) (hat j hj) e
  have hAs : ∀ i, i < rd_SH.length → A (σ i) := fun i hi => hD.2 i _ (hat i hi)
  have hls : rd_L σ ls 8 [some (.ref 999), some (.ref 0), some (.ref 32), some (.ref 58), some (rd_i 0), none, none, none] := by
    refine ⟨hl.1, hl.2.1, by decide, fun i v hv => ?_⟩
    match i, hv with
    | 0, hv =>
      have e9 : some (some (Value.ref 999)) = some (some v) := hv
      cases e9
      exact hl.2.2 _ (List.mem_of_getElem? (i := 4) rfl)
    | 1, hv =>
      have e9 : some (some (Value.ref 0)) = some (some v) := hv
      cases e9
      exact hl.2.2 _ (List.mem_of_getElem? (i := 3) rfl)
    | 2, hv =>
      have e9 : some (some (Value.ref 32)) = some (some v) := hv
      cases e9
      exact hl.2.2 _ (List.mem_of_getElem? (i := 2) rfl)
    | 3, hv =>
      have e9 : some (some (Value.ref 58)) = some (some v) := hv
      cases e9
      exact hl.2.2 _ (List.mem_of_getElem? (i := 1) rfl)
    | 4, hv =>
      have e9 : some (some (rd_i 0)) = some (some v) := hv
      cases e9
      exact hl.2.2 _ (List.mem_of_getElem? (i := 0) rfl)
    | 5, hv =>
      have e9 : some (none : Option Value) = some (some v) := hv
      cases e9
    | 6, hv =>
      have e9 : some (none : Option Value) = some (some v) := hv
      cases e9
    | 7, hv =>
      have e9 : some (none : Option Value) = some (some v) := hv
      cases e9
    | n + 8, hv =>
      have e9 : (none : Option (Option Value)) = some (some v) := hv
      cases e9
  have hxs : (fun j : Nat => Int32.ofInt ((fun j : Int => (xs j.toNat).toInt) (j : Int))) = xs := by
    funext j
    show Int32.ofInt (xs ((j : Int).toNat)).toInt = xs j
    rw [Int32.ofInt_toInt, Int.toNat_natCast]
  have hG := lq_L_law (Ls := L) (xs := fun j : Int => (xs j.toNat).toInt) (Q := fun r _ => r = .inl (some (rd_i 1))) (fun j => ⟨by have := Int32.le_toInt (xs j.toNat); omega, by have := Int32.toInt_lt (xs j.toNat); omega⟩) hL (fun _ => rfl) _ 0 400 0 0 (fun k => k) (fun _ _ => 0) rfl (by omega) (by omega) k_0
  have hCx : rd_Cx (x_L_law L (fun j : Int => (xs j.toNat).toInt)) p l e room_1 s m args meth c σ D cA A :=
    ⟨hx, hb, hml, hown, fun w hw => htl w (List.mem_filter.mp hw).1, hK, hj, hAs, hA, ⟨(Nat.le_of_ble_eq_true rfl), (Nat.le_of_ble_eq_true rfl), (Nat.le_of_ble_eq_true rfl), (Nat.le_of_ble_eq_true rfl)⟩, hr, hlocks, htb, hXF, fun Ls ys hsc => by
      have e9 : (L, fun j : Int => (xs j.toNat).toInt) = (Ls, ys) := Option.some.inj hsc
      cases e9
      refine ⟨?_, hbl, fun h9 => ?_, by omega⟩
      · rw [hxs]; exact hX
      · have := hAn _ h9
        omega⟩
  intro T hT X
  obtain ⟨t, a1, o, r, M', b1, b2, b3, b4, b5, Lc, b6, b7, b8, b9⟩ := hG p l e room_1 s m args below meth c σ D cA A hCx H locs ls 59 2214 (Nat.le_of_ble_eq_true rfl) (Nat.le_of_ble_eq_true rfl) hP hS hls T hT X
  have b4 : r = .inl (some (rd_i 1)) := b4
  subst b4
  have b3 : o = .returned (some (.int (Int32.ofInt 1))) := b3
  rw [show Int32.ofInt 1 = (1 : Int32) from by decide] at b3
  exact ⟨t, a1, o, b1, b2, b3, ⟨_, b3⟩, b6, (lw_fg b7 (fun q hq => hAn _ (b8 q hq))).mono (Nat.le_of_ble_eq_true rfl) (Nat.le_of_ble_eq_true rfl)⟩
