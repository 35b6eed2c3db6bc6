/-! the law's start: classes, texts, constructors, loop -/
theorem bw_ts {s : State} {args : Array Value} (hts : ∀ w ∈ lw_tbl, w.before args s = true) : ∀ w ∈ bw, w.before args s = true := fun w h => hts w (List.mem_filter.mp (bw_in w h)).1
set_option maxHeartbeats 4000000 in
set_option maxRecDepth 100000 in
theorem ws_K {s : State} {args : Array Value} (ht : ∀ w ∈ bw, w.before args s = true) : ∃ (D : va_G) (cA : Nat → ClassId), va_K D rd_CL (rd_ty cA) s := by
  obtain ⟨a0, b0, k0⟩ := u_known ht bw_u0 (ht (.instantiable "ReinsuranceDesk$Cession" 13) (bw_m (rd_m 128 (by decide +kernel))))
  obtain ⟨a1, b1, k1⟩ := u_known ht bw_u1 (ht (.instantiable "ReinsuranceDesk$Claims" 7) (bw_m (rd_m 46 (by decide +kernel))))
  obtain ⟨a2, b2, k2⟩ := u_known ht bw_u2 (ht (.instantiable "ReinsuranceDesk$Risks" 3) (bw_m (rd_m 23 (by decide +kernel))))
  obtain ⟨a3, b3, k3⟩ := u_known ht bw_u3 (ht (.instantiable "ReinsuranceDesk$Treaties" 8) (bw_m (rd_m 87 (by decide +kernel))))
  obtain ⟨a4, b4, k4⟩ := u_known ht bw_u4 (ht (.instantiable "ReinsuranceDesk" 6) (bw_m (rd_m 15 (by decide +kernel))))
  obtain ⟨a5, b5, k5⟩ := u_known ht bw_u5 (ht (.instantiable "ReinsuranceDeskModel" 30) (bw_m (rd_m 609 (by decide +kernel))))
  obtain ⟨i0, x0, y0, f0, g0, j0⟩ := Cond.arrayClass_spec (ht (.arrayClass .int) (bw_m (rd_m 44 (by decide +kernel))))
  obtain ⟨i1, x1, y1, f1, g1, j1⟩ := Cond.arrayClass_spec (ht (.arrayClass .long) (bw_m (rd_m 126 (by decide +kernel))))
  obtain ⟨i2, x2, y2, f2, g2, j2⟩ := Cond.arrayClass_spec (ht (.arrayClass .boolean) (bw_m (rd_m 85 (by decide +kernel))))
  refine ⟨(fun c => match c with | 0 => a0 | 1 => a1 | 2 => a2 | 3 => a3 | 4 => a4 | _ => a5, fun c => match c with | 0 => b0 | 1 => b1 | 2 => b2 | 3 => b3 | 4 => b4 | _ => b5), fun k => match k with | 0 => i0 | 1 => i1 | _ => i2, fun c q hq => ?_, fun k q hk => ?_⟩
  · match c, hq with
    | 0, hq =>
      have e : some (("ReinsuranceDesk$Cession", rd_T0, 13) : vw_C) = some q := hq
      cases e; exact k0
    | 1, hq =>
      have e : some (("ReinsuranceDesk$Claims", rd_T1, 7) : vw_C) = some q := hq
      cases e; exact k1
    | 2, hq =>
      have e : some (("ReinsuranceDesk$Risks", rd_T2, 3) : vw_C) = some q := hq
      cases e; exact k2
    | 3, hq =>
      have e : some (("ReinsuranceDesk$Treaties", rd_T3, 8) : vw_C) = some q := hq
      cases e; exact k3
    | 4, hq =>
      have e : some (("ReinsuranceDesk", rd_T4, 6) : vw_C) = some q := hq
      cases e; exact k4
    | 5, hq =>
      have e : some (("ReinsuranceDeskModel", rd_T5, 30) : vw_C) = some q := hq
      cases e; exact k5
    | n + 6, hq => exact absurd hq (by simp [rd_CL])
  · match k, hk with
    | 0, hk =>
      have e : some ((i0, .int) : ClassId × FieldType) = some q := hk
      cases e; exact ⟨fun n z => ⟨fun k h => (by cases h), x0, g0, y0, j0⟩, f0⟩
    | 1, hk =>
      have e : some ((i1, .long) : ClassId × FieldType) = some q := hk
      cases e; exact ⟨fun n z => ⟨fun k h => (by cases h), x1, g1, y1, j1⟩, f1⟩
    | 2, hk =>
      have e : some ((i2, .boolean) : ClassId × FieldType) = some q := hk
      cases e; exact ⟨fun n z => ⟨fun k h => (by cases h), x2, g2, y2, j2⟩, f2⟩
    | n + 3, hk => exact absurd hk (by simp)
set_option maxRecDepth 100000 in
theorem ws_ss : ∀ q ∈ rd_ss, q.1 = "ReinsuranceDesk" ∧ Cond.stringRef q.1 q.2.1 q.2.2 ∈ lw_tbl := fun q hq => by
  have h1 := List.all_eq_true.mp (by decide +kernel : rd_ss.all (fun q => decide (q.1 = "ReinsuranceDesk") && decide (Cond.stringRef q.1 q.2.1 q.2.2 ∈ tables_1)) = true) q hq
  simp only [Bool.and_eq_true, decide_eq_true_eq] at h1
  exact ⟨h1.1, List.mem_append_right _ h1.2⟩
set_option maxRecDepth 100000 in
theorem ws_XF {l : Launch} {s : State} {args : Array Value} {cD : ClassId} (hl : l.stackTraces = false) (hts : ∀ w ∈ lw_tbl, w.before args s = true) (hgv : (Jvm.Cond.and given_1 narrow_1).before args s = true) (hcD : s.vm.findClass "ReinsuranceDesk" = some cD) : rd_XF l s (fun q => s.heap.size ≤ q) := by
  have hf := flat_of_before _ hgv
  have hn : ∀ a : Nat, a < s.heap.size → ¬ s.heap.size ≤ a := fun a h => by omega
  have hi : (Cond.initialized Bundle.tN).before args s = true := hts _ (List.mem_append_right _ (List.mem_of_getElem? (i := 7) (by decide +kernel)))
  have l1 : (Cond.laysStatic Bundle.tN "UNASSIGNED_STACK" Bundle.steD).before args s = true := hts _ (List.mem_append_right _ (List.mem_of_getElem? (i := 240) (by decide +kernel)))
  have l2 : (Cond.laysStatic Bundle.tN "SUPPRESSED_SENTINEL" Bundle.listD).before args s = true := hts _ (List.mem_append_right _ (List.mem_of_getElem? (i := 242) (by decide +kernel)))
  have r1 : (Cond.isRef (.static Bundle.tN "UNASSIGNED_STACK" Bundle.steD)).before args s = true := hf _ (by decide +kernel)
  have r2 : (Cond.isRef (.static Bundle.tN "SUPPRESSED_SENTINEL" Bundle.listD)).before args s = true := hf _ (by decide +kernel)
  have nc : (Cond.not (.castable (rd_xn 1) (rd_xn 0))).before args s = true := hf _ (by decide +kernel)
  refine ⟨hl, vx_Zqof l1 hi r1 hn, vx_Zqof l2 hi r2 hn, fun a ce h _ => hn a (Array.getElem?_eq_some_iff.mp h).1, fun q hq => ?_, va_Nc.of nc⟩
  obtain ⟨h1, h2⟩ := ws_ss q hq
  obtain ⟨k, cf, i, a, hk, hcf, hcp, h8, hr, hev⟩ := Cond.stringRef_spec (by rw [h1]; exact hcD) (hts _ h2)
  exact ⟨a, vk_R.of (hts _ h2) hev⟩
set_option maxHeartbeats 4000000 in
set_option maxRecDepth 100000 in
theorem ws_wd (b q0 q5_4 q16_4 q27_4 q38_4 q62_4 q70_4 q7_9_4 q15_9_4 q23_9_4 q7_20_4 q15_20_4 q23_20_4 q31_20_4 q39_20_4 q47_20_4 q7_31_4 q15_31_4 q23_31_4 q31_31_4 q39_31_4 q47_31_4 q55_31_4 q22_54_4 q30_54_4 q39_54_4 q47_54_4 q55_54_4 q63_54_4 q71_54_4 q79_54_4 q87_54_4 q8 q7_12 q15_12 q23_12 q31_12 q39_12 q47_12 q55_12 q63_12 q71_12 q79_12 q87_12 q95_12 q103_12 q111_12 q119_12 q126_12 q134_12 q143_12 q151_12 q159_12 q167_12 q175_12 q183_12 q191_12 q199_12 q17 : Nat) (cA : Nat → ClassId) (σ : Nat → Nat) (hσ : σ = (fun k => if k = 999 then b else ([q0, q5_4, q16_4, q27_4, q38_4, q62_4, q70_4, q7_9_4, q15_9_4, q23_9_4, q7_20_4, q15_20_4, q23_20_4, q31_20_4, q39_20_4, q47_20_4, q7_31_4, q15_31_4, q23_31_4, q31_31_4, q39_31_4, q47_31_4, q55_31_4, q22_54_4, q30_54_4, q39_54_4, q47_54_4, q55_54_4, q63_54_4, q71_54_4, q79_54_4, q87_54_4, q8, q7_12, q15_12, q23_12, q31_12, q39_12, q47_12, q55_12, q63_12, q71_12, q79_12, q87_12, q95_12, q103_12, q111_12, q119_12, q126_12, q134_12, q143_12, q151_12, q159_12, q167_12, q175_12, q183_12, q191_12, q199_12, q17] : List Nat).getD k 0)) : rd_wd σ cA (fun _ _ => 0) = [(q0, .inr (4, [.ref q5_4, .ref q16_4, .ref q27_4, .ref q38_4, .ref q62_4, .ref q70_4])), (q5_4, .inr (2, [.ref q7_9_4, .ref q15_9_4, .ref q23_9_4])), (q16_4, .inr (1, [rd_i 0, .ref q7_20_4, .ref q15_20_4, .ref q23_20_4, .ref q31_20_4, .ref q39_20_4, .ref q47_20_4])), (q27_4, .inr (3, [rd_i 0, .ref q7_31_4, .ref q15_31_4, .ref q23_31_4, .ref q31_31_4, .ref q39_31_4, .ref q47_31_4, .ref q55_31_4])), (q38_4, .inr (0, [.ref q5_4, .ref q16_4, .ref q27_4, .ref q22_54_4, .ref q30_54_4, .ref q39_54_4, .ref q47_54_4, .ref q55_54_4, .ref q63_54_4, .ref q71_54_4, .ref q79_54_4, rd_i 0, .ref q87_54_4])), (q62_4, bZ cA 4), (q70_4, bJ cA 6), (q7_9_4, bI cA 12), (q15_9_4, bI cA 12), (q23_9_4, bI cA 12), (q7_20_4, bI cA 40), (q15_20_4, bI cA 40), (q23_20_4, bI cA 40), (q31_20_4, bI cA 40), (q39_20_4, bZ cA 40), (q47_20_4, bI cA 40), (q7_31_4, bI cA 10), (q15_31_4, bI cA 10), (q23_31_4, bJ cA 10), (q31_31_4, bJ cA 10), (q39_31_4, bJ cA 10), (q47_31_4, bJ cA 10), (q55_31_4, bI cA 60), (q22_54_4, bZ cA 40), (q30_54_4, bI cA 40), (q39_54_4, bI cA 400), (q47_54_4, bJ cA 10), (q55_54_4, bI cA 100), (q63_54_4, bJ cA 12), (q71_54_4, bJ cA 10), (q79_54_4, bI cA 40), (q87_54_4, bJ cA 40), (q8, .inr (5, [rd_i 0, .ref q7_12, .ref q15_12, .ref q23_12, .ref q31_12, .ref q39_12, .ref q47_12, .ref q55_12, .ref q63_12, rd_i 0, .ref q71_12, .ref q79_12, .ref q87_12, .ref q95_12, .ref q103_12, rd_i 0, .ref q111_12, .ref q119_12, .ref q126_12, .ref q134_12, .ref q143_12, .ref q151_12, .ref q159_12, .ref q167_12, .ref q175_12, .ref q183_12, .ref q191_12, .ref q199_12, rd_l 0, rd_l 0])), (q7_12, bI cA 12), (q15_12, bI cA 12), (q23_12, bI cA 12), (q31_12, bI cA 40), (q39_12, bI cA 40), (q47_12, bI cA 40), (q55_12, bI cA 40), (q63_12, bZ cA 40), (q71_12, bI cA 10), (q79_12, bI cA 10), (q87_12, bI cA 10), (q95_12, bI cA 10), (q103_12, bI cA 10), (q111_12, bI cA 60), (q119_12, bJ cA 6), (q126_12, bZ cA 4), (q134_12, bJ cA 40), (q143_12, bJ cA 400), (q151_12, bJ cA 10), (q159_12, bJ cA 10), (q167_12, bI cA 100), (q175_12, bJ cA 12), (q183_12, bZ cA 40), (q191_12, bJ cA 40), (q199_12, bI cA 40), (q17, bJ cA 1)] := by
  subst hσ
  apply List.ext_getElem?
  intro k
  rw [rd_wd, List.getElem?_mapIdx]
  match k with
  | 0 => rfl
  | 1 => rfl
  | 2 => rfl
  | 3 => rfl
  | 4 => rfl
  | 5 => rfl
  | 6 => rfl
  | 7 => rfl
  | 8 => rfl
  | 9 => rfl
  | 10 => rfl
  | 11 => rfl
  | 12 => rfl
  | 13 => rfl
  | 14 => rfl
  | 15 => rfl
  | 16 => rfl
  | 17 => rfl
  | 18 => rfl
  | 19 => rfl
  | 20 => rfl
  | 21 => rfl
  | 22 => rfl
  | 23 => rfl
  | 24 => rfl
  | 25 => rfl
  | 26 => rfl
  | 27 => rfl
  | 28 => rfl
  | 29 => rfl
  | 30 => rfl
  | 31 => rfl
  | 32 => rfl
  | 33 => rfl
  | 34 => rfl
  | 35 => rfl
  | 36 => rfl
  | 37 => rfl
  | 38 => rfl
  | 39 => rfl
  | 40 => rfl
  | 41 => rfl
  | 42 => rfl
  | 43 => rfl
  | 44 => rfl
  | 45 => rfl
  | 46 => rfl
  | 47 => rfl
  | 48 => rfl
  | 49 => rfl
  | 50 => rfl
  | 51 => rfl
  | 52 => rfl
  | 53 => rfl
  | 54 => rfl
  | 55 => rfl
  | 56 => rfl
  | 57 => rfl
  | 58 => rfl
  | n + 59 => rfl
set_option maxHeartbeats 4000000 in
set_option maxRecDepth 100000 in
theorem ws_start {p : Program} {e : Env} {s : State} {m : MethodId} {below : List Frame} {meth : Method} {c : Code} (l : Launch) (hlt : l.stackTraces = false) {b L : Nat} {xs : Nat → Int32} (hL : L ≤ 3072) (htb : c.exceptionTable.toList = tableOf []) (C0 : lw_At p s m meth c b L xs) : W p l e room_1 s m #[Value.ref b] below meth c s.heap [] 0 0 (lw_Z below #[Value.ref b] s) (entryFrame m ([Value.ref b] : List Value).toArray 8) := by
  obtain ⟨hx, hb, hr, hml, hown, htl, hX, hbl, hlocks, hgv⟩ := C0
  obtain ⟨D, cA, hK⟩ := ws_K (bw_ts htl)
  obtain ⟨B, hB⟩ : ∃ B, B = bw := ⟨_, rfl⟩
  have hts : ∀ w ∈ B, w.before #[Value.ref b] s = true := fun w h => bw_ts htl w (by rw [← hB]; exact h)
  have hXF := ws_XF hlt htl hgv (hK.1 4 _ rfl).2.1
  have hown : s.vm.findClass "ReinsuranceDeskLaw" = some m.cls := hown
  have hb : c.code = c_L_law := hb
  generalize hAe : (fun q : Nat => s.heap.size ≤ q) = A at hXF
  have hA : ∀ q : Nat, s.heap.size ≤ q → A q := fun q h => by rw [← hAe]; exact h
  have hAn : ∀ q : Nat, A q → s.heap.size ≤ q := fun q h => by rw [← hAe] at h; exact h
  have hS : va_S A s.heap s.heap [] := va_S.rf
  have hP : va_P D rd_CL [] s.heap := fun k q h => by simp at h
  have hD : va_D A [] := ⟨fun i j p q h => by simp at h, fun k q h => by simp at h⟩
  have hl := lv_entry ([.ref b]) (n := 8) (Nat.le_of_ble_eq_true rfl)
  rw [lg_entry_eq]
  generalize (lg_sl ([Value.ref b]) ++ List.replicate (8 - (lg_sl ([Value.ref b])).length) Slot.unset).toArray = ls at hl ⊢
  have hl : lv_has ls 8 [(0, .ref b)] := hl
  refine va_new (pc := 0) (ci := 4) (fs := [.null, .null, .null, .null, .null, .null]) (C := "ReinsuranceDesk") (T := rd_T4) (N := 6) hx hb hts (fun w h => bw_B hB (bw_u4 w h)) rd_t4 rd_tt4 hown (hts (.classLink "ReinsuranceDeskLaw" 8 "ReinsuranceDesk") (bw_B hB (bw_m (rd_m 14 (by decide +kernel))))) (hts (.instantiable "ReinsuranceDesk" 6) (bw_B hB (bw_m (rd_m 15 (by decide +kernel))))) (hts (.initialized "ReinsuranceDesk") (bw_B hB (bw_m (rd_m 1 (by decide +kernel))))) hK hP hD hS hA rfl (fun j hj => by rcases (show j = 0 ∨ j = 1 ∨ j = 2 ∨ j = 3 ∨ j = 4 ∨ j = 5 by omega) with rfl | rfl | rfl | rfl | rfl | rfl <;> first | exact b0i | exact b0l | rfl) (Nat.le_of_ble_eq_true rfl) (Nat.le_of_ble_eq_true rfl) d_L_law_0 (fun q0 H hP hD hS => ?_)
  have hP : va_P D rd_CL [(q0, .inr (4, [.null, .null, .null, .null, .null, .null]))] H := hP
  have hD : va_D A [(q0, .inr (4, [.null, .null, .null, .null, .null, .null]))] := hD
  refine W.widen (k := 1) (n := 6) (Nat.le_of_ble_eq_true rfl) (Nat.le_of_ble_eq_true rfl) ?_
  refine lv_dup (pc := 3) hx hb d_L_law_3 rfl ?_
  have hPc := hP.sub (ws' := [(q0, .inr (4, [.null, .null, .null, .null, .null, .null]))]) [0] rfl
  have hDc := hD.sub (ws' := [(q0, .inr (4, [.null, .null, .null, .null, .null, .null]))]) [0] (by decide) rfl
  have hFc := va_free (wc := [(q0, .inr (4, [.null, .null, .null, .null, .null, .null]))]) hD hS hA [0] rfl
  refine va_callv (va_runI (As := []) (rest := [.ref q0]) ⟨hx, hb, hml, hown, hts⟩ (e_D_init hB l D cA q0 H.size) (cwI 0 hts (bw_good hB wc_D_init (fun w h => h)) rfl rfl rfl (hts (.initialized "ReinsuranceDesk") (bw_B hB (bw_m (rd_m 1 (by decide +kernel))))) (hts (.methodLink "ReinsuranceDeskLaw" 75 y_D_init) (bw_B hB (bw_m (rd_m 16 (by decide +kernel))))) (hts (.instanceMethod y_D_init) (bw_B hB (bw_m (rd_m 17 (by decide +kernel))))) rfl (by decide +kernel) ⟨(Nat.le_of_ble_eq_true rfl), (Nat.le_of_ble_eq_true rfl)⟩) ⟨fun a U g mk q => by obtain ⟨q0, q1, qP, qK, qD⟩ := q; exact ⟨q0, q1, qP, va_K.moved (u := U) (U := U.calling g mk a) (Vm.Alike.refl U.vm) qK, qD⟩, fun U hU hW => ⟨rfl, by rw [hU], by rw [hU]; exact hPc, va_K.moved hW.alike hK, hDc.weaken (fun _ _ _ _ => trivial)⟩⟩ rfl rfl hl.1 rfl (lv_room (Nat.le_of_ble_eq_true rfl)) d_L_law_4 ⟨(Nat.le_of_ble_eq_true rfl), (Nat.le_of_ble_eq_true rfl)⟩) hS (fun q _ h => hFc q h) hFc (fun u t H1 locs ht hvm h5 hB hz1 hk1 hS => ?_)
  obtain ⟨q5_4, q7_9_4, q15_9_4, q23_9_4, q16_4, q7_20_4, q15_20_4, q23_20_4, q31_20_4, q39_20_4, q47_20_4, q27_4, q7_31_4, q15_31_4, q23_31_4, q31_31_4, q39_31_4, q47_31_4, q55_31_4, q38_4, q22_54_4, q30_54_4, q39_54_4, q47_54_4, q55_54_4, q63_54_4, q71_54_4, q79_54_4, q87_54_4, q62_4, q70_4, hP1, hK1, hD1⟩ := hB
  rw [ht] at hP1
  obtain ⟨hP, hD⟩ := va_join (wr := []) (w1 := [(q0, .inr (4, [.ref q5_4, .ref q16_4, .ref q27_4, .ref q38_4, .ref q62_4, .ref q70_4])), (q5_4, .inr (2, [.ref q7_9_4, .ref q15_9_4, .ref q23_9_4])), (q7_9_4, bI cA 12), (q15_9_4, bI cA 12), (q23_9_4, bI cA 12), (q16_4, .inr (1, [rd_i 0, .ref q7_20_4, .ref q15_20_4, .ref q23_20_4, .ref q31_20_4, .ref q39_20_4, .ref q47_20_4])), (q7_20_4, bI cA 40), (q15_20_4, bI cA 40), (q23_20_4, bI cA 40), (q31_20_4, bI cA 40), (q39_20_4, bZ cA 40), (q47_20_4, bI cA 40), (q27_4, .inr (3, [rd_i 0, .ref q7_31_4, .ref q15_31_4, .ref q23_31_4, .ref q31_31_4, .ref q39_31_4, .ref q47_31_4, .ref q55_31_4])), (q7_31_4, bI cA 10), (q15_31_4, bI cA 10), (q23_31_4, bJ cA 10), (q31_31_4, bJ cA 10), (q39_31_4, bJ cA 10), (q47_31_4, bJ cA 10), (q55_31_4, bI cA 60), (q38_4, .inr (0, [.ref q5_4, .ref q16_4, .ref q27_4, .ref q22_54_4, .ref q30_54_4, .ref q39_54_4, .ref q47_54_4, .ref q55_54_4, .ref q63_54_4, .ref q71_54_4, .ref q79_54_4, rd_i 0, .ref q87_54_4])), (q22_54_4, bZ cA 40), (q30_54_4, bI cA 40), (q39_54_4, bI cA 400), (q47_54_4, bJ cA 10), (q55_54_4, bI cA 100), (q63_54_4, bJ cA 12), (q71_54_4, bJ cA 10), (q79_54_4, bI cA 40), (q87_54_4, bJ cA 40), (q62_4, bZ cA 4), (q70_4, bJ cA 6)]) hP hD [0] [] rfl rfl (by decide) (by decide) hk1 hFc hP1 hD1
  generalize H1 = H at hP hS ⊢
  have hP : va_P D rd_CL [(q0, .inr (4, [.ref q5_4, .ref q16_4, .ref q27_4, .ref q38_4, .ref q62_4, .ref q70_4])), (q5_4, .inr (2, [.ref q7_9_4, .ref q15_9_4, .ref q23_9_4])), (q7_9_4, bI cA 12), (q15_9_4, bI cA 12), (q23_9_4, bI cA 12), (q16_4, .inr (1, [rd_i 0, .ref q7_20_4, .ref q15_20_4, .ref q23_20_4, .ref q31_20_4, .ref q39_20_4, .ref q47_20_4])), (q7_20_4, bI cA 40), (q15_20_4, bI cA 40), (q23_20_4, bI cA 40), (q31_20_4, bI cA 40), (q39_20_4, bZ cA 40), (q47_20_4, bI cA 40), (q27_4, .inr (3, [rd_i 0, .ref q7_31_4, .ref q15_31_4, .ref q23_31_4, .ref q31_31_4, .ref q39_31_4, .ref q47_31_4, .ref q55_31_4])), (q7_31_4, bI cA 10), (q15_31_4, bI cA 10), (q23_31_4, bJ cA 10), (q31_31_4, bJ cA 10), (q39_31_4, bJ cA 10), (q47_31_4, bJ cA 10), (q55_31_4, bI cA 60), (q38_4, .inr (0, [.ref q5_4, .ref q16_4, .ref q27_4, .ref q22_54_4, .ref q30_54_4, .ref q39_54_4, .ref q47_54_4, .ref q55_54_4, .ref q63_54_4, .ref q71_54_4, .ref q79_54_4, rd_i 0, .ref q87_54_4])), (q22_54_4, bZ cA 40), (q30_54_4, bI cA 40), (q39_54_4, bI cA 400), (q47_54_4, bJ cA 10), (q55_54_4, bI cA 100), (q63_54_4, bJ cA 12), (q71_54_4, bJ cA 10), (q79_54_4, bI cA 40), (q87_54_4, bJ cA 40), (q62_4, bZ cA 4), (q70_4, bJ cA 6)] H := hP
  have hD : va_D A [(q0, .inr (4, [.ref q5_4, .ref q16_4, .ref q27_4, .ref q38_4, .ref q62_4, .ref q70_4])), (q5_4, .inr (2, [.ref q7_9_4, .ref q15_9_4, .ref q23_9_4])), (q7_9_4, bI cA 12), (q15_9_4, bI cA 12), (q23_9_4, bI cA 12), (q16_4, .inr (1, [rd_i 0, .ref q7_20_4, .ref q15_20_4, .ref q23_20_4, .ref q31_20_4, .ref q39_20_4, .ref q47_20_4])), (q7_20_4, bI cA 40), (q15_20_4, bI cA 40), (q23_20_4, bI cA 40), (q31_20_4, bI cA 40), (q39_20_4, bZ cA 40), (q47_20_4, bI cA 40), (q27_4, .inr (3, [rd_i 0, .ref q7_31_4, .ref q15_31_4, .ref q23_31_4, .ref q31_31_4, .ref q39_31_4, .ref q47_31_4, .ref q55_31_4])), (q7_31_4, bI cA 10), (q15_31_4, bI cA 10), (q23_31_4, bJ cA 10), (q31_31_4, bJ cA 10), (q39_31_4, bJ cA 10), (q47_31_4, bJ cA 10), (q55_31_4, bI cA 60), (q38_4, .inr (0, [.ref q5_4, .ref q16_4, .ref q27_4, .ref q22_54_4, .ref q30_54_4, .ref q39_54_4, .ref q47_54_4, .ref q55_54_4, .ref q63_54_4, .ref q71_54_4, .ref q79_54_4, rd_i 0, .ref q87_54_4])), (q22_54_4, bZ cA 40), (q30_54_4, bI cA 40), (q39_54_4, bI cA 400), (q47_54_4, bJ cA 10), (q55_54_4, bI cA 100), (q63_54_4, bJ cA 12), (q71_54_4, bJ cA 10), (q79_54_4, bI cA 40), (q87_54_4, bJ cA 40), (q62_4, bZ cA 4), (q70_4, bJ cA 6)] := hD
  refine W.widen (k := 32) (n := 1135) (Nat.le_of_ble_eq_true rfl) (Nat.le_of_ble_eq_true rfl) ?_
  refine lv_astore_n (pc := 7) hx hb d_L_law_7 rfl hl (by decide) rfl (fun ls hl => ?_)
  have hl : lv_has ls 8 [(1, .ref q0), (0, .ref b)] := hl
  refine va_new (pc := 8) (ci := 5) (fs := [rd_i 0, .null, .null, .null, .null, .null, .null, .null, .null, rd_i 0, .null, .null, .null, .null, .null, rd_i 0, .null, .null, .null, .null, .null, .null, .null, .null, .null, .null, .null, .null, rd_l 0, rd_l 0]) (C := "ReinsuranceDeskModel") (T := rd_T5) (N := 30) hx hb hts (fun w h => bw_B hB (bw_u5 w h)) rd_t5 rd_tt5 hown (hts (.classLink "ReinsuranceDeskLaw" 76 "ReinsuranceDeskModel") (bw_B hB (bw_m (rd_m 608 (by decide +kernel))))) (hts (.instantiable "ReinsuranceDeskModel" 30) (bw_B hB (bw_m (rd_m 609 (by decide +kernel))))) (hts (.initialized "ReinsuranceDeskModel") (bw_B hB (bw_m (rd_m 6 (by decide +kernel))))) hK hP hD hS hA rfl (fun j hj => by rcases (show j = 0 ∨ j = 1 ∨ j = 2 ∨ j = 3 ∨ j = 4 ∨ j = 5 ∨ j = 6 ∨ j = 7 ∨ j = 8 ∨ j = 9 ∨ j = 10 ∨ j = 11 ∨ j = 12 ∨ j = 13 ∨ j = 14 ∨ j = 15 ∨ j = 16 ∨ j = 17 ∨ j = 18 ∨ j = 19 ∨ j = 20 ∨ j = 21 ∨ j = 22 ∨ j = 23 ∨ j = 24 ∨ j = 25 ∨ j = 26 ∨ j = 27 ∨ j = 28 ∨ j = 29 by omega) with rfl | rfl | rfl | rfl | rfl | rfl | rfl | rfl | rfl | rfl | rfl | rfl | rfl | rfl | rfl | rfl | rfl | rfl | rfl | rfl | rfl | rfl | rfl | rfl | rfl | rfl | rfl | rfl | rfl | rfl <;> first | exact b0i | exact b0l | rfl) (Nat.le_of_ble_eq_true rfl) (Nat.le_of_ble_eq_true rfl) d_L_law_8 (fun q8 H hP hD hS => ?_)
  have hP : va_P D rd_CL [(q0, .inr (4, [.ref q5_4, .ref q16_4, .ref q27_4, .ref q38_4, .ref q62_4, .ref q70_4])), (q5_4, .inr (2, [.ref q7_9_4, .ref q15_9_4, .ref q23_9_4])), (q7_9_4, bI cA 12), (q15_9_4, bI cA 12), (q23_9_4, bI cA 12), (q16_4, .inr (1, [rd_i 0, .ref q7_20_4, .ref q15_20_4, .ref q23_20_4, .ref q31_20_4, .ref q39_20_4, .ref q47_20_4])), (q7_20_4, bI cA 40), (q15_20_4, bI cA 40), (q23_20_4, bI cA 40), (q31_20_4, bI cA 40), (q39_20_4, bZ cA 40), (q47_20_4, bI cA 40), (q27_4, .inr (3, [rd_i 0, .ref q7_31_4, .ref q15_31_4, .ref q23_31_4, .ref q31_31_4, .ref q39_31_4, .ref q47_31_4, .ref q55_31_4])), (q7_31_4, bI cA 10), (q15_31_4, bI cA 10), (q23_31_4, bJ cA 10), (q31_31_4, bJ cA 10), (q39_31_4, bJ cA 10), (q47_31_4, bJ cA 10), (q55_31_4, bI cA 60), (q38_4, .inr (0, [.ref q5_4, .ref q16_4, .ref q27_4, .ref q22_54_4, .ref q30_54_4, .ref q39_54_4, .ref q47_54_4, .ref q55_54_4, .ref q63_54_4, .ref q71_54_4, .ref q79_54_4, rd_i 0, .ref q87_54_4])), (q22_54_4, bZ cA 40), (q30_54_4, bI cA 40), (q39_54_4, bI cA 400), (q47_54_4, bJ cA 10), (q55_54_4, bI cA 100), (q63_54_4, bJ cA 12), (q71_54_4, bJ cA 10), (q79_54_4, bI cA 40), (q87_54_4, bJ cA 40), (q62_4, bZ cA 4), (q70_4, bJ cA 6), (q8, .inr (5, [rd_i 0, .null, .null, .null, .null, .null, .null, .null, .null, rd_i 0, .null, .null, .null, .null, .null, rd_i 0, .null, .null, .null, .null, .null, .null, .null, .null, .null, .null, .null, .null, rd_l 0, rd_l 0]))] H := hP
  have hD : va_D A [(q0, .inr (4, [.ref q5_4, .ref q16_4, .ref q27_4, .ref q38_4, .ref q62_4, .ref q70_4])), (q5_4, .inr (2, [.ref q7_9_4, .ref q15_9_4, .ref q23_9_4])), (q7_9_4, bI cA 12), (q15_9_4, bI cA 12), (q23_9_4, bI cA 12), (q16_4, .inr (1, [rd_i 0, .ref q7_20_4, .ref q15_20_4, .ref q23_20_4, .ref q31_20_4, .ref q39_20_4, .ref q47_20_4])), (q7_20_4, bI cA 40), (q15_20_4, bI cA 40), (q23_20_4, bI cA 40), (q31_20_4, bI cA 40), (q39_20_4, bZ cA 40), (q47_20_4, bI cA 40), (q27_4, .inr (3, [rd_i 0, .ref q7_31_4, .ref q15_31_4, .ref q23_31_4, .ref q31_31_4, .ref q39_31_4, .ref q47_31_4, .ref q55_31_4])), (q7_31_4, bI cA 10), (q15_31_4, bI cA 10), (q23_31_4, bJ cA 10), (q31_31_4, bJ cA 10), (q39_31_4, bJ cA 10), (q47_31_4, bJ cA 10), (q55_31_4, bI cA 60), (q38_4, .inr (0, [.ref q5_4, .ref q16_4, .ref q27_4, .ref q22_54_4, .ref q30_54_4, .ref q39_54_4, .ref q47_54_4, .ref q55_54_4, .ref q63_54_4, .ref q71_54_4, .ref q79_54_4, rd_i 0, .ref q87_54_4])), (q22_54_4, bZ cA 40), (q30_54_4, bI cA 40), (q39_54_4, bI cA 400), (q47_54_4, bJ cA 10), (q55_54_4, bI cA 100), (q63_54_4, bJ cA 12), (q71_54_4, bJ cA 10), (q79_54_4, bI cA 40), (q87_54_4, bJ cA 40), (q62_4, bZ cA 4), (q70_4, bJ cA 6), (q8, .inr (5, [rd_i 0, .null, .null, .null, .null, .null, .null, .null, .null, rd_i 0, .null, .null, .null, .null, .null, rd_i 0, .null, .null, .null, .null, .null, .null, .null, .null, .null, .null, .null, .null, rd_l 0, rd_l 0]))] := hD
  refine W.widen (k := 33) (n := 1165) (Nat.le_of_ble_eq_true rfl) (Nat.le_of_ble_eq_true rfl) ?_
  refine lv_dup (pc := 11) hx hb d_L_law_11 rfl ?_
  have hPc := hP.sub (ws' := [(q8, .inr (5, [rd_i 0, .null, .null, .null, .null, .null, .null, .null, .null, rd_i 0, .null, .null, .null, .null, .null, rd_i 0, .null, .null, .null, .null, .null, .null, .null, .null, .null, .null, .null, .null, rd_l 0, rd_l 0]))]) [32] rfl
  have hDc := hD.sub (ws' := [(q8, .inr (5, [rd_i 0, .null, .null, .null, .null, .null, .null, .null, .null, rd_i 0, .null, .null, .null, .null, .null, rd_i 0, .null, .null, .null, .null, .null, .null, .null, .null, .null, .null, .null, .null, rd_l 0, rd_l 0]))]) [32] (by decide) rfl
  have hFc := va_free (wc := [(q8, .inr (5, [rd_i 0, .null, .null, .null, .null, .null, .null, .null, .null, rd_i 0, .null, .null, .null, .null, .null, rd_i 0, .null, .null, .null, .null, .null, .null, .null, .null, .null, .null, .null, .null, rd_l 0, rd_l 0]))]) hD hS hA [32] rfl
  refine va_callv (va_runI (As := []) (rest := [.ref q8]) ⟨hx, hb, hml, hown, hts⟩ (e_M_init hB l D cA q8 H.size) (cwI 0 hts (bw_good hB wc_M_init (fun w h => h)) rfl rfl rfl (hts (.initialized "ReinsuranceDeskModel") (bw_B hB (bw_m (rd_m 6 (by decide +kernel))))) (hts (.methodLink "ReinsuranceDeskLaw" 78 y_M_init) (bw_B hB (bw_m (rd_m 610 (by decide +kernel))))) (hts (.instanceMethod y_M_init) (bw_B hB (bw_m (rd_m 611 (by decide +kernel))))) rfl (by decide +kernel) ⟨(Nat.le_of_ble_eq_true rfl), (Nat.le_of_ble_eq_true rfl)⟩) ⟨fun a U g mk q => by obtain ⟨q0, q1, qP, qK, qD⟩ := q; exact ⟨q0, q1, qP, va_K.moved (u := U) (U := U.calling g mk a) (Vm.Alike.refl U.vm) qK, qD⟩, fun U hU hW => ⟨rfl, by rw [hU], by rw [hU]; exact hPc, va_K.moved hW.alike hK, hDc.weaken (fun _ _ _ _ => trivial)⟩⟩ rfl rfl hl.1 rfl (lv_room (Nat.le_of_ble_eq_true rfl)) d_L_law_12 ⟨(Nat.le_of_ble_eq_true rfl), (Nat.le_of_ble_eq_true rfl)⟩) hS (fun q _ h => hFc q h) hFc (fun u t H1 locs ht hvm h5 hB hz1 hk1 hS => ?_)
  obtain ⟨q7_12, q15_12, q23_12, q31_12, q39_12, q47_12, q55_12, q63_12, q71_12, q79_12, q87_12, q95_12, q103_12, q111_12, q119_12, q126_12, q134_12, q143_12, q151_12, q159_12, q167_12, q175_12, q183_12, q191_12, q199_12, hP1, hK1, hD1⟩ := hB
  rw [ht] at hP1
  obtain ⟨hP, hD⟩ := va_join (wr := [(q0, .inr (4, [.ref q5_4, .ref q16_4, .ref q27_4, .ref q38_4, .ref q62_4, .ref q70_4])), (q5_4, .inr (2, [.ref q7_9_4, .ref q15_9_4, .ref q23_9_4])), (q7_9_4, bI cA 12), (q15_9_4, bI cA 12), (q23_9_4, bI cA 12), (q16_4, .inr (1, [rd_i 0, .ref q7_20_4, .ref q15_20_4, .ref q23_20_4, .ref q31_20_4, .ref q39_20_4, .ref q47_20_4])), (q7_20_4, bI cA 40), (q15_20_4, bI cA 40), (q23_20_4, bI cA 40), (q31_20_4, bI cA 40), (q39_20_4, bZ cA 40), (q47_20_4, bI cA 40), (q27_4, .inr (3, [rd_i 0, .ref q7_31_4, .ref q15_31_4, .ref q23_31_4, .ref q31_31_4, .ref q39_31_4, .ref q47_31_4, .ref q55_31_4])), (q7_31_4, bI cA 10), (q15_31_4, bI cA 10), (q23_31_4, bJ cA 10), (q31_31_4, bJ cA 10), (q39_31_4, bJ cA 10), (q47_31_4, bJ cA 10), (q55_31_4, bI cA 60), (q38_4, .inr (0, [.ref q5_4, .ref q16_4, .ref q27_4, .ref q22_54_4, .ref q30_54_4, .ref q39_54_4, .ref q47_54_4, .ref q55_54_4, .ref q63_54_4, .ref q71_54_4, .ref q79_54_4, rd_i 0, .ref q87_54_4])), (q22_54_4, bZ cA 40), (q30_54_4, bI cA 40), (q39_54_4, bI cA 400), (q47_54_4, bJ cA 10), (q55_54_4, bI cA 100), (q63_54_4, bJ cA 12), (q71_54_4, bJ cA 10), (q79_54_4, bI cA 40), (q87_54_4, bJ cA 40), (q62_4, bZ cA 4), (q70_4, bJ cA 6)]) (w1 := [(q8, .inr (5, [rd_i 0, .ref q7_12, .ref q15_12, .ref q23_12, .ref q31_12, .ref q39_12, .ref q47_12, .ref q55_12, .ref q63_12, rd_i 0, .ref q71_12, .ref q79_12, .ref q87_12, .ref q95_12, .ref q103_12, rd_i 0, .ref q111_12, .ref q119_12, .ref q126_12, .ref q134_12, .ref q143_12, .ref q151_12, .ref q159_12, .ref q167_12, .ref q175_12, .ref q183_12, .ref q191_12, .ref q199_12, rd_l 0, rd_l 0])), (q7_12, bI cA 12), (q15_12, bI cA 12), (q23_12, bI cA 12), (q31_12, bI cA 40), (q39_12, bI cA 40), (q47_12, bI cA 40), (q55_12, bI cA 40), (q63_12, bZ cA 40), (q71_12, bI cA 10), (q79_12, bI cA 10), (q87_12, bI cA 10), (q95_12, bI cA 10), (q103_12, bI cA 10), (q111_12, bI cA 60), (q119_12, bJ cA 6), (q126_12, bZ cA 4), (q134_12, bJ cA 40), (q143_12, bJ cA 400), (q151_12, bJ cA 10), (q159_12, bJ cA 10), (q167_12, bI cA 100), (q175_12, bJ cA 12), (q183_12, bZ cA 40), (q191_12, bJ cA 40), (q199_12, bI cA 40)]) hP hD [32] [0, 1, 2, 3, 4, 5, 6, 7, 8, 9, 10, 11, 12, 13, 14, 15, 16, 17, 18, 19, 20, 21, 22, 23, 24, 25, 26, 27, 28, 29, 30, 31] rfl rfl (by decide) (by decide) hk1 hFc hP1 hD1
  generalize H1 = H at hP hS ⊢
  have hP : va_P D rd_CL [(q0, .inr (4, [.ref q5_4, .ref q16_4, .ref q27_4, .ref q38_4, .ref q62_4, .ref q70_4])), (q5_4, .inr (2, [.ref q7_9_4, .ref q15_9_4, .ref q23_9_4])), (q7_9_4, bI cA 12), (q15_9_4, bI cA 12), (q23_9_4, bI cA 12), (q16_4, .inr (1, [rd_i 0, .ref q7_20_4, .ref q15_20_4, .ref q23_20_4, .ref q31_20_4, .ref q39_20_4, .ref q47_20_4])), (q7_20_4, bI cA 40), (q15_20_4, bI cA 40), (q23_20_4, bI cA 40), (q31_20_4, bI cA 40), (q39_20_4, bZ cA 40), (q47_20_4, bI cA 40), (q27_4, .inr (3, [rd_i 0, .ref q7_31_4, .ref q15_31_4, .ref q23_31_4, .ref q31_31_4, .ref q39_31_4, .ref q47_31_4, .ref q55_31_4])), (q7_31_4, bI cA 10), (q15_31_4, bI cA 10), (q23_31_4, bJ cA 10), (q31_31_4, bJ cA 10), (q39_31_4, bJ cA 10), (q47_31_4, bJ cA 10), (q55_31_4, bI cA 60), (q38_4, .inr (0, [.ref q5_4, .ref q16_4, .ref q27_4, .ref q22_54_4, .ref q30_54_4, .ref q39_54_4, .ref q47_54_4, .ref q55_54_4, .ref q63_54_4, .ref q71_54_4, .ref q79_54_4, rd_i 0, .ref q87_54_4])), (q22_54_4, bZ cA 40), (q30_54_4, bI cA 40), (q39_54_4, bI cA 400), (q47_54_4, bJ cA 10), (q55_54_4, bI cA 100), (q63_54_4, bJ cA 12), (q71_54_4, bJ cA 10), (q79_54_4, bI cA 40), (q87_54_4, bJ cA 40), (q62_4, bZ cA 4), (q70_4, bJ cA 6), (q8, .inr (5, [rd_i 0, .ref q7_12, .ref q15_12, .ref q23_12, .ref q31_12, .ref q39_12, .ref q47_12, .ref q55_12, .ref q63_12, rd_i 0, .ref q71_12, .ref q79_12, .ref q87_12, .ref q95_12, .ref q103_12, rd_i 0, .ref q111_12, .ref q119_12, .ref q126_12, .ref q134_12, .ref q143_12, .ref q151_12, .ref q159_12, .ref q167_12, .ref q175_12, .ref q183_12, .ref q191_12, .ref q199_12, rd_l 0, rd_l 0])), (q7_12, bI cA 12), (q15_12, bI cA 12), (q23_12, bI cA 12), (q31_12, bI cA 40), (q39_12, bI cA 40), (q47_12, bI cA 40), (q55_12, bI cA 40), (q63_12, bZ cA 40), (q71_12, bI cA 10), (q79_12, bI cA 10), (q87_12, bI cA 10), (q95_12, bI cA 10), (q103_12, bI cA 10), (q111_12, bI cA 60), (q119_12, bJ cA 6), (q126_12, bZ cA 4), (q134_12, bJ cA 40), (q143_12, bJ cA 400), (q151_12, bJ cA 10), (q159_12, bJ cA 10), (q167_12, bI cA 100), (q175_12, bJ cA 12), (q183_12, bZ cA 40), (q191_12, bJ cA 40), (q199_12, bI cA 40)] H := hP
  have hD : va_D A [(q0, .inr (4, [.ref q5_4, .ref q16_4, .ref q27_4, .ref q38_4, .ref q62_4, .ref q70_4])), (q5_4, .inr (2, [.ref q7_9_4, .ref q15_9_4, .ref q23_9_4])), (q7_9_4, bI cA 12), (q15_9_4, bI cA 12), (q23_9_4, bI cA 12), (q16_4, .inr (1, [rd_i 0, .ref q7_20_4, .ref q15_20_4, .ref q23_20_4, .ref q31_20_4, .ref q39_20_4, .ref q47_20_4])), (q7_20_4, bI cA 40), (q15_20_4, bI cA 40), (q23_20_4, bI cA 40), (q31_20_4, bI cA 40), (q39_20_4, bZ cA 40), (q47_20_4, bI cA 40), (q27_4, .inr (3, [rd_i 0, .ref q7_31_4, .ref q15_31_4, .ref q23_31_4, .ref q31_31_4, .ref q39_31_4, .ref q47_31_4, .ref q55_31_4])), (q7_31_4, bI cA 10), (q15_31_4, bI cA 10), (q23_31_4, bJ cA 10), (q31_31_4, bJ cA 10), (q39_31_4, bJ cA 10), (q47_31_4, bJ cA 10), (q55_31_4, bI cA 60), (q38_4, .inr (0, [.ref q5_4, .ref q16_4, .ref q27_4, .ref q22_54_4, .ref q30_54_4, .ref q39_54_4, .ref q47_54_4, .ref q55_54_4, .ref q63_54_4, .ref q71_54_4, .ref q79_54_4, rd_i 0, .ref q87_54_4])), (q22_54_4, bZ cA 40), (q30_54_4, bI cA 40), (q39_54_4, bI cA 400), (q47_54_4, bJ cA 10), (q55_54_4, bI cA 100), (q63_54_4, bJ cA 12), (q71_54_4, bJ cA 10), (q79_54_4, bI cA 40), (q87_54_4, bJ cA 40), (q62_4, bZ cA 4), (q70_4, bJ cA 6), (q8, .inr (5, [rd_i 0, .ref q7_12, .ref q15_12, .ref q23_12, .ref q31_12, .ref q39_12, .ref q47_12, .ref q55_12, .ref q63_12, rd_i 0, .ref q71_12, .ref q79_12, .ref q87_12, .ref q95_12, .ref q103_12, rd_i 0, .ref q111_12, .ref q119_12, .ref q126_12, .ref q134_12, .ref q143_12, .ref q151_12, .ref q159_12, .ref q167_12, .ref q175_12, .ref q183_12, .ref q191_12, .ref q199_12, rd_l 0, rd_l 0])), (q7_12, bI cA 12), (q15_12, bI cA 12), (q23_12, bI cA 12), (q31_12, bI cA 40), (q39_12, bI cA 40), (q47_12, bI cA 40), (q55_12, bI cA 40), (q63_12, bZ cA 40), (q71_12, bI cA 10), (q79_12, bI cA 10), (q87_12, bI cA 10), (q95_12, bI cA 10), (q103_12, bI cA 10), (q111_12, bI cA 60), (q119_12, bJ cA 6), (q126_12, bZ cA 4), (q134_12, bJ cA 40), (q143_12, bJ cA 400), (q151_12, bJ cA 10), (q159_12, bJ cA 10), (q167_12, bI cA 100), (q175_12, bJ cA 12), (q183_12, bZ cA 40), (q191_12, bJ cA 40), (q199_12, bI cA 40)] := hD
  refine W.widen (k := 58) (n := 2213) (Nat.le_of_ble_eq_true rfl) (Nat.le_of_ble_eq_true rfl) ?_
  refine lv_astore_n (pc := 15) hx hb d_L_law_15 rfl hl (by decide) rfl (fun ls hl => ?_)
  have hl : lv_has ls 8 [(2, .ref q8), (1, .ref q0), (0, .ref b)] := hl
  refine lv_iconst (pc := 16) (v := Int32.ofInt 1) hx hb d_L_law_16 rfl ?_
  refine bd_newa (pc := 17) (atype := .long) (N' := 1) (a0 := (1, .inr (.inl (fun _ => Int64.ofInt 0)))) hx hb (hts (.arrayClass .long) (bw_B hB (bw_m (rd_m 126 (by decide +kernel))))) (ty := .long) rfl 1 rfl (fun _ h => h) hK hP hD hS hA (bJ_ha 1) (by decide) (by decide) (by decide) (Nat.le_of_ble_eq_true rfl) (Nat.le_of_ble_eq_true rfl) d_L_law_17 (fun q17 H hP hD hS => ?_)
  have hP : va_P D rd_CL [(q0, .inr (4, [.ref q5_4, .ref q16_4, .ref q27_4, .ref q38_4, .ref q62_4, .ref q70_4])), (q5_4, .inr (2, [.ref q7_9_4, .ref q15_9_4, .ref q23_9_4])), (q7_9_4, bI cA 12), (q15_9_4, bI cA 12), (q23_9_4, bI cA 12), (q16_4, .inr (1, [rd_i 0, .ref q7_20_4, .ref q15_20_4, .ref q23_20_4, .ref q31_20_4, .ref q39_20_4, .ref q47_20_4])), (q7_20_4, bI cA 40), (q15_20_4, bI cA 40), (q23_20_4, bI cA 40), (q31_20_4, bI cA 40), (q39_20_4, bZ cA 40), (q47_20_4, bI cA 40), (q27_4, .inr (3, [rd_i 0, .ref q7_31_4, .ref q15_31_4, .ref q23_31_4, .ref q31_31_4, .ref q39_31_4, .ref q47_31_4, .ref q55_31_4])), (q7_31_4, bI cA 10), (q15_31_4, bI cA 10), (q23_31_4, bJ cA 10), (q31_31_4, bJ cA 10), (q39_31_4, bJ cA 10), (q47_31_4, bJ cA 10), (q55_31_4, bI cA 60), (q38_4, .inr (0, [.ref q5_4, .ref q16_4, .ref q27_4, .ref q22_54_4, .ref q30_54_4, .ref q39_54_4, .ref q47_54_4, .ref q55_54_4, .ref q63_54_4, .ref q71_54_4, .ref q79_54_4, rd_i 0, .ref q87_54_4])), (q22_54_4, bZ cA 40), (q30_54_4, bI cA 40), (q39_54_4, bI cA 400), (q47_54_4, bJ cA 10), (q55_54_4, bI cA 100), (q63_54_4, bJ cA 12), (q71_54_4, bJ cA 10), (q79_54_4, bI cA 40), (q87_54_4, bJ cA 40), (q62_4, bZ cA 4), (q70_4, bJ cA 6), (q8, .inr (5, [rd_i 0, .ref q7_12, .ref q15_12, .ref q23_12, .ref q31_12, .ref q39_12, .ref q47_12, .ref q55_12, .ref q63_12, rd_i 0, .ref q71_12, .ref q79_12, .ref q87_12, .ref q95_12, .ref q103_12, rd_i 0, .ref q111_12, .ref q119_12, .ref q126_12, .ref q134_12, .ref q143_12, .ref q151_12, .ref q159_12, .ref q167_12, .ref q175_12, .ref q183_12, .ref q191_12, .ref q199_12, rd_l 0, rd_l 0])), (q7_12, bI cA 12), (q15_12, bI cA 12), (q23_12, bI cA 12), (q31_12, bI cA 40), (q39_12, bI cA 40), (q47_12, bI cA 40), (q55_12, bI cA 40), (q63_12, bZ cA 40), (q71_12, bI cA 10), (q79_12, bI cA 10), (q87_12, bI cA 10), (q95_12, bI cA 10), (q103_12, bI cA 10), (q111_12, bI cA 60), (q119_12, bJ cA 6), (q126_12, bZ cA 4), (q134_12, bJ cA 40), (q143_12, bJ cA 400), (q151_12, bJ cA 10), (q159_12, bJ cA 10), (q167_12, bI cA 100), (q175_12, bJ cA 12), (q183_12, bZ cA 40), (q191_12, bJ cA 40), (q199_12, bI cA 40), (q17, bJ cA 1)] H := hP
  have hD : va_D A [(q0, .inr (4, [.ref q5_4, .ref q16_4, .ref q27_4, .ref q38_4, .ref q62_4, .ref q70_4])), (q5_4, .inr (2, [.ref q7_9_4, .ref q15_9_4, .ref q23_9_4])), (q7_9_4, bI cA 12), (q15_9_4, bI cA 12), (q23_9_4, bI cA 12), (q16_4, .inr (1, [rd_i 0, .ref q7_20_4, .ref q15_20_4, .ref q23_20_4, .ref q31_20_4, .ref q39_20_4, .ref q47_20_4])), (q7_20_4, bI cA 40), (q15_20_4, bI cA 40), (q23_20_4, bI cA 40), (q31_20_4, bI cA 40), (q39_20_4, bZ cA 40), (q47_20_4, bI cA 40), (q27_4, .inr (3, [rd_i 0, .ref q7_31_4, .ref q15_31_4, .ref q23_31_4, .ref q31_31_4, .ref q39_31_4, .ref q47_31_4, .ref q55_31_4])), (q7_31_4, bI cA 10), (q15_31_4, bI cA 10), (q23_31_4, bJ cA 10), (q31_31_4, bJ cA 10), (q39_31_4, bJ cA 10), (q47_31_4, bJ cA 10), (q55_31_4, bI cA 60), (q38_4, .inr (0, [.ref q5_4, .ref q16_4, .ref q27_4, .ref q22_54_4, .ref q30_54_4, .ref q39_54_4, .ref q47_54_4, .ref q55_54_4, .ref q63_54_4, .ref q71_54_4, .ref q79_54_4, rd_i 0, .ref q87_54_4])), (q22_54_4, bZ cA 40), (q30_54_4, bI cA 40), (q39_54_4, bI cA 400), (q47_54_4, bJ cA 10), (q55_54_4, bI cA 100), (q63_54_4, bJ cA 12), (q71_54_4, bJ cA 10), (q79_54_4, bI cA 40), (q87_54_4, bJ cA 40), (q62_4, bZ cA 4), (q70_4, bJ cA 6), (q8, .inr (5, [rd_i 0, .ref q7_12, .ref q15_12, .ref q23_12, .ref q31_12, .ref q39_12, .ref q47_12, .ref q55_12, .ref q63_12, rd_i 0, .ref q71_12, .ref q79_12, .ref q87_12, .ref q95_12, .ref q103_12, rd_i 0, .ref q111_12, .ref q119_12, .ref q126_12, .ref q134_12, .ref q143_12, .ref q151_12, .ref q159_12, .ref q167_12, .ref q175_12, .ref q183_12, .ref q191_12, .ref q199_12, rd_l 0, rd_l 0])), (q7_12, bI cA 12), (q15_12, bI cA 12), (q23_12, bI cA 12), (q31_12, bI cA 40), (q39_12, bI cA 40), (q47_12, bI cA 40), (q55_12, bI cA 40), (q63_12, bZ cA 40), (q71_12, bI cA 10), (q79_12, bI cA 10), (q87_12, bI cA 10), (q95_12, bI cA 10), (q103_12, bI cA 10), (q111_12, bI cA 60), (q119_12, bJ cA 6), (q126_12, bZ cA 4), (q134_12, bJ cA 40), (q143_12, bJ cA 400), (q151_12, bJ cA 10), (q159_12, bJ cA 10), (q167_12, bI cA 100), (q175_12, bJ cA 12), (q183_12, bZ cA 40), (q191_12, bJ cA 40), (q199_12, bI cA 40), (q17, bJ cA 1)] := hD
  refine W.widen (k := 59) (n := 2214) (Nat.le_of_ble_eq_true rfl) (Nat.le_of_ble_eq_true rfl) ?_
  refine lv_astore_n (pc := 19) hx hb d_L_law_19 rfl hl (by decide) rfl (fun ls hl => ?_)
  have hl : lv_has ls 8 [(3, .ref q17), (2, .ref q8), (1, .ref q0), (0, .ref b)] := hl
  refine lv_iconst (pc := 20) (v := Int32.ofInt 0) hx hb d_L_law_20 rfl ?_
  refine lv_istore (pc := 21) hx hb d_L_law_21 hl (by decide) rfl (fun ls hl => ?_)
  have hl : lv_has ls 8 [(4, .int (Int32.ofInt 0)), (3, .ref q17), (2, .ref q8), (1, .ref q0), (0, .ref b)] := hl
  have hP := hP.sub (ws' := [(q0, .inr (4, [.ref q5_4, .ref q16_4, .ref q27_4, .ref q38_4, .ref q62_4, .ref q70_4])), (q5_4, .inr (2, [.ref q7_9_4, .ref q15_9_4, .ref q23_9_4])), (q16_4, .inr (1, [rd_i 0, .ref q7_20_4, .ref q15_20_4, .ref q23_20_4, .ref q31_20_4, .ref q39_20_4, .ref q47_20_4])), (q27_4, .inr (3, [rd_i 0, .ref q7_31_4, .ref q15_31_4, .ref q23_31_4, .ref q31_31_4, .ref q39_31_4, .ref q47_31_4, .ref q55_31_4])), (q38_4, .inr (0, [.ref q5_4, .ref q16_4, .ref q27_4, .ref q22_54_4, .ref q30_54_4, .ref q39_54_4, .ref q47_54_4, .ref q55_54_4, .ref q63_54_4, .ref q71_54_4, .ref q79_54_4, rd_i 0, .ref q87_54_4])), (q62_4, bZ cA 4), (q70_4, bJ cA 6), (q7_9_4, bI cA 12), (q15_9_4, bI cA 12), (q23_9_4, bI cA 12), (q7_20_4, bI cA 40), (q15_20_4, bI cA 40), (q23_20_4, bI cA 40), (q31_20_4, bI cA 40), (q39_20_4, bZ cA 40), (q47_20_4, bI cA 40), (q7_31_4, bI cA 10), (q15_31_4, bI cA 10), (q23_31_4, bJ cA 10), (q31_31_4, bJ cA 10), (q39_31_4, bJ cA 10), (q47_31_4, bJ cA 10), (q55_31_4, bI cA 60), (q22_54_4, bZ cA 40), (q30_54_4, bI cA 40), (q39_54_4, bI cA 400), (q47_54_4, bJ cA 10), (q55_54_4, bI cA 100), (q63_54_4, bJ cA 12), (q71_54_4, bJ cA 10), (q79_54_4, bI cA 40), (q87_54_4, bJ cA 40), (q8, .inr (5, [rd_i 0, .ref q7_12, .ref q15_12, .ref q23_12, .ref q31_12, .ref q39_12, .ref q47_12, .ref q55_12, .ref q63_12, rd_i 0, .ref q71_12, .ref q79_12, .ref q87_12, .ref q95_12, .ref q103_12, rd_i 0, .ref q111_12, .ref q119_12, .ref q126_12, .ref q134_12, .ref q143_12, .ref q151_12, .ref q159_12, .ref q167_12, .ref q175_12, .ref q183_12, .ref q191_12, .ref q199_12, rd_l 0, rd_l 0])), (q7_12, bI cA 12), (q15_12, bI cA 12), (q23_12, bI cA 12), (q31_12, bI cA 40), (q39_12, bI cA 40), (q47_12, bI cA 40), (q55_12, bI cA 40), (q63_12, bZ cA 40), (q71_12, bI cA 10), (q79_12, bI cA 10), (q87_12, bI cA 10), (q95_12, bI cA 10), (q103_12, bI cA 10), (q111_12, bI cA 60), (q119_12, bJ cA 6), (q126_12, bZ cA 4), (q134_12, bJ cA 40), (q143_12, bJ cA 400), (q151_12, bJ cA 10), (q159_12, bJ cA 10), (q167_12, bI cA 100), (q175_12, bJ cA 12), (q183_12, bZ cA 40), (q191_12, bJ cA 40), (q199_12, bI cA 40), (q17, bJ cA 1)]) [0, 1, 5, 12, 20, 30, 31, 2, 3, 4, 6, 7, 8, 9, 10, 11, 13, 14, 15, 16, 17, 18, 19, 21, 22, 23, 24, 25, 26, 27, 28, 29, 32, 33, 34, 35, 36, 37, 38, 39, 40, 41, 42, 43, 44, 45, 46, 47, 48, 49, 50, 51, 52, 53, 54, 55, 56, 57, 58] rfl
  have hD := hD.sub (ws' := [(q0, .inr (4, [.ref q5_4, .ref q16_4, .ref q27_4, .ref q38_4, .ref q62_4, .ref q70_4])), (q5_4, .inr (2, [.ref q7_9_4, .ref q15_9_4, .ref q23_9_4])), (q16_4, .inr (1, [rd_i 0, .ref q7_20_4, .ref q15_20_4, .ref q23_20_4, .ref q31_20_4, .ref q39_20_4, .ref q47_20_4])), (q27_4, .inr (3, [rd_i 0, .ref q7_31_4, .ref q15_31_4, .ref q23_31_4, .ref q31_31_4, .ref q39_31_4, .ref q47_31_4, .ref q55_31_4])), (q38_4, .inr (0, [.ref q5_4, .ref q16_4, .ref q27_4, .ref q22_54_4, .ref q30_54_4, .ref q39_54_4, .ref q47_54_4, .ref q55_54_4, .ref q63_54_4, .ref q71_54_4, .ref q79_54_4, rd_i 0, .ref q87_54_4])), (q62_4, bZ cA 4), (q70_4, bJ cA 6), (q7_9_4, bI cA 12), (q15_9_4, bI cA 12), (q23_9_4, bI cA 12), (q7_20_4, bI cA 40), (q15_20_4, bI cA 40), (q23_20_4, bI cA 40), (q31_20_4, bI cA 40), (q39_20_4, bZ cA 40), (q47_20_4, bI cA 40), (q7_31_4, bI cA 10), (q15_31_4, bI cA 10), (q23_31_4, bJ cA 10), (q31_31_4, bJ cA 10), (q39_31_4, bJ cA 10), (q47_31_4, bJ cA 10), (q55_31_4, bI cA 60), (q22_54_4, bZ cA 40), (q30_54_4, bI cA 40), (q39_54_4, bI cA 400), (q47_54_4, bJ cA 10), (q55_54_4, bI cA 100), (q63_54_4, bJ cA 12), (q71_54_4, bJ cA 10), (q79_54_4, bI cA 40), (q87_54_4, bJ cA 40), (q8, .inr (5, [rd_i 0, .ref q7_12, .ref q15_12, .ref q23_12, .ref q31_12, .ref q39_12, .ref q47_12, .ref q55_12, .ref q63_12, rd_i 0, .ref q71_12, .ref q79_12, .ref q87_12, .ref q95_12, .ref q103_12, rd_i 0, .ref q111_12, .ref q119_12, .ref q126_12, .ref q134_12, .ref q143_12, .ref q151_12, .ref q159_12, .ref q167_12, .ref q175_12, .ref q183_12, .ref q191_12, .ref q199_12, rd_l 0, rd_l 0])), (q7_12, bI cA 12), (q15_12, bI cA 12), (q23_12, bI cA 12), (q31_12, bI cA 40), (q39_12, bI cA 40), (q47_12, bI cA 40), (q55_12, bI cA 40), (q63_12, bZ cA 40), (q71_12, bI cA 10), (q79_12, bI cA 10), (q87_12, bI cA 10), (q95_12, bI cA 10), (q103_12, bI cA 10), (q111_12, bI cA 60), (q119_12, bJ cA 6), (q126_12, bZ cA 4), (q134_12, bJ cA 40), (q143_12, bJ cA 400), (q151_12, bJ cA 10), (q159_12, bJ cA 10), (q167_12, bI cA 100), (q175_12, bJ cA 12), (q183_12, bZ cA 40), (q191_12, bJ cA 40), (q199_12, bI cA 40), (q17, bJ cA 1)]) [0, 1, 5, 12, 20, 30, 31, 2, 3, 4, 6, 7, 8, 9, 10, 11, 13, 14, 15, 16, 17, 18, 19, 21, 22, 23, 24, 25, 26, 27, 28, 29, 32, 33, 34, 35, 36, 37, 38, 39, 40, 41, 42, 43, 44, 45, 46, 47, 48, 49, 50, 51, 52, 53, 54, 55, 56, 57, 58] (by decide) rfl
  generalize hσ : (fun k => if k = 999 then b else ([q0, q5_4, q16_4, q27_4, q38_4, q62_4, q70_4, q7_9_4, q15_9_4, q23_9_4, q7_20_4, q15_20_4, q23_20_4, q31_20_4, q39_20_4, q47_20_4, q7_31_4, q15_31_4, q23_31_4, q31_31_4, q39_31_4, q47_31_4, q55_31_4, q22_54_4, q30_54_4, q39_54_4, q47_54_4, q55_54_4, q63_54_4, q71_54_4, q79_54_4, q87_54_4, q8, q7_12, q15_12, q23_12, q31_12, q39_12, q47_12, q55_12, q63_12, q71_12, q79_12, q87_12, q95_12, q103_12, q111_12, q119_12, q126_12, q134_12, q143_12, q151_12, q159_12, q167_12, q175_12, q183_12, q191_12, q199_12, q17] : List Nat).getD k 0) = σ
  rw [← ws_wd b q0 q5_4 q16_4 q27_4 q38_4 q62_4 q70_4 q7_9_4 q15_9_4 q23_9_4 q7_20_4 q15_20_4 q23_20_4 q31_20_4 q39_20_4 q47_20_4 q7_31_4 q15_31_4 q23_31_4 q31_31_4 q39_31_4 q47_31_4 q55_31_4 q22_54_4 q30_54_4 q39_54_4 q47_54_4 q55_54_4 q63_54_4 q71_54_4 q79_54_4 q87_54_4 q8 q7_12 q15_12 q23_12 q31_12 q39_12 q47_12 q55_12 q63_12 q71_12 q79_12 q87_12 q95_12 q103_12 q111_12 q119_12 q126_12 q134_12 q143_12 q151_12 q159_12 q167_12 q175_12 q183_12 q191_12 q199_12 q17 cA σ hσ.symm] at hP hD
  have s999 : σ 999 = b := by rw [← hσ]; rfl
  have s0 : σ 0 = q0 := by rw [← hσ]; rfl
  have s32 : σ 32 = q8 := by rw [← hσ]; rfl
  have s58 : σ 58 = q17 := by rw [← hσ]; rfl
  have hat : ∀ i (hi : i < rd_SH.length), (rd_wd σ cA (fun _ _ => 0))[i]? = some (σ i, rd_cell σ cA ((fun _ _ => 0 : rd_M) i) rd_SH[i]) := fun i hi => rd_wd_at (List.getElem?_eq_getElem hi)
  have hj : rd_inj σ := fun i j hi hj e => hD.1 i j _ _ (hat i hi) (hat j hj) e
  have hAs : ∀ i, i < rd_SH.length → A (σ i) := fun i hi => hD.2 i _ (hat i hi)
  have hls : rd_L σ ls 8 [some (.ref 999), some (.ref 0), some (.ref 32), some (.ref 58), some (rd_i 0), none, none, none] := by
    refine ⟨hl.1, hl.2.1, by decide, fun i v hv => ?_⟩
    match i, hv with
    | 0, hv => cases hv; show ls[0]? = some (.val (.ref (σ 999))); rw [s999]; exact hl.2.2 _ (List.mem_of_getElem? (i := 4) rfl)
    | 1, hv => cases hv; show ls[1]? = some (.val (.ref (σ 0))); rw [s0]; exact hl.2.2 _ (List.mem_of_getElem? (i := 3) rfl)
    | 2, hv => cases hv; show ls[2]? = some (.val (.ref (σ 32))); rw [s32]; exact hl.2.2 _ (List.mem_of_getElem? (i := 2) rfl)
    | 3, hv => cases hv; show ls[3]? = some (.val (.ref (σ 58))); rw [s58]; exact hl.2.2 _ (List.mem_of_getElem? (i := 1) rfl)
    | 4, hv => cases hv; exact hl.2.2 _ (List.mem_of_getElem? (i := 0) rfl)
    | 5, hv => cases hv
    | 6, hv => cases hv
    | 7, hv => cases hv
    | n + 8, hv => exact absurd hv (by simp)
  have hxs : (fun j : Nat => Int32.ofInt ((fun j : Int => (xs j.toNat).toInt) (j : Int))) = xs := by
    funext j
    show Int32.ofInt (xs ((j : Int).toNat)).toInt = xs j
    rw [Int32.ofInt_toInt, Int.toNat_natCast]
  have hG := lq_L_law (Ls := L) (xs := fun j : Int => (xs j.toNat).toInt) (Q := fun r _ => r = .inl (some (rd_i 1))) (fun j => ⟨by have := Int32.le_toInt (xs j.toNat); omega, by have := Int32.toInt_lt (xs j.toNat); omega⟩) hL (fun _ => rfl) _ 0 400 0 0 (fun k => k) (fun _ _ => 0) rfl (by omega) (by omega) k_0
  have hCx : rd_Cx (x_L_law L (fun j : Int => (xs j.toNat).toInt)) p l e room_1 s m #[Value.ref b] meth c σ D cA A :=
    ⟨hx, hb, hml, hown, fun w hw => htl w (List.mem_filter.mp hw).1, hK, hj, hAs, hA, ⟨(Nat.le_of_ble_eq_true rfl), (Nat.le_of_ble_eq_true rfl), (Nat.le_of_ble_eq_true rfl), (Nat.le_of_ble_eq_true rfl)⟩, hr, hlocks, htb, hXF, fun Ls ys hsc => by
      have e9 : (L, fun j : Int => (xs j.toNat).toInt) = (Ls, ys) := Option.some.inj hsc
      cases e9
      refine ⟨?_, by rw [s999]; exact hbl, fun h9 => ?_, by omega⟩
      · rw [s999, hxs]; exact hX
      · have := hAn _ h9
        rw [s999] at this
        omega⟩
  intro T hT X
  obtain ⟨t, a1, o, r, M', b1, b2, b3, b4, b5, Lc, b6, b7, b8, b9⟩ := hG p l e room_1 s m #[Value.ref b] below meth c σ D cA A hCx H locs ls _ _ (Nat.le_of_ble_eq_true rfl) (Nat.le_of_ble_eq_true rfl) hP hS hls T hT X
  subst b4
  have b3 : o = .returned (some (.int 1)) := b3
  exact ⟨t, a1, o, b1, b2, b3, ⟨_, b3⟩, b6, (lw_fg b7 (fun q hq => hAn _ (b8 q hq))).mono (Nat.le_of_ble_eq_true rfl) (Nat.le_of_ble_eq_true rfl)⟩
