/-! the law's start: classes, texts, constructors, loop -/
theorem bw_ts {s : State} {args : Array Value} (hts : ∀ w ∈ lw_tbl, w.before args s = true) : ∀ w ∈ bw, w.before args s = true := fun w h => hts w (List.mem_filter.mp (bw_in w h)).1
set_option maxHeartbeats 4000000 in
set_option maxRecDepth 100000 in
theorem ws_K {s : State} {args : Array Value} (ht : ∀ w ∈ bw, w.before args s = true) : ∃ (D : va_G) (cA : Nat → ClassId), va_K D rd_CL (rd_ty cA) s := by
  obtain ⟨a0, b0, k0⟩ := u_known ht bw_u0 (ht (.instantiable "ReinsuranceDesk$Cession" 13) (bw_m (rd_m 128 (by decide +kernel))))
  obtain ⟨a1, b1, k1⟩ := u_known ht bw_u1 (ht (.instantiable "ReinsuranceDesk$Claims" 7) (bw_m (rd_m 46 (by decide +kernel))))
  obtain ⟨a2, b2, k2⟩ := u_known ht bw_u2 (ht (.instantiable "ReinsuranceDesk$Risks" 3) (bw_m (rd_m 23 (by decide +kernel))))
  obtain ⟨a3, b3, k3⟩ := u_known ht bw_u3 (ht (.instantiable "ReinsuranceDesk$Treaties" 8) (bw_m (rd_m 87 (by decide +kernel))))
  obtain ⟨a4, b4, k4⟩ := u_known ht bw_u4 (ht (.instantiable "ReinsuranceDesk" 6) (bw_m (rd_m 15 (by decide +kernel))))
  obtain ⟨a5, b5, k5⟩ := u_known ht bw_u5 (ht (.instantiable "ReinsuranceDeskModel" 30) (bw_m (rd_m 609 (by decide +kernel))))
  obtain ⟨i0, x0, y0, f0, g0, j0⟩ := Cond.arrayClass_spec (ht (.arrayClass .int) (bw_m (rd_m 44 (by decide +kernel))))
  obtain ⟨i1, x1, y1, f1, g1, j1⟩ := Cond.arrayClass_spec (ht (.arrayClass .long) (bw_m (rd_m 126 (by decide +kernel))))
  obtain ⟨i2, x2, y2, f2, g2, j2⟩ := Cond.arrayClass_spec (ht (.arrayClass .boolean) (bw_m (rd_m 85 (by decide +kernel))))
  refine ⟨(fun c => match c with | 0 => a0 | 1 => a1 | 2 => a2 | 3 => a3 | 4 => a4 | _ => a5, fun c => match c with | 0 => b0 | 1 => b1 | 2 => b2 | 3 => b3 | 4 => b4 | _ => b5), fun k => match k with | 0 => i0 | 1 => i1 | _ => i2, fun c q hq => ?_, fun k q hk => ?_⟩
  · match c, hq with
    | 0, hq =>
      have e : some (("ReinsuranceDesk$Cession", rd_T0, 13) : vw_C) = some q := hq
      cases e; exact k0
    | 1, hq =>
      have e : some (("ReinsuranceDesk$Claims", rd_T1, 7) : vw_C) = some q := hq
      cases e; exact k1
    | 2, hq =>
      have e : some (("ReinsuranceDesk$Risks", rd_T2, 3) : vw_C) = some q := hq
      cases e; exact k2
    | 3, hq =>
      have e : some (("ReinsuranceDesk$Treaties", rd_T3, 8) : vw_C) = some q := hq
      cases e; exact k3
    | 4, hq =>
      have e : some (("ReinsuranceDesk", rd_T4, 6) : vw_C) = some q := hq
      cases e; exact k4
    | 5, hq =>
      have e : some (("ReinsuranceDeskModel", rd_T5, 30) : vw_C) = some q := hq
      cases e; exact k5
    | n + 6, hq => exact absurd hq (by simp [rd_CL])
  · match k, hk with
    | 0, hk =>
      have e : some ((i0, .int) : ClassId × FieldType) = some q := hk
      cases e; exact ⟨fun n z => ⟨fun k h => (by cases h), x0, g0, y0, j0⟩, f0⟩
    | 1, hk =>
      have e : some ((i1, .long) : ClassId × FieldType) = some q := hk
      cases e; exact ⟨fun n z => ⟨fun k h => (by cases h), x1, g1, y1, j1⟩, f1⟩
    | 2, hk =>
      have e : some ((i2, .boolean) : ClassId × FieldType) = some q := hk
      cases e; exact ⟨fun n z => ⟨fun k h => (by cases h), x2, g2, y2, j2⟩, f2⟩
    | n + 3, hk => exact absurd hk (by simp)
set_option maxRecDepth 100000 in
theorem ws_ss : ∀ q ∈ rd_ss, q.1 = "ReinsuranceDesk" ∧ Cond.stringRef q.1 q.2.1 q.2.2 ∈ lw_tbl := fun q hq => by
  have h1 := List.all_eq_true.mp (by decide +kernel : rd_ss.all (fun q => decide (q.1 = "ReinsuranceDesk") && decide (Cond.stringRef q.1 q.2.1 q.2.2 ∈ tables_1)) = true) q hq
  simp only [Bool.and_eq_true, decide_eq_true_eq] at h1
  exact ⟨h1.1, List.mem_append_right _ h1.2⟩
set_option maxRecDepth 100000 in
theorem ws_XF {l : Launch} {s : State} {args : Array Value} {cD : ClassId} (hl : l.stackTraces = false) (hts : ∀ w ∈ lw_tbl, w.before args s = true) (hgv : (Jvm.Cond.and given_1 narrow_1).before args s = true) (hcD : s.vm.findClass "ReinsuranceDesk" = some cD) : rd_XF l s (fun q => s.heap.size ≤ q) := by
  have hf := flat_of_before _ hgv
  have hn : ∀ a : Nat, a < s.heap.size → ¬ s.heap.size ≤ a := fun a h => by omega
  have hi : (Cond.initialized Bundle.tN).before args s = true := hts _ (List.mem_append_right _ (List.mem_of_getElem? (i := 7) (by decide +kernel)))
  have l1 : (Cond.laysStatic Bundle.tN "UNASSIGNED_STACK" Bundle.steD).before args s = true := hts _ (List.mem_append_right _ (List.mem_of_getElem? (i := 240) (by decide +kernel)))
  have l2 : (Cond.laysStatic Bundle.tN "SUPPRESSED_SENTINEL" Bundle.listD).before args s = true := hts _ (List.mem_append_right _ (List.mem_of_getElem? (i := 242) (by decide +kernel)))
  have r1 : (Cond.isRef (.static Bundle.tN "UNASSIGNED_STACK" Bundle.steD)).before args s = true := hf _ (by decide +kernel)
  have r2 : (Cond.isRef (.static Bundle.tN "SUPPRESSED_SENTINEL" Bundle.listD)).before args s = true := hf _ (by decide +kernel)
  have nc : (Cond.not (.castable (rd_xn 1) (rd_xn 0))).before args s = true := hf _ (by decide +kernel)
  refine ⟨hl, vx_Zqof l1 hi r1 hn, vx_Zqof l2 hi r2 hn, fun a ce h _ => hn a (Array.getElem?_eq_some_iff.mp h).1, fun q hq => ?_, va_Nc.of nc⟩
  obtain ⟨h1, h2⟩ := ws_ss q hq
  obtain ⟨k, cf, i, a, hk, hcf, hcp, h8, hr, hev⟩ := Cond.stringRef_spec (by rw [h1]; exact hcD) (hts _ h2)
  exact ⟨a, vk_R.of (hts _ h2) hev⟩
