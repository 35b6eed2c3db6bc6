/-! throwing, and a call whose exceptions are caught here -/
abbrev rd_ns : List String := ["java/lang/RuntimeException", "java/lang/Exception"]
/-- what 'throw new E(text)' needs of the words -/
def rd_tw (own : String) (ik ic kd : Nat) : Prop := Cond.classLink own ik (rd_xn kd) ∈ rd_ws ∧ Cond.initialized (rd_xn kd) ∈ rd_ws ∧ (∀ w ∈ vx_atS own ic (rd_xn kd) rd_ns, w ∈ rd_ws) ∧ (∀ w ∈ Cond.classLink own ik (rd_xn kd) :: Cond.initialized (rd_xn kd) :: vx_atS own ic (rd_xn kd) rd_ns, vx_ot w = true) ∧ Bundle.fit (rd_xn kd) = true
set_option maxRecDepth 100000 in
theorem tw_D_55_59 : rd_tw "ReinsuranceDesk" 55 59 0 := ⟨rd_m 213 (by decide +kernel), rd_m 10 (by decide +kernel), fun w h => of_decide_eq_true (List.all_eq_true.mp (by decide +kernel : (vx_atS "ReinsuranceDesk" 59 (rd_xn 0) rd_ns).all (fun w => decide (w ∈ rd_ws)) = true) w h), fun w h => List.all_eq_true.mp (by decide +kernel : (Cond.classLink "ReinsuranceDesk" 55 (rd_xn 0) :: Cond.initialized (rd_xn 0) :: vx_atS "ReinsuranceDesk" 59 (rd_xn 0) rd_ns).all vx_ot = true) w h, by decide +kernel⟩
set_option maxRecDepth 100000 in
theorem tw_D_66_70 : rd_tw "ReinsuranceDesk" 66 70 1 := ⟨rd_m 284 (by decide +kernel), rd_m 11 (by decide +kernel), fun w h => of_decide_eq_true (List.all_eq_true.mp (by decide +kernel : (vx_atS "ReinsuranceDesk" 70 (rd_xn 1) rd_ns).all (fun w => decide (w ∈ rd_ws)) = true) w h), fun w h => List.all_eq_true.mp (by decide +kernel : (Cond.classLink "ReinsuranceDesk" 66 (rd_xn 1) :: Cond.initialized (rd_xn 1) :: vx_atS "ReinsuranceDesk" 70 (rd_xn 1) rd_ns).all vx_ot = true) w h, by decide +kernel⟩
theorem rd_nsfit : ∀ n ∈ rd_ns, Bundle.fit n = true := List.all_eq_true.mp (by decide +kernel)
section RdThrow
variable {x : rd_X} {pc : Nat} {L : List (Option Value)} {st stk : List Value} {M : rd_M} {n n' : Nat} {Q : rd_R → rd_M → Prop}
theorem rd_throw {ik is ic kd : Nat} (d0 : decode (rd_cd x) pc = .ok (.new ik, 3)) (d3 : decode (rd_cd x) (pc + 3) = .ok (.dup, 1)) (d4 : decode (rd_cd x) (pc + 4) = .ok (.ldc is, 2)) (d6 : decode (rd_cd x) (pc + 6) = .ok (.invokespecial ic, 3)) (d9 : decode (rd_cd x) (pc + 9) = .ok (.athrow, 1)) (hh : rd_hs x = []) (tw : rd_tw (rd_nm x).cls ik ic kd)
    (hs9 : (rd_ss.any fun q => decide (q.1 = (rd_nm x).cls ∧ q.2.1 = is)) = true) (hdp : 6 ≤ rd_dp x) (hlb : 100 ≤ rd_lb x) (hn : n + 1 ≤ rd_cp x) (hst : (st.map fun v => v.category).sum ≤ 8) (hQ : Q (.inr kd) M) : rd_G x pc L st M n Q := by
  intro p l e R s m args below meth c σ D cA A C H locs ls cells slots hc hs hP hS hl
  obtain ⟨hx, hb, hml, hown, hts, hK, hj, hA, hAs, ⟨r1, r2, r3, r4⟩, hrt, hlk, htb, hXF, hSC⟩ := id C
  obtain ⟨f1, f2, f3, f4, f5, f6⟩ := hXF
  obtain ⟨w1, w2, w3, w4, w5⟩ := tw
  obtain ⟨q9, hq9, hq8⟩ := List.any_eq_true.mp hs9
  have hq8 := of_decide_eq_true hq8
  obtain ⟨sa, hsa⟩ := f5 q9 hq9
  rw [hq8.1, hq8.2] at hsa
  unfold rd_KC at hc r3
  unfold rd_KS at hs r4
  have hw := vx_throwS (p := p) (l := l) (e := e) (R := R) (s := s) (m := m) (args := args) (below := below) (meth := meth) (c := c) (H := H) (locs := locs) (cells := cells) (slots := slots) (ls := ls) (rest := st.map (rd_pv σ)) (Qc := fun _ _ _ _ => False) (XC := fun E _ t => E = rd_xn kd ∧ H.size ≤ t.heap.size ∧ ∀ q : Nat, q < H.size → t.heap[q]? = H[q]?) (free := A) (mc := rd_cp x * rd_KC) (ms := rd_cp x * rd_KS)
    hx hb f1 hown w5 rd_nsfit (hts _ w1) (hts _ w2) hsa (fun w h => hts w (w3 w h)) w4 f2 f3 hS (hl.1.trans hml.symm) d0 d3 d4 d6 d9 (by rw [htb, hh]; intro z hz; cases hz) (by show 2 + 3 < R.frames; omega) (by rw [rd_cats]; show _ + (13 * (2 + 1) + 43) ≤ R.locals; omega) (by omega) (by omega) hlk (fun t _ h1 h2 => ⟨rfl, h1, h2⟩) hS.2.2 (by unfold rd_KC; omega) (by unfold rd_KS; omega)
  intro T hT X
  obtain ⟨t, a1, o, b1, b2, b3⟩ := hw T hT X
  rcases b3 with ⟨h, -⟩ | ⟨q, rfl, E, ce, Lc, ⟨rfl, e1, e2⟩, c1, c2, c3, c4, c5, c6⟩
  · exact h.elim
  · exact ⟨t, a1, .threw q, .inr kd, M, b1, b2, ⟨q, ce, rfl, c1, c2, by rw [c4.alike.findClass]; exact c3⟩, hQ, hP.kept (fun k z hz => e2 z.1 ((hP k z hz).lt)), Lc, c4, c5, c6, Nat.le_trans hS.1 e1, fun q h1 h2 => (e2 q (Nat.lt_of_lt_of_le h1 hS.1)).trans (hS.2.1 q h1 h2)⟩
/-- which handler takes an exception at a place -/
def rd_hx (x : rd_X) (pc kd h : Nat) : Prop := ∃ (pre : List ExceptionTableEntry) (z : ExceptionTableEntry) (suf : List ExceptionTableEntry), tableOf (rd_hs x) = pre ++ z :: suf ∧ z.handlerPc = h ∧ (∀ y ∈ pre, covers y pc = false ∨ (y.catchType ≠ 0 ∧ Cond.classLink (rd_nm x).cls y.catchType (rd_xn 0) ∈ rd_ws ∧ kd = 1)) ∧ covers z pc = true ∧ z.catchType ≠ 0 ∧ Cond.classLink (rd_nm x).cls z.catchType (rd_xn kd) ∈ rd_ws ∧ Cond.castable (rd_xn kd) (rd_xn kd) ∈ rd_ws
/-- a handler lays the exception by and goes on -/
def rd_ha (x : rd_X) (h : Nat) (M : rd_M) (n : Nat) (Q : rd_R → rd_M → Prop) : Prop :=
  (∃ k : Fin 4, decode (rd_cd x) h = .ok (.astore_n k, 1) ∧ (k : Nat) < rd_ml x ∧ rd_G x (h + 1) [] [] M n Q) ∨ (∃ k : Nat, decode (rd_cd x) h = .ok (.astore k, 2) ∧ k < rd_ml x ∧ rd_G x (h + 2) [] [] M n Q)
theorem rd_callVX {ix np ci q : Nat} {fs : List (Nat ⊕ Nat)} {y : rd_X} (As : List Value) (hd : decode (rd_cd x) pc = .ok (.invokevirtual ix, 3)) (hk : rd_lV (rd_nm x).cls ix y np ci) (hq : rd_SH[q]? = some (.inr (ci, fs))) (hdp : rd_dp y + 1 ≤ rd_dp x) (hlb : 19 + rd_ml y + rd_lb y ≤ rd_lb x) (hcp : n + rd_cp y ≤ rd_cp x) (hn : n + rd_cp y = n') (hst : As.reverse ++ .ref q :: st = stk) (hlen : As.length = np) (hsl : (rd_en (.ref q :: As)).length ≤ rd_ml y) (hW : (st.map fun v => v.category).sum ≤ 8)
    (k : rd_G y 0 (rd_ep (rd_ml y) (.ref q :: As)) [] M 0 (fun r M' => (∃ v, r = .inl v ∧ rd_G x (pc + 3) L (v.toList ++ st) M' n' Q) ∨ (∃ kd h, r = .inr kd ∧ rd_hx x pc kd h ∧ rd_ha x h M' n' Q))) : rd_G x pc L stk M n Q := by
  subst hst
  subst hn
  intro p l e R s m args below meth c σ D cA A C H locs ls cells slots hc hs hP hS hl T hT X
  obtain ⟨hx, hb, hml, hown, hts, hK, hj, hA, hAs, hrm, hrt, hlks, htb, hXF, hSC⟩ := id C
  obtain ⟨hok, hlink, hinst, hy, hnp, Cn, Tn, Nn, hcl, hsel⟩ := hk
  obtain ⟨mk9, methM9, cM, hnamed9, hmethM9, -, -, -, -, -, -, hsigM⟩ := rd_ok_code hok hts
  obtain ⟨mk, methM, hnamed, hmethM, hstM, habM⟩ := Cond.instanceMethod_spec (hts _ hinst)
  cases hnamed.symm.trans hnamed9
  cases hmethM.symm.trans hmethM9
  subst hT
  obtain ⟨rr, hr1, cellB, hq1, hq2, hq3, -⟩ := hP q _ (rd_wd_at (σ := σ) (cA := cA) (M := M) hq)
  cases hr1.symm.trans hcl
  obtain ⟨-, hfc, -⟩ := hK.1 ci _ hcl
  have hcls : s.vm.findClass Cn = some cellB.cls := by rw [hq2]; exact hfc
  obtain ⟨c2, r2, m2, q1, q2, q3, q4, kP, hkP, hkPi⟩ := Cond.selects_spec (hts _ hsel)
  cases hcls.symm.trans q1
  cases (State.methodFound?_of_named hnamed hy).symm.trans q2
  cases hnamed.symm.trans q3
  have hselP : selectMethod e.platform s.vm cellB.cls mk9 = .method mk9 := by rw [Launch.admits_selectMethod X.admits]; exact q4
  have hnp' : (As.map (rd_pv σ)).length = methM9.sig.parameters.length := by
    rw [hsigM] at hnp
    have := Option.some.inj hnp
    rw [List.length_map, hlen, ← this]
  obtain ⟨vm₁, X₁, hstep₁⟩ := X.invokevirtual hx hown (hts _ hlink) hnamed hmethM hstM hkP hkPi hy (a := σ q) (cell := cellB) hq1 (fun z h => by rw [hq3] at h; cases h) hselP hmethM habM hkP hkPi (g := F0 m pc ls ((As.reverse ++ .ref q :: st).map (rd_pv σ))) rfl (argsL := As.map (rd_pv σ)) (rest := st.map (rd_pv σ)) hnp' (by simp [rd_pv]) (by rw [hb]; exact hd)
  obtain ⟨t, hs1, o, r, M', b1, b2, b3, b4, b5, Lc, b6, b7, b8, b9⟩ := rd_run (T := T.setVm vm₁) (As := .ref q :: As) (g := F0 m pc ls (st.map (rd_pv σ))) (ig := .invokevirtual ix) (len := 3) X₁ C rfl (hl.1.trans hml.symm) (by rw [hb]; exact hd) (by rw [rd_cats]; simpa using hW) hok hdp hlb hc hs hcp (X₁.named hnamed) hP hS hsl k
  rcases b4 with ⟨v, rfl, hG⟩ | ⟨kd, h, rfl, hH, hG⟩
  · have b3 : o = .returned (v.map (rd_pv σ)) := b3
    subst b3
    obtain ⟨t2, c1, c2⟩ := rd_back (y := y) (T := T.setVm vm₁) X₁ C rfl (by rw [hb]; exact hd) hc hs hS hl b2 b5 b6 b7 b8 b9 hG
    exact ⟨t2, hstep₁ _ fun acts => by rw [doInvoke_state]; exact hs1.trans c1, c2⟩
  · obtain ⟨a, ce, rfl, g1, g2, g3⟩ := b3
    obtain ⟨T', X', hW', hB, ht⟩ := X₁.outOfThrown (g := F0 m pc ls (st.map (rd_pv σ))) rfl b2 b6 b7
    have hh : T'.heap = t.heap := by rw [ht, throwing_heap]
    have hvm : t.vm = T'.vm := by rw [ht, throwing_vm]
    have hsz : s.heap.size ≤ T.heap.size := hS.1
    have hAA : ∀ z, rd_A σ T.heap.size z → A z := fun z hz => by
      rcases hz with ⟨i, hi, rfl⟩ | hz
      · exact hA i hi
      · exact hAs z (Nat.le_trans hsz hz)
    have hF2 : T.heap.size ≤ t.heap.size ∧ ∀ z : Nat, z < T.heap.size → ¬ rd_A σ T.heap.size z → t.heap[z]? = T.heap[z]? := b9
    have hS' : va_S A s.heap T'.heap (locs ++ Lc) := ⟨by rw [hh]; exact Nat.le_trans hsz hF2.1, fun z h1 h2 => by
        rw [hh, hF2.2 z (Nat.lt_of_lt_of_le h1 hsz) (fun w => h2 (hAA z w))]
        exact hS.2.1 z h1 h2, fun z hz => by
        rcases List.mem_append.mp hz with h | h
        · exact hS.2.2 z h
        · exact hAA _ (b8 z h)⟩
    have hcn : cells + rd_cp y * rd_KC ≤ (n + rd_cp y) * rd_KC := by rw [Nat.add_mul]; omega
    have hsn : slots + rd_cp y * rd_KS ≤ (n + rd_cp y) * rd_KS := by rw [Nat.add_mul]; omega
    have hgo : W p l e R s m args below meth c T'.heap (locs ++ Lc) (cells + rd_cp y * rd_KC) (slots + rd_cp y * rd_KS) (rd_E x below s σ D cA A Q) (F0 m h ls [.ref a]) := by
      rcases hG with ⟨k9, e1, e2, e3⟩ | ⟨k9, e1, e2, e3⟩
      · exact lv_astore_n (rest := []) hx hb e1 rfl (⟨hl.1, hl.2.1, fun _ hz => by cases hz⟩ : lv_has ls (rd_ml x) []) e2 rfl (fun ls' h' => e3 p l e R s m args below meth c σ D cA A C T'.heap _ ls' _ _ hcn hsn (by rw [hh]; exact b5) hS' ⟨h'.1, h'.2.1, Nat.zero_le _, fun i v hv => by simp at hv⟩)
      · exact lv_astore (rest := []) hx hb e1 (⟨hl.1, hl.2.1, fun _ hz => by cases hz⟩ : lv_has ls (rd_ml x) []) e2 rfl (fun ls' h' => e3 p l e R s m args below meth c σ D cA A C T'.heap _ ls' _ _ hcn hsn (by rw [hh]; exact b5) hS' ⟨h'.1, h'.2.1, Nat.zero_le _, fun i v hv => by simp at hv⟩)
    obtain ⟨pre, z, suf, k1, rfl, k3, k4, k5, k6, k7⟩ := hH
    have hcl' : s.vm.findClass (rd_xn kd) = some ce.cls := by rw [← X'.warmed.alike.findClass, ← hvm]; exact g3
    obtain ⟨t2, c1, c2⟩ := vx_catch (pc := pc) (ls := ls) (rest := st.map (rd_pv σ)) hown pre z suf (htb.trans k1) (fun w hw => by
        rcases k3 w hw with h9 | ⟨h9, h8, rfl⟩
        · exact Or.inl h9
        · exact Or.inr ⟨h9, _, hts _ h8, hXF.2.2.2.2.2⟩) k4 k5 (hts _ k6) (hts _ k7) (by rw [hh]; exact g1) g2 hcl' hgo T' rfl X'
    exact ⟨t2, hstep₁ _ fun acts => by rw [doInvoke_state]; rw [← ht] at c1; exact hs1.trans c1, c2⟩
end RdThrow
