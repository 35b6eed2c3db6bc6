/-! returns, fields, calls -/
section RdEnds
variable {x : rd_X} {pc : Nat} {L : List (Option Value)} {st : List Value} {M : rd_M} {n : Nat} {Q : rd_R → rd_M → Prop}
theorem rd_iret {a : Int} (hd : decode (rd_cd x) pc = .ok (.ireturn, 1)) (hr : rd_rt x = some .int) (hn : n ≤ rd_cp x) (hQ : Q (.inl (some (rd_i a))) M) : rd_G x pc L [rd_i a] M n Q := by
  intro p l e R s m args below meth c σ D cA A C H locs ls cells slots hc hs hP hS hl
  obtain ⟨hx, hb, hml, hown, hts, hK, hj, hA, hAs, hrm, hrt, hlk, htb, hXF, hSC⟩ := C
  refine W.widen (k := rd_cp x * rd_KC) (n := rd_cp x * rd_KS) (Nat.le_trans hc (Nat.mul_le_mul_right _ hn)) (Nat.le_trans hs (Nat.mul_le_mul_right _ hn)) ?_
  intro T hT X
  obtain ⟨t, a1, o, b1, b2, ⟨b3, b4, b5⟩, Lc, ⟨-, b6, b7⟩, b8⟩ := W.iret (v := Int32.ofInt a) (Qc := fun _ _ o t => o = .returned (some (rd_i a)) ∧ t.heap = H ∧ s.WarmedH t.vm) (free := A) hx hb (hrt.trans hr) (fun t ht hW => ⟨rfl, ht, hW⟩) hS.2.2 (ls := ls) hd hlk T hT X
  exact ⟨t, a1, o, .inl (some (rd_i a)), M, b1, b2, b3, hQ, by rw [b4]; exact hP, Lc, b6, b7, b8, hS.F b4⟩
theorem rd_lret {a : Int} (hd : decode (rd_cd x) pc = .ok (.lreturn, 1)) (hr : rd_rt x = some .long) (hn : n ≤ rd_cp x) (hQ : Q (.inl (some (rd_l a))) M) : rd_G x pc L [rd_l a] M n Q := by
  intro p l e R s m args below meth c σ D cA A C H locs ls cells slots hc hs hP hS hl
  obtain ⟨hx, hb, hml, hown, hts, hK, hj, hA, hAs, hrm, hrt, hlk, htb, hXF, hSC⟩ := C
  refine W.widen (k := rd_cp x * rd_KC) (n := rd_cp x * rd_KS) (Nat.le_trans hc (Nat.mul_le_mul_right _ hn)) (Nat.le_trans hs (Nat.mul_le_mul_right _ hn)) ?_
  intro T hT X
  obtain ⟨t, a1, o, b1, b2, ⟨b3, b4, b5⟩, Lc, ⟨-, b6, b7⟩, b8⟩ := W.lret (v := Int64.ofInt a) (Qc := fun _ _ o t => o = .returned (some (rd_l a)) ∧ t.heap = H ∧ s.WarmedH t.vm) (free := A) hx hb (hrt.trans hr) (fun t ht hW => ⟨rfl, ht, hW⟩) hS.2.2 (ls := ls) hd hlk T hT X
  exact ⟨t, a1, o, .inl (some (rd_l a)), M, b1, b2, b3, hQ, by rw [b4]; exact hP, Lc, b6, b7, b8, hS.F b4⟩
theorem rd_zret {a : Int} (hd : decode (rd_cd x) pc = .ok (.ireturn, 1)) (hr : rd_rt x = some .boolean) (hn : n ≤ rd_cp x) (hz : a = 0 ∨ a = 1) (hQ : Q (.inl (some (rd_i a))) M) : rd_G x pc L [rd_i a] M n Q := by
  intro p l e R s m args below meth c σ D cA A C H locs ls cells slots hc hs hP hS hl
  obtain ⟨hx, hb, hml, hown, hts, hK, hj, hA, hAs, hrm, hrt, hlk, htb, hXF, hSC⟩ := C
  refine W.widen (k := rd_cp x * rd_KC) (n := rd_cp x * rd_KS) (Nat.le_trans hc (Nat.mul_le_mul_right _ hn)) (Nat.le_trans hs (Nat.mul_le_mul_right _ hn)) ?_
  intro T hT X
  obtain ⟨t, a1, o, b1, b2, ⟨b3, b4, b5⟩, Lc, ⟨-, b6, b7⟩, b8⟩ := W.zret (v := Int32.ofInt a) (Qc := fun _ _ o t => o = .returned (some (rd_i a)) ∧ t.heap = H ∧ s.WarmedH t.vm) (free := A) hx hb (hrt.trans hr) (by rcases hz with rfl | rfl <;> rfl) (fun t ht hW => ⟨rfl, ht, hW⟩) hS.2.2 (ls := ls) hd hlk T hT X
  exact ⟨t, a1, o, .inl (some (rd_i a)), M, b1, b2, b3, hQ, by rw [b4]; exact hP, Lc, b6, b7, b8, hS.F b4⟩
theorem rd_vret (hd : decode (rd_cd x) pc = .ok (.return_, 1)) (hr : rd_rt x = none) (hn : n ≤ rd_cp x) (hQ : Q (.inl none) M) : rd_G x pc L [] M n Q := by
  intro p l e R s m args below meth c σ D cA A C H locs ls cells slots hc hs hP hS hl
  obtain ⟨hx, hb, hml, hown, hts, hK, hj, hA, hAs, hrm, hrt, hlk, htb, hXF, hSC⟩ := C
  refine W.widen (k := rd_cp x * rd_KC) (n := rd_cp x * rd_KS) (Nat.le_trans hc (Nat.mul_le_mul_right _ hn)) (Nat.le_trans hs (Nat.mul_le_mul_right _ hn)) ?_
  intro T hT X
  obtain ⟨t, a1, o, b1, b2, ⟨b3, b4, b5⟩, Lc, ⟨-, b6, b7⟩, b8⟩ := W.vret (Qc := fun _ _ o t => o = .returned none ∧ t.heap = H ∧ s.WarmedH t.vm) (free := A) hx hb (hrt.trans hr) (fun t ht hW => ⟨rfl, ht, hW⟩) hS.2.2 (ls := ls) hd hlk T hT X
  exact ⟨t, a1, o, .inl none, M, b1, b2, b3, hQ, by rw [b4]; exact hP, Lc, b6, b7, b8, hS.F b4⟩
/-- a field's entry in a class's pool -/
def rd_fl (own : String) (ix ci k : Nat) : Prop := ∃ (C : String) (T : u_T) (N : Nat), rd_CL[ci]? = some (C, T, N) ∧ k < N ∧ (∀ w ∈ u_ws C T N, w ∈ rd_ws) ∧ (Cond.fieldLink own ix (T k).1 (T k).2.1 (T k).2.2.1 ∈ rd_ws)
theorem rd_get {ix ci k q : Nat} {fs : List (Nat ⊕ Nat)} {f : Nat ⊕ Nat} {v : Value} (hd : decode (rd_cd x) pc = .ok (.getfield ix, 3)) (hf : rd_fl (rd_nm x).cls ix ci k) (hq : rd_SH[q]? = some (.inr (ci, fs))) (hk : fs[k]? = some f) (hv : ∀ σ, rd_fv σ (M q) k f = rd_pv σ v) (kk : rd_G x (pc + 3) L (v :: st) M n Q) : rd_G x pc L (.ref q :: st) M n Q := by
  intro p l e R s m args below meth c σ D cA A C H locs ls cells slots hc hs hP hS hl
  obtain ⟨C9, T, N, h1, h2, h3, h4⟩ := hf
  refine va_get (a := σ q) (v := rd_pv σ v) (rest := st.map (rd_pv σ)) C.1 C.2.1 C.2.2.2.2.1 h3 C.2.2.2.1 C.2.2.2.2.2.1 hP q (rd_wd_at (σ := σ) (cA := cA) (M := M) hq) h1 k h2 (C.2.2.2.2.1 _ h4) (fun _ h => h) ?_ hd (kk p l e R s m args below meth c σ D cA A C H locs ls cells slots hc hs hP hS hl)
  rw [List.getElem?_mapIdx, hk, ← hv σ]; rfl
theorem rd_getr {ix ci k q q' : Nat} {fs : List (Nat ⊕ Nat)} (hd : decode (rd_cd x) pc = .ok (.getfield ix, 3)) (hf : rd_fl (rd_nm x).cls ix ci k) (hq : rd_SH[q]? = some (.inr (ci, fs))) (hk : fs[k]? = some (.inl q')) (kk : rd_G x (pc + 3) L (.ref q' :: st) M n Q) : rd_G x pc L (.ref q :: st) M n Q := rd_get hd hf hq hk (fun _ => rfl) kk
theorem rd_geti {ix ci k q : Nat} {fs : List (Nat ⊕ Nat)} (hd : decode (rd_cd x) pc = .ok (.getfield ix, 3)) (hf : rd_fl (rd_nm x).cls ix ci k) (hq : rd_SH[q]? = some (.inr (ci, fs))) (hk : fs[k]? = some (.inr 0)) (kk : rd_G x (pc + 3) L (rd_i (M q k) :: st) M n Q) : rd_G x pc L (.ref q :: st) M n Q := rd_get hd hf hq hk (fun _ => rfl) kk
theorem rd_getl {ix ci k q : Nat} {fs : List (Nat ⊕ Nat)} (hd : decode (rd_cd x) pc = .ok (.getfield ix, 3)) (hf : rd_fl (rd_nm x).cls ix ci k) (hq : rd_SH[q]? = some (.inr (ci, fs))) (hk : fs[k]? = some (.inr 1)) (kk : rd_G x (pc + 3) L (rd_l (M q k) :: st) M n Q) : rd_G x pc L (.ref q :: st) M n Q := rd_get hd hf hq hk (fun _ => rfl) kk
/-- a field that may be written -/
def rd_fp (ci k : Nat) (ty : FieldType) : Prop := ∃ (C : String) (T : u_T) (N : Nat) (ty0 : Nat → FieldType), rd_CL[ci]? = some (C, T, N) ∧ k < N ∧ (∀ k, k < N → parseFieldDescriptor (T k).2.2.1 = some (ty0 k)) ∧ (∀ a, a < N → ∀ b, b < N → a ≠ b → (T a).2.1 ≠ (T b).2.1) ∧ (T k).2.2.2 = false ∧ parseFieldDescriptor (T k).2.2.1 = some ty
theorem rd_put {ix ci k q t9 : Nat} {fs : List (Nat ⊕ Nat)} {a : Int} {v : Value} {ty : FieldType} (hd : decode (rd_cd x) pc = .ok (.putfield ix, 3)) (hf : rd_fl (rd_nm x).cls ix ci k) (hp : rd_fp ci k ty) (hq : rd_SH[q]? = some (.inr (ci, fs))) (hk : fs[k]? = some (.inr t9)) (hv : ∀ σ, rd_fv σ (fun _ => a) k (.inr t9) = v) (hv2 : ∀ σ, rd_pv σ v = v) (hn9 : narrow ty v = v) (hfit : fits ty v = true) (kk : rd_G x (pc + 3) L st (rd_up M q k a) n Q) : rd_G x pc L (v :: .ref q :: st) M n Q := by
  intro p l e R s m args below meth c σ D cA A C H locs ls cells slots hc hs hP hS hl
  obtain ⟨C9, T, N, h1, h2, h3, h4⟩ := hf
  obtain ⟨C8, T8, N8, ty0, g1, g2, g3, g4, g5, g6⟩ := hp
  cases h1.symm.trans g1
  have hl9 : k < (fs.mapIdx (fun j f => rd_fv σ (M q) j f)).length := by simpa using (List.getElem?_eq_some_iff.mp hk).1
  show W p l e R s m args below meth c H locs cells slots _ (F0 m pc ls (rd_pv σ v :: .ref (σ q) :: st.map (rd_pv σ)))
  rw [hv2 σ]
  refine va_put (a := σ q) (v := v) (rest := st.map (rd_pv σ)) C.1 C.2.1 C.2.2.2.2.1 h3 ty0 g3 g4 C.2.2.2.1 C.2.2.2.2.2.1 hP (rd_D C.2.2.2.2.2.2.1 C.2.2.2.2.2.2.2.1) hS q (rd_wd_at (σ := σ) (cA := cA) (M := M) hq) h1 k h2 (C.2.2.2.2.1 _ h4) (fun _ h => h) g5 g6 hn9 hfit hl9 hd (fun H1 locs1 hP1 hD1 hS1 => ?_)
  refine kk p l e R s m args below meth c σ D cA A C H1 locs1 ls cells slots hc hs ?_ hS1 hl
  rw [← rd_wd_set (i := (k : Int)) (v := a) hq rfl]
  refine (congrArg (fun z => va_P D rd_CL ((rd_wd σ cA M).set q (σ q, z)) H1) ?_).mpr hP1
  refine congrArg (fun z => (Sum.inr (ci, z) : va_E)) ?_
  apply List.ext_getElem?
  intro j
  by_cases hj : j = k
  · subst hj
    rw [List.getElem?_set_self hl9, List.getElem?_mapIdx, hk]
    have h9 := hv σ
    simp only [Option.map_some, Option.some.injEq]
    rw [← h9]
    cases t9 with
    | zero => simp [rd_fv, rd_up]
    | succ t9 => simp [rd_fv, rd_up]
  · rw [List.getElem?_set_ne (Ne.symm hj), List.getElem?_mapIdx, List.getElem?_mapIdx]
    have hj' : ¬ ((j : Int) = (k : Int)) := by omega
    cases fs[j]? with
    | none => rfl
    | some f =>
      rcases f with f | f
      · rfl
      · cases f with
        | zero => simp [rd_fv, rd_up, hj']
        | succ f => simp [rd_fv, rd_up, hj']
theorem rd_puti {ix ci k q : Nat} {fs : List (Nat ⊕ Nat)} {a : Int} (hd : decode (rd_cd x) pc = .ok (.putfield ix, 3)) (hf : rd_fl (rd_nm x).cls ix ci k) (hp : rd_fp ci k .int) (hq : rd_SH[q]? = some (.inr (ci, fs))) (hk : fs[k]? = some (.inr 0)) (kk : rd_G x (pc + 3) L st (rd_up M q k a) n Q) : rd_G x pc L (rd_i a :: .ref q :: st) M n Q := rd_put hd hf hp hq hk (fun _ => rfl) (fun _ => rfl) rfl rfl kk
theorem rd_putl {ix ci k q : Nat} {fs : List (Nat ⊕ Nat)} {a : Int} (hd : decode (rd_cd x) pc = .ok (.putfield ix, 3)) (hf : rd_fl (rd_nm x).cls ix ci k) (hp : rd_fp ci k .long) (hq : rd_SH[q]? = some (.inr (ci, fs))) (hk : fs[k]? = some (.inr 1)) (kk : rd_G x (pc + 3) L st (rd_up M q k a) n Q) : rd_G x pc L (rd_l a :: .ref q :: st) M n Q := rd_put hd hf hp hq hk (fun _ => rfl) (fun _ => rfl) rfl rfl kk
end RdEnds
/-! calls -/
/-- the locals at a method's start -/
def rd_en : List Value → List (Option Value)
  | [] => []
  | .long v :: r => some (.long v) :: none :: rd_en r
  | .double v :: r => some (.double v) :: none :: rd_en r
  | v :: r => some v :: rd_en r
theorem rd_en_mem {σ : Nat → Nat} : ∀ (As : List Value) (i j : Nat) (w : Value), (rd_en As)[j]? = some (some w) → (i + j, rd_pv σ w) ∈ lv_args i (As.map (rd_pv σ))
  | [], i, j, w, h => by simp [rd_en] at h
  | v :: r, i, j, w, h => by
    have one : ∀ (u : Value), u.category = 1 → (some u :: rd_en r)[j]? = some (some w) → (i + j, rd_pv σ w) ∈ lv_args i ((u :: r).map (rd_pv σ)) := by
      intro u hu h
      cases j with
      | zero =>
        have h : u = w := by simpa using h
        subst h
        exact List.mem_cons_self
      | succ j =>
        have h1 := rd_en_mem (σ := σ) r (i + 1) j w (by simpa using h)
        rw [show i + 1 + j = i + (j + 1) by omega] at h1
        refine List.mem_cons_of_mem _ ?_
        show _ ∈ lv_args (if (rd_pv σ u).category = 2 then i + 2 else i + 1) _
        rw [rd_cat, hu, if_neg (by decide)]
        exact h1
    have two : ∀ (u : Value), u.category = 2 → (some u :: none :: rd_en r)[j]? = some (some w) → (i + j, rd_pv σ w) ∈ lv_args i ((u :: r).map (rd_pv σ)) := by
      intro u hu h
      cases j with
      | zero =>
        have h : u = w := by simpa using h
        subst h
        exact List.mem_cons_self
      | succ j =>
        cases j with
        | zero => simp at h
        | succ j =>
          have h1 := rd_en_mem (σ := σ) r (i + 2) j w (by simpa using h)
          rw [show i + 2 + j = i + (j + 1 + 1) by omega] at h1
          refine List.mem_cons_of_mem _ ?_
          show _ ∈ lv_args (if (rd_pv σ u).category = 2 then i + 2 else i + 1) _
          rw [rd_cat, hu, if_pos rfl]
          exact h1
    cases v <;> first | exact two _ rfl h | exact one _ rfl h
theorem rd_sl {σ : Nat → Nat} : ∀ As : List Value, (lg_sl (As.map (rd_pv σ))).length = (rd_en As).length
  | [] => rfl
  | v :: r => by
    have ih := rd_sl (σ := σ) r
    have e : lg_sl ((v :: r).map (rd_pv σ)) = (if (rd_pv σ v).category = 2 then [.val (rd_pv σ v), .second] else [.val (rd_pv σ v)]) ++ lg_sl (r.map (rd_pv σ)) := by simp [lg_sl]
    rw [e, List.length_append, ih]
    cases v <;> simp [rd_pv, rd_en, Value.category] <;> omega
def rd_ep (n : Nat) (As : List Value) : List (Option Value) := rd_en As ++ List.replicate (n - (rd_en As).length) none
theorem rd_ep_at {n : Nat} {As : List Value} {i : Nat} {v : Value} (h : (rd_ep n As)[i]? = some (some v)) : (rd_en As)[i]? = some (some v) := by
  unfold rd_ep at h
  by_cases hi : i < (rd_en As).length
  · rw [List.getElem?_append_left hi] at h; exact h
  · rw [List.getElem?_append_right (by omega), List.getElem?_replicate] at h
    split at h <;> simp at h
/-- the cells that a callee may change -/
def rd_A (σ : Nat → Nat) (sz : Nat) (q : Nat) : Prop := (∃ i, i < rd_SH.length ∧ q = σ i) ∨ sz ≤ q
theorem rd_vm {D : va_G} {σ : Nat → Nat} {cA : Nat → ClassId} {M : rd_M} {H : Heap} (hP : va_P D rd_CL (rd_wd σ cA M) H) {i : Nat} (hi : i < rd_SH.length) {ce : Cell} (hc : H[σ i]? = some ce) : ce.vm = .none := by
  have h1 : rd_SH[i]? = some rd_SH[i] := List.getElem?_eq_getElem hi
  have h2 := hP i _ (rd_wd_at (σ := σ) (cA := cA) (M := M) h1)
  generalize rd_SH[i] = c at h2
  rcases c with ⟨t, n⟩ | ⟨k, fs⟩
  · have h3 : ∀ (a : vp_A) (cc : ClassId), H[σ i]? = some (vp_cell cc a) → ce.vm = .none := by
      intro a cc h
      rw [hc] at h
      cases h
      obtain ⟨n, f | f | f | f | f⟩ := a <;> rfl
    match t with
    | 0 => exact h3 _ _ h2
    | 1 => exact h3 _ _ h2
    | t + 2 => exact h3 _ _ h2
  · obtain ⟨r, -, cell, q1, -, q3, -⟩ := h2
    rw [hc] at q1
    cases q1
    exact q3
theorem rd_XF_moved {l : Launch} {s T' : State} {A : Nat → Prop} {H : Heap} {locs : List Loc} {D : va_G} {σ : Nat → Nat} {cA : Nat → ClassId} {M : rd_M} (h : rd_XF l s A) (hW : s.WarmedH T'.vm) (hh : T'.heap = H) (hS : va_S A s.heap H locs) (hP : va_P D rd_CL (rd_wd σ cA M) H) (hA : ∀ i, i < rd_SH.length → A (σ i)) (hAh : ∀ q, s.heap.size ≤ q → A q) : rd_XF l T' (rd_A σ H.size) := by
  obtain ⟨h1, h2, h3, h4, h5, h6⟩ := h
  have hAA : ∀ q, rd_A σ H.size q → A q := fun q hq => by
    rcases hq with ⟨i, hi, rfl⟩ | hq
    · exact hA i hi
    · exact hAh q (Nat.le_trans hS.1 hq)
  refine ⟨h1, ?_, ?_, ?_, fun q hq => ?_, h6.moved hW.alike⟩
  · rw [hh]; exact ((h2.kept hS.2.1).moved hW.alike).narrow hAA
  · rw [hh]; exact ((h3.kept hS.2.1).moved hW.alike).narrow hAA
  · intro a ce hc hst hq
    rw [hh] at hc
    rcases hq with ⟨i, hi, rfl⟩ | hq
    · rw [rd_vm hP hi hc] at hst
      cases hst
    · have := (Array.getElem?_eq_some_iff.mp hc).1
      omega
  · obtain ⟨sa, hsa⟩ := h5 q hq
    exact ⟨sa, vk_R.warm hW hsa⟩
/-- what a callee needs of the words -/
def rd_ok (y : rd_X) : Prop := rd_sc y = none ∧ plainFor (rd_nm y) = true ∧ Cond.initialized (rd_nm y).cls ∈ rd_ws ∧ ((Cond.code (rd_nm y) (rd_cd y) (rd_ml y) (rd_rt y) ∈ rd_ws ∧ rd_hs y = []) ∨ Cond.codeWith (rd_nm y) (rd_cd y) (rd_ml y) (rd_rt y) (rd_hs y) ∈ rd_ws)
theorem rd_ok_code {y : rd_X} (h : rd_ok y) {args : Array Value} {s : State} (hts : ∀ w ∈ rd_ws, w.before args s = true) : ∃ (mk : MethodId) (meth : Method) (c : Code), s.methodNamed? (rd_nm y) = some mk ∧ s.vm.method? mk = some meth ∧ meth.code = some c ∧ c.code = rd_cd y ∧ c.maxLocals = rd_ml y ∧ meth.sig.returnType = rd_rt y ∧ meth.locks = false ∧ c.exceptionTable.toList = tableOf (rd_hs y) ∧ parseMethodDescriptor (rd_nm y).desc = some meth.sig := by
  rcases h.2.2.2 with ⟨hc, he⟩ | hc
  · obtain ⟨mk, hn⟩ := Cond.code_named (hts _ hc)
    obtain ⟨meth, c, h1, h2, h3, h4, h5, h6, h7, h8⟩ := Cond.code_spec hn (hts _ hc)
    refine ⟨mk, meth, c, hn, h1, h2, h3, h4, h5, h6, ?_, h8⟩
    rw [he]
    have h9 : c.exceptionTable = #[] := by simpa using h7
    rw [h9]; rfl
  · obtain ⟨mk, meth, c, hn, h1, h2, h3, h4, h5, h6, h7, h8⟩ := Cond.codeWith_spec (hts _ hc)
    exact ⟨mk, meth, c, hn, h1, h2, h3, h4, h6, h7, by rw [← h5]; exact (table_eq _).symm, h8⟩
theorem rd_words {args a' : Array Value} {s U : State} (hts : ∀ w ∈ rd_ws, w.before args s = true) (hU : s.WarmedH U.vm) : ∀ w ∈ rd_ws, w.before a' U = true :=
  fun w hw => rd_gd_at hU (rd_good w hw) (hts w hw)
theorem rd_weakS {tb : Tables} {e : Env} {g : Frame} {below : List Frame} {a b : State} (h : Steps tb e (g :: below) a b) : Steps tb e below a b := by
  obtain ⟨n, h1, h2⟩ := h
  exact ⟨n, h1, fun k hk => (show Within _ ([g] ++ below) from h2 k hk).weaken⟩
section RdRun
variable {p : Program} {l : Launch} {e : Env} {R : Room} {s : State} {m : MethodId} {args : Array Value} {below : List Frame} {meth : Method} {c : Code} {T : State} {locs : List Loc} {cells slots : Nat} {σ : Nat → Nat} {D : va_G} {cA : Nat → ClassId} {A : Nat → Prop}
theorem rd_run {x y : rd_X} {M : rd_M} {n : Nat} {Qy : rd_R → rd_M → Prop} {As : List Value} {g : JFrame} {ig : Instr} {len : Nat} {mk : MethodId}
    (X : Stand p l e R s m args below meth c T locs cells slots) (C : rd_Cx x p l e R s m args meth c σ D cA A)
    (hg : g.method = m) (hsize : g.locals.size = c.maxLocals) (hdg : decode c.code g.pc = .ok (ig, len)) (hW : 2 * g.monitorRoom + (g.stack.map fun v => v.category).sum ≤ 8)
    (hok : rd_ok y) (hdp : rd_dp y + 1 ≤ rd_dp x) (hlb : 19 + rd_ml y + rd_lb y ≤ rd_lb x) (hcn : cells ≤ n * rd_KC) (hsn : slots ≤ n * rd_KS) (hcp : n + rd_cp y ≤ rd_cp x)
    (hnamed : T.methodNamed? (rd_nm y) = some mk) (hP : va_P D rd_CL (rd_wd σ cA M) T.heap) (hS : va_S A s.heap T.heap locs) (hAl : (rd_en As).length ≤ rd_ml y)
    (k : rd_G y 0 (rd_ep (rd_ml y) As) [] M 0 Qy) :
    ∃ t, Steps p.tables e below (doInvoke e (T.setTop g) [] mk (As.map (rd_pv σ)).toArray).1 t ∧ rd_E y (.java g :: below) (T.calling g mk (As.map (rd_pv σ)).toArray) σ D cA (rd_A σ T.heap.size) Qy t := by
  obtain ⟨hx, hb, hmx, hown, hts, hK, hj, hA, hAh, ⟨r1, r2, r3, r4⟩, hrt, hlk, htb, hXF, hSC⟩ := C
  have hwT : ∀ w ∈ rd_ws, w.before (As.map (rd_pv σ)).toArray T = true := rd_words hts X.warmed
  obtain ⟨mk9, methk, ck, hn9, hmk, hck, hcode, hmlk, hret, hlocks, htab, hsig⟩ := rd_ok_code hok hwT
  cases hn9.symm.trans hnamed
  have hpk : T.plainMethod mk := State.plainMethod.of_named (s := T) hok.2.1 hnamed hmk
  have hC1 : cells + rd_cp y * rd_KC ≤ R.cells := by
    have h1 : (n + rd_cp y) * rd_KC ≤ rd_cp x * rd_KC := Nat.mul_le_mul_right _ hcp
    rw [Nat.add_mul] at h1
    omega
  have hS1 : slots + rd_cp y * rd_KS ≤ R.slots := by
    have h1 : (n + rd_cp y) * rd_KS ≤ rd_cp x * rd_KS := Nat.mul_le_mul_right _ hcp
    rw [Nat.add_mul] at h1
    omega
  obtain ⟨Y, hin⟩ := X.into hg hsize hdg (As.map (rd_pv σ)).toArray (R' := { frames := rd_dp y, cells := rd_cp y * rd_KC, slots := rd_cp y * rd_KS, locals := rd_lb y }) hmk hck hlocks hpk (by show rd_dp y + 1 ≤ R.frames; omega) (by show _ + (ck.maxLocals + 11) + rd_lb y ≤ R.locals; rw [hmlk]; omega) hC1 hS1
  have hent : entryFrame mk (As.map (rd_pv σ)).toArray ck.maxLocals = F0 mk 0 ((lg_sl (As.map (rd_pv σ)) ++ List.replicate (rd_ml y - (lg_sl (As.map (rd_pv σ))).length) Slot.unset).toArray) [] := by
    rw [hmlk]; exact lg_entry_eq ..
  have hl0 := lv_entry (As.map (rd_pv σ)) (n := rd_ml y) (by rw [rd_sl]; exact hAl)
  have hl : rd_L σ ((lg_sl (As.map (rd_pv σ)) ++ List.replicate (rd_ml y - (lg_sl (As.map (rd_pv σ))).length) Slot.unset).toArray) (rd_ml y) (rd_ep (rd_ml y) As) :=
    ⟨hl0.1, hl0.2.1, by simp [rd_ep]; omega, fun i v hv => by
      have h1 := rd_en_mem (σ := σ) As 0 i v (rd_ep_at hv)
      rw [Nat.zero_add] at h1
      exact hl0.2.2 _ h1⟩
  have Cy : rd_Cx y p l e { frames := rd_dp y, cells := rd_cp y * rd_KC, slots := rd_cp y * rd_KS, locals := rd_lb y } (T.calling g mk (As.map (rd_pv σ)).toArray) mk (As.map (rd_pv σ)).toArray methk ck σ D cA (rd_A σ T.heap.size) :=
    ⟨hx, hcode, hmlk, findClass_of_methodNamed (s := T) hnamed, rd_words (U := T.calling g mk (As.map (rd_pv σ)).toArray) hts X.warmed, va_K.moved (U := T.calling g mk (As.map (rd_pv σ)).toArray) X.warmed.alike hK, hj, fun i hi => Or.inl ⟨i, hi, rfl⟩, fun q hq => Or.inr hq, ⟨Nat.le_refl _, Nat.le_refl _, Nat.le_refl _, Nat.le_refl _⟩, hret, hlocks, htab, rd_XF_moved (T' := T.calling g mk (As.map (rd_pv σ)).toArray) (M := M) hXF X.warmed rfl hS hP hA hAh, fun Ls xs hsc => by rw [hok.1] at hsc; cases hsc⟩
  obtain ⟨t, hst, hE⟩ := k p l e _ _ mk _ (.java g :: below) methk ck σ D cA _ Cy T.heap [] _ 0 0 (Nat.zero_le _) (Nat.zero_le _) hP va_S.rf hl ((T.setTop g).pushFrame (.java (entryFrame mk (As.map (rd_pv σ)).toArray ck.maxLocals))) rfl Y
  refine ⟨t, ?_, hE⟩
  rw [hin []]
  rw [hent] at *
  exact rd_weakS hst
/-- behind a call that returned -/
theorem rd_back {x y : rd_X} {n : Nat} {Q : rd_R → rd_M → Prop} {M' : rd_M} {pc len : Nat} {L : List (Option Value)} {st : List Value} {ls : Array Slot} {g : JFrame} {ig : Instr} {mk : MethodId} {a : Array Value} {t : State} {v : Option Value} {Lc : List Loc}
    (X : Stand p l e R s m args below meth c T locs cells slots) (C : rd_Cx x p l e R s m args meth c σ D cA A) (hg : g = F0 m pc ls (st.map (rd_pv σ))) (hdg : decode c.code pc = .ok (ig, len)) (hcn : cells ≤ n * rd_KC) (hsn : slots ≤ n * rd_KS) (hS : va_S A s.heap T.heap locs) (hl : rd_L σ ls (rd_ml x) L)
    (hend : Ended t (.java g :: below) (.returned (v.map (rd_pv σ)))) (hP : va_P D rd_CL (rd_wd σ cA M') t.heap) (hW : (T.calling g mk a).WarmedH t.vm) (hsame : (T.calling g mk a).sameButNew ({ t with vm := (T.calling g mk a).vm } : State) Lc (rd_cp y * rd_KC) (rd_cp y * rd_KS)) (hLc : ∀ q ∈ Lc, rd_A σ T.heap.size q.base) (hF : va_F (rd_A σ T.heap.size) (T.calling g mk a) t)
    (k : rd_G x (pc + len) L (v.toList ++ st) M' (n + rd_cp y) Q) : ∃ t2, Steps p.tables e below t t2 ∧ rd_E x below s σ D cA A Q t2 := by
  subst hg
  obtain ⟨T', X', hW', hB, ht⟩ := X.outOf (g := F0 m pc ls (st.map (rd_pv σ))) rfl hdg hend hW hsame
  have hh : T'.heap = t.heap := by rw [ht]; simp
  obtain ⟨hx, hb, hmx, hown, hts, hK, hj, hA, hAh, hrm, hrt, hlk, htb, hXF, hSC⟩ := id C
  have hsz : s.heap.size ≤ T.heap.size := hS.1
  have hAA : ∀ q, rd_A σ T.heap.size q → A q := fun q hq => by
    rcases hq with ⟨i, hi, rfl⟩ | hq
    · exact hA i hi
    · exact hAh q (Nat.le_trans hsz hq)
  have hF2 : T.heap.size ≤ t.heap.size ∧ ∀ q : Nat, q < T.heap.size → ¬ rd_A σ T.heap.size q → t.heap[q]? = T.heap[q]? := hF
  have hS' : va_S A s.heap T'.heap (locs ++ Lc) := ⟨by rw [hh]; exact Nat.le_trans hsz hF2.1, fun q h1 h2 => by
      rw [hh, hF2.2 q (Nat.lt_of_lt_of_le h1 hsz) (fun z => h2 (hAA q z))]
      exact hS.2.1 q h1 h2, fun q hq => by
      rcases List.mem_append.mp hq with h | h
      · exact hS.2.2 q h
      · exact hAA _ (hLc q h)⟩
  obtain ⟨t2, a1, a2⟩ := k p l e R s m args below meth c σ D cA A C T'.heap (locs ++ Lc) ls _ _ (by rw [Nat.add_mul]; omega) (by rw [Nat.add_mul]; omega) (by rw [hh]; exact hP) hS' hl T' rfl X'
  refine ⟨t2, ?_, a2⟩
  rw [ht]
  have e1 : (v.map (rd_pv σ)).toList ++ st.map (rd_pv σ) = (v.toList ++ st).map (rd_pv σ) := by cases v <;> rfl
  show Steps p.tables e below (T'.setTop (F0 m (pc + len) ls ((v.map (rd_pv σ)).toList ++ st.map (rd_pv σ)))) t2
  rw [e1]
  exact a1
end RdRun
/-- a call's entry: what is owed for a static method, for a method of an object -/
def rd_lS (own : String) (ix : Nat) (y : rd_X) (np : Nat) : Prop := rd_ok y ∧ Cond.methodLink own ix (rd_nm y) ∈ rd_ws ∧ Cond.static (rd_nm y) ∈ rd_ws ∧ ((rd_nm y).cls ≠ "java/lang/invoke/MethodHandle" ∧ (rd_nm y).cls ≠ "java/lang/invoke/VarHandle") ∧ (parseMethodDescriptor (rd_nm y).desc).map (fun d => d.parameters.length) = some np
def rd_lV (own : String) (ix : Nat) (y : rd_X) (np ci : Nat) : Prop := rd_ok y ∧ Cond.methodLink own ix (rd_nm y) ∈ rd_ws ∧ Cond.instanceMethod (rd_nm y) ∈ rd_ws ∧ ((rd_nm y).cls ≠ "java/lang/invoke/MethodHandle" ∧ (rd_nm y).cls ≠ "java/lang/invoke/VarHandle") ∧ (parseMethodDescriptor (rd_nm y).desc).map (fun d => d.parameters.length) = some np ∧ ∃ (C : String) (T : u_T) (N : Nat), rd_CL[ci]? = some (C, T, N) ∧ Cond.selects C (rd_nm y) (rd_nm y) ∈ rd_ws
section RdCalls
variable {x : rd_X} {pc : Nat} {L : List (Option Value)} {st stk : List Value} {M : rd_M} {n : Nat} {Q : rd_R → rd_M → Prop}
theorem rd_cats {σ : Nat → Nat} {st : List Value} : (st.map (rd_pv σ)).map (fun v => v.category) = st.map (fun v => v.category) := by
  rw [List.map_map]; exact List.map_congr_left (fun v _ => rd_cat)
theorem rd_callS {ix np : Nat} {y : rd_X} (As : List Value) (hd : decode (rd_cd x) pc = .ok (.invokestatic ix, 3)) (hk : rd_lS (rd_nm x).cls ix y np) (hdp : rd_dp y + 1 ≤ rd_dp x) (hlb : 19 + rd_ml y + rd_lb y ≤ rd_lb x) (hcp : n + rd_cp y ≤ rd_cp x) (hst : As.reverse ++ st = stk) (hlen : As.length = np) (hsl : (rd_en As).length ≤ rd_ml y) (hW : (st.map fun v => v.category).sum ≤ 8)
    (k : rd_G y 0 (rd_ep (rd_ml y) As) [] M 0 (fun r M' => ∃ v, r = .inl v ∧ rd_G x (pc + 3) L (v.toList ++ st) M' (n + rd_cp y) Q)) : rd_G x pc L stk M n Q := by
  subst hst
  intro p l e R s m args below meth c σ D cA A C H locs ls cells slots hc hs hP hS hl T hT X
  obtain ⟨hx, hb, hml, hown, hts, hK, hj, hA, hAs, hrm, hrt, hlks, htb, hXF, hSC⟩ := id C
  obtain ⟨hok, hlink, hstat, hy, hnp⟩ := hk
  obtain ⟨mk, methM, cM, hnamed, hmethM, -, -, -, -, -, -, hsigM⟩ := rd_ok_code hok hts
  have hstatic : methM.isStatic = true := Cond.static_spec hnamed hmethM (hts _ hstat)
  obtain ⟨kP, hkP, -⟩ := className_of_methodNamed hnamed
  have hinitP : kP.init = .initialized := Cond.initialized_spec (findClass_of_methodNamed hnamed) hkP (hts _ hok.2.2.1)
  have hnp' : (As.map (rd_pv σ)).length = methM.sig.parameters.length := by
    rw [hsigM] at hnp
    have := Option.some.inj hnp
    rw [List.length_map, hlen, ← this]
  obtain ⟨vm₁, X₁, hstep₁⟩ := X.invokestatic hx hown (hts _ hlink) hnamed hmethM hstatic hkP hinitP hy (g := F0 m pc ls ((As.reverse ++ st).map (rd_pv σ))) rfl (argsL := As.map (rd_pv σ)) (rest := st.map (rd_pv σ)) hnp' (by simp) (by rw [hb]; exact hd)
  subst hT
  obtain ⟨t, hs1, o, r, M', b1, b2, b3, ⟨v, rfl, hG⟩, b5, Lc, b6, b7, b8, b9⟩ := rd_run (T := T.setVm vm₁) (g := F0 m pc ls (st.map (rd_pv σ))) (ig := .invokestatic ix) (len := 3) X₁ C rfl (hl.1.trans hml.symm) (by rw [hb]; exact hd) (by rw [rd_cats]; simpa using hW) hok hdp hlb hc hs hcp (X₁.named hnamed) hP hS hsl k
  have b3 : o = .returned (v.map (rd_pv σ)) := b3
  subst b3
  obtain ⟨t2, c1, c2⟩ := rd_back (y := y) (T := T.setVm vm₁) X₁ C rfl (by rw [hb]; exact hd) hc hs hS hl b2 b5 b6 b7 b8 b9 hG
  exact ⟨t2, hstep₁ _ fun acts => by rw [doInvoke_state]; exact hs1.trans c1, c2⟩
theorem rd_callV {ix np ci q : Nat} {fs : List (Nat ⊕ Nat)} {y : rd_X} (As : List Value) (hd : decode (rd_cd x) pc = .ok (.invokevirtual ix, 3)) (hk : rd_lV (rd_nm x).cls ix y np ci) (hq : rd_SH[q]? = some (.inr (ci, fs))) (hdp : rd_dp y + 1 ≤ rd_dp x) (hlb : 19 + rd_ml y + rd_lb y ≤ rd_lb x) (hcp : n + rd_cp y ≤ rd_cp x) (hst : As.reverse ++ .ref q :: st = stk) (hlen : As.length = np) (hsl : (rd_en (.ref q :: As)).length ≤ rd_ml y) (hW : (st.map fun v => v.category).sum ≤ 8)
    (k : rd_G y 0 (rd_ep (rd_ml y) (.ref q :: As)) [] M 0 (fun r M' => ∃ v, r = .inl v ∧ rd_G x (pc + 3) L (v.toList ++ st) M' (n + rd_cp y) Q)) : rd_G x pc L stk M n Q := by
  subst hst
  intro p l e R s m args below meth c σ D cA A C H locs ls cells slots hc hs hP hS hl T hT X
  obtain ⟨hx, hb, hml, hown, hts, hK, hj, hA, hAs, hrm, hrt, hlks, htb, hXF, hSC⟩ := id C
  obtain ⟨hok, hlink, hinst, hy, hnp, Cn, Tn, Nn, hcl, hsel⟩ := hk
  obtain ⟨mk9, methM9, cM, hnamed9, hmethM9, -, -, -, -, -, -, hsigM⟩ := rd_ok_code hok hts
  obtain ⟨mk, methM, hnamed, hmethM, hstM, habM⟩ := Cond.instanceMethod_spec (hts _ hinst)
  cases hnamed.symm.trans hnamed9
  cases hmethM.symm.trans hmethM9
  subst hT
  obtain ⟨rr, hr1, cellB, hq1, hq2, hq3, -⟩ := hP q _ (rd_wd_at (σ := σ) (cA := cA) (M := M) hq)
  cases hr1.symm.trans hcl
  obtain ⟨-, hfc, -⟩ := hK.1 ci _ hcl
  have hcls : s.vm.findClass Cn = some cellB.cls := by rw [hq2]; exact hfc
  obtain ⟨c2, r2, m2, q1, q2, q3, q4, kP, hkP, hkPi⟩ := Cond.selects_spec (hts _ hsel)
  cases hcls.symm.trans q1
  cases (State.methodFound?_of_named hnamed hy).symm.trans q2
  cases hnamed.symm.trans q3
  have hselP : selectMethod e.platform s.vm cellB.cls mk9 = .method mk9 := by rw [Launch.admits_selectMethod X.admits]; exact q4
  have hnp' : (As.map (rd_pv σ)).length = methM9.sig.parameters.length := by
    rw [hsigM] at hnp
    have := Option.some.inj hnp
    rw [List.length_map, hlen, ← this]
  obtain ⟨vm₁, X₁, hstep₁⟩ := X.invokevirtual hx hown (hts _ hlink) hnamed hmethM hstM hkP hkPi hy (a := σ q) (cell := cellB) hq1 (fun z h => by rw [hq3] at h; cases h) hselP hmethM habM hkP hkPi (g := F0 m pc ls ((As.reverse ++ .ref q :: st).map (rd_pv σ))) rfl (argsL := As.map (rd_pv σ)) (rest := st.map (rd_pv σ)) hnp' (by simp [rd_pv]) (by rw [hb]; exact hd)
  obtain ⟨t, hs1, o, r, M', b1, b2, b3, ⟨v, rfl, hG⟩, b5, Lc, b6, b7, b8, b9⟩ := rd_run (T := T.setVm vm₁) (As := .ref q :: As) (g := F0 m pc ls (st.map (rd_pv σ))) (ig := .invokevirtual ix) (len := 3) X₁ C rfl (hl.1.trans hml.symm) (by rw [hb]; exact hd) (by rw [rd_cats]; simpa using hW) hok hdp hlb hc hs hcp (X₁.named hnamed) hP hS hsl k
  have b3 : o = .returned (v.map (rd_pv σ)) := b3
  subst b3
  obtain ⟨t2, c1, c2⟩ := rd_back (y := y) (T := T.setVm vm₁) X₁ C rfl (by rw [hb]; exact hd) hc hs hS hl b2 b5 b6 b7 b8 b9 hG
  exact ⟨t2, hstep₁ _ fun acts => by rw [doInvoke_state]; exact hs1.trans c1, c2⟩
end RdCalls