/-! calls by the kind of their answer -/
section RdCallKinds
variable {x : rd_X} {pc : Nat} {L : List (Option Value)} {st stk : List Value} {M : rd_M} {n n' : Nat} {Q : rd_R → rd_M → Prop}
theorem rd_callSi {ix np : Nat} {y : rd_X} (As : List Value) (hd : decode (rd_cd x) pc = .ok (.invokestatic ix, 3)) (hk : rd_lS (rd_nm x).cls ix y np) (hdp : rd_dp y + 1 ≤ rd_dp x) (hlb : 19 + rd_ml y + rd_lb y ≤ rd_lb x) (hcp : n + rd_cp y ≤ rd_cp x) (hn : n + rd_cp y = n') (hst : As.reverse ++ st = stk) (hlen : As.length = np) (hsl : (rd_en As).length ≤ rd_ml y) (hW : (st.map fun v => v.category).sum ≤ 8)
    (k : rd_G y 0 (rd_ep (rd_ml y) As) [] M 0 (fun r M' => ∃ a : Int, r = .inl (some (rd_i a)) ∧ rd_G x (pc + 3) L (rd_i a :: st) M' n' Q)) : rd_G x pc L stk M n Q := by
  subst hn
  refine rd_callS As hd hk hdp hlb hcp hst hlen hsl hW (rd_mono (fun r M' hq => ?_) k)
  obtain ⟨a, rfl, h⟩ := hq
  exact ⟨some (rd_i a), rfl, h⟩
theorem rd_callVi {ix np ci q : Nat} {fs : List (Nat ⊕ Nat)} {y : rd_X} (As : List Value) (hd : decode (rd_cd x) pc = .ok (.invokevirtual ix, 3)) (hk : rd_lV (rd_nm x).cls ix y np ci) (hq : rd_SH[q]? = some (.inr (ci, fs))) (hdp : rd_dp y + 1 ≤ rd_dp x) (hlb : 19 + rd_ml y + rd_lb y ≤ rd_lb x) (hcp : n + rd_cp y ≤ rd_cp x) (hn : n + rd_cp y = n') (hst : As.reverse ++ .ref q :: st = stk) (hlen : As.length = np) (hsl : (rd_en (.ref q :: As)).length ≤ rd_ml y) (hW : (st.map fun v => v.category).sum ≤ 8)
    (k : rd_G y 0 (rd_ep (rd_ml y) (.ref q :: As)) [] M 0 (fun r M' => ∃ a : Int, r = .inl (some (rd_i a)) ∧ rd_G x (pc + 3) L (rd_i a :: st) M' n' Q)) : rd_G x pc L stk M n Q := by
  subst hn
  refine rd_callV As hd hk hq hdp hlb hcp hst hlen hsl hW (rd_mono (fun r M' hq => ?_) k)
  obtain ⟨a, rfl, h⟩ := hq
  exact ⟨some (rd_i a), rfl, h⟩
theorem rd_callSl {ix np : Nat} {y : rd_X} (As : List Value) (hd : decode (rd_cd x) pc = .ok (.invokestatic ix, 3)) (hk : rd_lS (rd_nm x).cls ix y np) (hdp : rd_dp y + 1 ≤ rd_dp x) (hlb : 19 + rd_ml y + rd_lb y ≤ rd_lb x) (hcp : n + rd_cp y ≤ rd_cp x) (hn : n + rd_cp y = n') (hst : As.reverse ++ st = stk) (hlen : As.length = np) (hsl : (rd_en As).length ≤ rd_ml y) (hW : (st.map fun v => v.category).sum ≤ 8)
    (k : rd_G y 0 (rd_ep (rd_ml y) As) [] M 0 (fun r M' => ∃ a : Int, r = .inl (some (rd_l a)) ∧ rd_G x (pc + 3) L (rd_l a :: st) M' n' Q)) : rd_G x pc L stk M n Q := by
  subst hn
  refine rd_callS As hd hk hdp hlb hcp hst hlen hsl hW (rd_mono (fun r M' hq => ?_) k)
  obtain ⟨a, rfl, h⟩ := hq
  exact ⟨some (rd_l a), rfl, h⟩
theorem rd_callVl {ix np ci q : Nat} {fs : List (Nat ⊕ Nat)} {y : rd_X} (As : List Value) (hd : decode (rd_cd x) pc = .ok (.invokevirtual ix, 3)) (hk : rd_lV (rd_nm x).cls ix y np ci) (hq : rd_SH[q]? = some (.inr (ci, fs))) (hdp : rd_dp y + 1 ≤ rd_dp x) (hlb : 19 + rd_ml y + rd_lb y ≤ rd_lb x) (hcp : n + rd_cp y ≤ rd_cp x) (hn : n + rd_cp y = n') (hst : As.reverse ++ .ref q :: st = stk) (hlen : As.length = np) (hsl : (rd_en (.ref q :: As)).length ≤ rd_ml y) (hW : (st.map fun v => v.category).sum ≤ 8)
    (k : rd_G y 0 (rd_ep (rd_ml y) (.ref q :: As)) [] M 0 (fun r M' => ∃ a : Int, r = .inl (some (rd_l a)) ∧ rd_G x (pc + 3) L (rd_l a :: st) M' n' Q)) : rd_G x pc L stk M n Q := by
  subst hn
  refine rd_callV As hd hk hq hdp hlb hcp hst hlen hsl hW (rd_mono (fun r M' hq => ?_) k)
  obtain ⟨a, rfl, h⟩ := hq
  exact ⟨some (rd_l a), rfl, h⟩
theorem rd_callSv {ix np : Nat} {y : rd_X} (As : List Value) (hd : decode (rd_cd x) pc = .ok (.invokestatic ix, 3)) (hk : rd_lS (rd_nm x).cls ix y np) (hdp : rd_dp y + 1 ≤ rd_dp x) (hlb : 19 + rd_ml y + rd_lb y ≤ rd_lb x) (hcp : n + rd_cp y ≤ rd_cp x) (hn : n + rd_cp y = n') (hst : As.reverse ++ st = stk) (hlen : As.length = np) (hsl : (rd_en As).length ≤ rd_ml y) (hW : (st.map fun v => v.category).sum ≤ 8)
    (k : rd_G y 0 (rd_ep (rd_ml y) As) [] M 0 (fun r M' => r = .inl (none) ∧ rd_G x (pc + 3) L (st) M' n' Q)) : rd_G x pc L stk M n Q := by
  subst hn
  refine rd_callS As hd hk hdp hlb hcp hst hlen hsl hW (rd_mono (fun r M' hq => ?_) k)
  obtain ⟨rfl, h⟩ := hq
  exact ⟨none, rfl, h⟩
theorem rd_callVv {ix np ci q : Nat} {fs : List (Nat ⊕ Nat)} {y : rd_X} (As : List Value) (hd : decode (rd_cd x) pc = .ok (.invokevirtual ix, 3)) (hk : rd_lV (rd_nm x).cls ix y np ci) (hq : rd_SH[q]? = some (.inr (ci, fs))) (hdp : rd_dp y + 1 ≤ rd_dp x) (hlb : 19 + rd_ml y + rd_lb y ≤ rd_lb x) (hcp : n + rd_cp y ≤ rd_cp x) (hn : n + rd_cp y = n') (hst : As.reverse ++ .ref q :: st = stk) (hlen : As.length = np) (hsl : (rd_en (.ref q :: As)).length ≤ rd_ml y) (hW : (st.map fun v => v.category).sum ≤ 8)
    (k : rd_G y 0 (rd_ep (rd_ml y) (.ref q :: As)) [] M 0 (fun r M' => r = .inl (none) ∧ rd_G x (pc + 3) L (st) M' n' Q)) : rd_G x pc L stk M n Q := by
  subst hn
  refine rd_callV As hd hk hq hdp hlb hcp hst hlen hsl hW (rd_mono (fun r M' hq => ?_) k)
  obtain ⟨rfl, h⟩ := hq
  exact ⟨none, rfl, h⟩
theorem rd_gi {ix ci k q : Nat} {ki : Int} {fs : List (Nat ⊕ Nat)} (hd : decode (rd_cd x) pc = .ok (.getfield ix, 3)) (hf : rd_fl (rd_nm x).cls ix ci k) (hq : rd_SH[q]? = some (.inr (ci, fs))) (hk : fs[k]? = some (.inr 0)) (hi : (k : Int) = ki) (kk : rd_G x (pc + 3) L (rd_i (M q ki) :: st) M n Q) : rd_G x pc L (.ref q :: st) M n Q := by
  subst hi
  exact rd_geti hd hf hq hk kk
theorem rd_gl {ix ci k q : Nat} {ki : Int} {fs : List (Nat ⊕ Nat)} (hd : decode (rd_cd x) pc = .ok (.getfield ix, 3)) (hf : rd_fl (rd_nm x).cls ix ci k) (hq : rd_SH[q]? = some (.inr (ci, fs))) (hk : fs[k]? = some (.inr 1)) (hi : (k : Int) = ki) (kk : rd_G x (pc + 3) L (rd_l (M q ki) :: st) M n Q) : rd_G x pc L (.ref q :: st) M n Q := by
  subst hi
  exact rd_getl hd hf hq hk kk
theorem rd_pi {ix ci k q : Nat} {ki a : Int} {fs : List (Nat ⊕ Nat)} (hd : decode (rd_cd x) pc = .ok (.putfield ix, 3)) (hf : rd_fl (rd_nm x).cls ix ci k) (hp : rd_fp ci k .int) (hq : rd_SH[q]? = some (.inr (ci, fs))) (hk : fs[k]? = some (.inr 0)) (hi : (k : Int) = ki) (kk : rd_G x (pc + 3) L st (rd_up M q ki a) n Q) : rd_G x pc L (rd_i a :: .ref q :: st) M n Q := by
  subst hi
  exact rd_puti hd hf hp hq hk kk
theorem rd_pl {ix ci k q : Nat} {ki a : Int} {fs : List (Nat ⊕ Nat)} (hd : decode (rd_cd x) pc = .ok (.putfield ix, 3)) (hf : rd_fl (rd_nm x).cls ix ci k) (hp : rd_fp ci k .long) (hq : rd_SH[q]? = some (.inr (ci, fs))) (hk : fs[k]? = some (.inr 1)) (hi : (k : Int) = ki) (kk : rd_G x (pc + 3) L st (rd_up M q ki a) n Q) : rd_G x pc L (rd_l a :: .ref q :: st) M n Q := by
  subst hi
  exact rd_putl hd hf hp hq hk kk
end RdCallKinds
