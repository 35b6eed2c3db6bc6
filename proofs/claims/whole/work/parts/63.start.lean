/-! THE CLAIM OUT OF ONE WALK OF THE LAW'S BODY. Your part is whole_start (and what it stands on); all else here is the same for every law, but numbers. -/
def R_law : String := "ReinsuranceDeskLaw"
def lw_P (b : Addr) (xs : List Int32) (args : Array Value) (s : State) : Prop := args = #[.ref b] ∧ s.IntsAt b xs ∧ xs.length ≤ 3072 ∧ (Jvm.Cond.and given_1 narrow_1).before args s = true
def lw_Q (_ : Array Value) (s : State) (o : Outcome) (t : State) : Prop := o = .returned (some (.int 1)) ∧ Framed s o t [] 1110 10568
def lw_Z (below : List Frame) (a : Array Value) (s : State) : State → Prop := fun t => ∃ o, t.status = .running ∧ Ended t below o ∧ lw_Q a s o t
/-- what holds at the law's entry: the machine, the code, the tables' words (any of lw_tbl by 'hts w (by decide +kernel)'), the script of L ints xs at the cell b, what the Statement gives of the start (any of its parts by flat_of_before) -/
def lw_At (p : Program) (s : State) (m : MethodId) (meth : Method) (c : Code) (b L : Nat) (xs : Nat → Int32) : Prop :=
  p.tables.exec = Jvm.exec ∧ c.code = code ∧ meth.sig.returnType = ret ∧ c.maxLocals = 8 ∧ s.vm.findClass R_law = some m.cls ∧ (∀ w ∈ lw_tbl, w.before #[Value.ref b] s = true) ∧ va_X b L xs s s.heap ∧ b < s.heap.size ∧ meth.locks = false ∧ (Jvm.Cond.and given_1 narrow_1).before #[Value.ref b] s = true
/-! the start of the law: nothing told; what the law's end says -/
theorem k_0 : k_R (fun _ _ => 0) 0 0 (fun k => k) := by
  refine ⟨⟨⟨by simp, by simp, fun r _ _ => ⟨by simp, by simp, by simp⟩, fun k _ _ => ⟨by simp, by simp, by simp, by simp, by simp, by simp⟩, fun t _ _ => ⟨by simp, by simp, by simp, by simp, by simp, by simp⟩, fun i _ _ => by simp, fun y _ _ => by simp⟩, fun t _ _ _ => by simp, rfl, rfl, ⟨fun k a b => ?_, fun i a b => ?_, fun i j a b c => ?_⟩⟩, rfl, rfl, k_d rfl rfl rfl rfl rfl rfl rfl rfl rfl rfl rfl rfl rfl (fun t => rfl) (fun t => rfl), rfl, rfl, fun t _ _ => by simp, fun k a b => ?_, fun t a b => ?_⟩
  all_goals (exfalso; omega)
theorem lw_fg {s t : State} {L : List Loc} {k n : Nat} (h : s.sameButNew t L k n) (hL : ∀ q ∈ L, s.heap.size ≤ q.base) : s.sameButNew t [] k n := by
  obtain ⟨h1, h2, h3, h4, h5, h6⟩ := h
  refine ⟨h1, h2, h3, h4, h5, fun a c hc => ?_⟩
  obtain ⟨c', e1, e2, e3, e4⟩ := h6 a c hc
  refine ⟨c', e1, e2, e3, fun i _ => e4 i (fun hm => ?_)⟩
  have h8 : s.heap.size ≤ a := hL _ hm
  have h9 := (Array.getElem?_eq_some_iff.mp hc).1
  omega
