/-- where a static field lies, its class's statics cell in H -/
def vx_L (C n d : String) (A : Nat → Prop) (U : State) (H : Heap) : Prop := ∃ (c : ClassId) (k : Class) (i : Nat) (f : Field) (a : Nat) (cell : Cell), U.vm.findClass C = some c ∧ U.fieldFound? C n d = some (c, k, i, f) ∧ f.isStatic = true ∧ k.statics = some a ∧ H[a]? = some cell ∧ cell.vm.isStatics = true ∧ cell.cls = c ∧ f.slot < cell.slots.size ∧ k.staticTypes[f.slot]? = some f.type ∧ ¬ A a
theorem vx_L.moved {C n d : String} {A : Nat → Prop} {u U : State} {H : Heap} (hvm : u.vm.Alike U.vm) (h : vx_L C n d A u H) : vx_L C n d A U H := by
  obtain ⟨c, k, i, f, a, cell, h1, h2, h3, h4, h5, h6, h7, h8, h9, h10⟩ := h
  obtain ⟨k', hi', he⟩ := State.fieldFound?_setVm hvm h2
  exact ⟨c, k', i, f, a, cell, by rw [hvm.findClass]; exact h1, hi', h3, by rw [he]; exact h4, h5, h6, h7, h8, by rw [he]; exact h9, h10⟩
theorem vx_L.kept {C n d : String} {A : Nat → Prop} {U : State} {H H1 : Heap} (h : vx_L C n d A U H) (hq : ∀ a : Nat, a < H.size → ¬ A a → H1[a]? = H[a]?) : vx_L C n d A U H1 := by
  obtain ⟨c, k, i, f, a, cell, h1, h2, h3, h4, h5, h6, h7, h8, h9, h10⟩ := h
  exact ⟨c, k, i, f, a, cell, h1, h2, h3, h4, by rw [hq a (Array.getElem?_eq_some_iff.mp h5).1 h10]; exact h5, h6, h7, h8, h9, h10⟩
theorem vx_L.narrow {C n d : String} {A B : Nat → Prop} {U : State} {H : Heap} (h : vx_L C n d A U H) (hAB : ∀ q, B q → A q) : vx_L C n d B U H := by
  obtain ⟨c, k, i, f, a, cell, h1, h2, h3, h4, h5, h6, h7, h8, h9, h10⟩ := h
  exact ⟨c, k, i, f, a, cell, h1, h2, h3, h4, h5, h6, h7, h8, h9, fun z => h10 (hAB _ z)⟩
theorem vx_L.word {C n d : String} {A : Nat → Prop} {s : State} {args : Array Value} (h : vx_L C n d A s s.heap) : (Cond.laysStatic C n d).before args s = true := by
  obtain ⟨c, k, i, f, a, cell, h1, h2, h3, h4, h5, h6, h7, h8, h9, -⟩ := h
  show (Cond.laysStatic C n d).holds args s none s [] = true
  exact Cond.laysStatic_of h1 h2 h3 h4 h5 h6 h7 h8 h9
/-- .. and what it holds: null or some reference -/
def vx_Zq (C n d : String) (A : Nat → Prop) (U : State) (H : Heap) : Prop := va_Zq C n d A U H ∧ vx_L C n d A U H
theorem vx_Zq.moved {C n d : String} {A : Nat → Prop} {u U : State} {H : Heap} (hvm : u.vm.Alike U.vm) (h : vx_Zq C n d A u H) : vx_Zq C n d A U H := ⟨va_Zq.moved hvm h.1, vx_L.moved hvm h.2⟩
theorem vx_Zq.kept {C n d : String} {A : Nat → Prop} {U : State} {H H1 : Heap} (h : vx_Zq C n d A U H) (hq : ∀ a : Nat, a < H.size → ¬ A a → H1[a]? = H[a]?) : vx_Zq C n d A U H1 := ⟨va_Zq.kept h.1 hq, vx_L.kept h.2 hq⟩
theorem vx_Zq.narrow {C n d : String} {A B : Nat → Prop} {U : State} {H : Heap} (h : vx_Zq C n d A U H) (hAB : ∀ q, B q → A q) : vx_Zq C n d B U H := ⟨va_Zq.narrow h.1 hAB, vx_L.narrow h.2 hAB⟩
theorem vx_Zqof {args : Array Value} {s : State} {C n d : String} {A : Nat → Prop} (hl : (Cond.laysStatic C n d).before args s = true) (hini : (Cond.initialized C).before args s = true) (h : (Cond.isRef (.static C n d)).before args s = true) (hA : ∀ a : Nat, a < s.heap.size → ¬ A a) : vx_Zq C n d A s s.heap := by
  refine ⟨va_Zqof hl hini h hA, ?_⟩
  obtain ⟨c, k, i, f, a, cell, h1, h2, h3, h4, h5, h6, h7, h8, h9⟩ := Cond.laysStatic_spec hl
  exact ⟨c, k, i, f, a, cell, h1, h2, h3, h4, h5, h6, h7, h8, h9, hA a (Array.getElem?_eq_some_iff.mp h5).1⟩
theorem vx_isRef {C n d : String} {v : Value} {A : Nat → Prop} {s : State} {args : Array Value} (h : va_Z C n d v A s s.heap) (hv : v.isRef = true) : (Cond.isRef (.static C n d)).before args s = true := by
  obtain ⟨cf, kf, fi, f, a, cell, h1, h2, h3, h4, h5, h6, h7, -⟩ := h
  have he : (Term.static C n d).eval args s none [] s = some v := by
    simp [Term.eval, State.fieldNamed?, h1, h2, h4, h5, h6, h7]
  simp only [Cond.before, Cond.holds, Cond.value, he]
  cases v <;> simp_all [Value.isRef]
theorem vx_isRefq {C n d : String} {A : Nat → Prop} {s : State} {args : Array Value} (h : va_Zq C n d A s s.heap) : (Cond.isRef (.static C n d)).before args s = true := by
  rcases h with h | ⟨t, h⟩
  · exact vx_isRef h rfl
  · exact vx_isRef h rfl
/-- the texts of exceptions -/
def rd_ss : List (String × Nat × String) := [("ReinsuranceDesk", 57, "no such risk, sum or year"), ("ReinsuranceDesk", 68, "the risk is told, or the year is closed"), ("ReinsuranceDesk", 81, "no such risk or amount"), ("ReinsuranceDesk", 83, "the year is closed"), ("ReinsuranceDesk", 95, "no such treaty"), ("ReinsuranceDesk", 101, "there are no more treaties, or the year is closed"), ("ReinsuranceDesk", 111, "no such treaty, reinsurer or part"), ("ReinsuranceDesk", 118, "the shares would be too much, or the year is closed"), ("ReinsuranceDesk", 124, "no such risk, event or hour"), ("ReinsuranceDesk", 127, "there are no more claims, or the year is closed"), ("ReinsuranceDesk", 133, "no such claim or amount"), ("ReinsuranceDesk", 142, "the claim is struck, or the year is closed"), ("ReinsuranceDesk", 147, "no such claim"), ("ReinsuranceDesk", 149, "no such event or year"), ("ReinsuranceDesk", 161, "no such claim or treaty"), ("ReinsuranceDesk", 169, "no such excess"), ("ReinsuranceDesk", 181, "no such excess or event"), ("ReinsuranceDesk", 186, "no such treaty or what"), ("ReinsuranceDesk", 197, "no such treaty, reinsurer or what"), ("ReinsuranceDesk", 206, "no such claim, amount or treaty"), ("ReinsuranceDesk", 208, "the claim is struck"), ("ReinsuranceDesk", 214, "no such reinsurer"), ("ReinsuranceDesk", 220, "no such year"), ("ReinsuranceDesk", 222, "the year is so")]
abbrev rd_sU : String × String × String := ("java/lang/Throwable", "UNASSIGNED_STACK", "[Ljava/lang/StackTraceElement;")
abbrev rd_sN : String × String × String := ("java/lang/Throwable", "SUPPRESSED_SENTINEL", "Ljava/util/List;")
/-- what throwing stands on: a launch without stack traces; two static fields; texts; no cell that may be changed is a holder of static fields -/
def rd_XF (l : Launch) (s : State) (A : Nat → Prop) : Prop :=
  l.stackTraces = false ∧ vx_Zq rd_sU.1 rd_sU.2.1 rd_sU.2.2 A s s.heap ∧ vx_Zq rd_sN.1 rd_sN.2.1 rd_sN.2.2 A s s.heap ∧ (∀ (a : Nat) (ce : Cell), s.heap[a]? = some ce → ce.vm.isStatics = true → ¬ A a) ∧ (∀ q ∈ rd_ss, ∃ sa, vk_R q.1 q.2.1 q.2.2 sa s) ∧ va_Nc (rd_xn 1) (rd_xn 0) s
