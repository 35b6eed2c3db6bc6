/-! names: classes and their fields, the world's shape, methods -/
def rd_T0 : u_T := fun k => match k with
  | 0 => ("ReinsuranceDesk$Cession", "risks", "LReinsuranceDesk$Risks;", true)
  | 1 => ("ReinsuranceDesk$Cession", "claims", "LReinsuranceDesk$Claims;", true)
  | 2 => ("ReinsuranceDesk$Cession", "treaties", "LReinsuranceDesk$Treaties;", true)
  | 3 => ("ReinsuranceDesk$Cession", "counts", "[Z", true)
  | 4 => ("ReinsuranceDesk$Cession", "keptOf", "[I", true)
  | 5 => ("ReinsuranceDesk$Cession", "cededOf", "[I", true)
  | 6 => ("ReinsuranceDesk$Cession", "taken", "[J", true)
  | 7 => ("ReinsuranceDesk$Cession", "windowOf", "[I", true)
  | 8 => ("ReinsuranceDesk$Cession", "premiumLeft", "[J", true)
  | 9 => ("ReinsuranceDesk$Cession", "premiumTo", "[J", true)
  | 10 => ("ReinsuranceDesk$Cession", "group", "[I", true)
  | 11 => ("ReinsuranceDesk$Cession", "groupSize", "I", false)
  | _ => ("ReinsuranceDesk$Cession", "remainder", "[J", true)
def rd_t0 : Nat → FieldType := fun k => match k with
  | 0 => .object "ReinsuranceDesk$Risks"
  | 1 => .object "ReinsuranceDesk$Claims"
  | 2 => .object "ReinsuranceDesk$Treaties"
  | 3 => .array .boolean
  | 4 => .array .int
  | 5 => .array .int
  | 6 => .array .long
  | 7 => .array .int
  | 8 => .array .long
  | 9 => .array .long
  | 10 => .array .int
  | 11 => .int
  | _ => .array .long
theorem rd_nn0 : ∀ a, a < 13 → ∀ b, b < 13 → a ≠ b → (rd_T0 a).2.1 ≠ (rd_T0 b).2.1 := by decide +kernel
theorem rd_tt0 : ∀ k, k < 13 → parseFieldDescriptor (rd_T0 k).2.2.1 = some (rd_t0 k) := by decide +kernel
def rd_T1 : u_T := fun k => match k with
  | 0 => ("ReinsuranceDesk$Claims", "count", "I", false)
  | 1 => ("ReinsuranceDesk$Claims", "riskOf", "[I", true)
  | 2 => ("ReinsuranceDesk$Claims", "event", "[I", true)
  | 3 => ("ReinsuranceDesk$Claims", "hour", "[I", true)
  | 4 => ("ReinsuranceDesk$Claims", "amount", "[I", true)
  | 5 => ("ReinsuranceDesk$Claims", "struck", "[Z", true)
  | _ => ("ReinsuranceDesk$Claims", "byHour", "[I", true)
def rd_t1 : Nat → FieldType := fun k => match k with
  | 0 => .int
  | 1 => .array .int
  | 2 => .array .int
  | 3 => .array .int
  | 4 => .array .int
  | 5 => .array .boolean
  | _ => .array .int
theorem rd_nn1 : ∀ a, a < 7 → ∀ b, b < 7 → a ≠ b → (rd_T1 a).2.1 ≠ (rd_T1 b).2.1 := by decide +kernel
theorem rd_tt1 : ∀ k, k < 7 → parseFieldDescriptor (rd_T1 k).2.2.1 = some (rd_t1 k) := by decide +kernel
def rd_T2 : u_T := fun k => match k with
  | 0 => ("ReinsuranceDesk$Risks", "sum", "[I", true)
  | 1 => ("ReinsuranceDesk$Risks", "premiumOf", "[I", true)
  | _ => ("ReinsuranceDesk$Risks", "yearOf", "[I", true)
def rd_t2 : Nat → FieldType := fun k => match k with
  | 0 => .array .int
  | 1 => .array .int
  | _ => .array .int
theorem rd_nn2 : ∀ a, a < 3 → ∀ b, b < 3 → a ≠ b → (rd_T2 a).2.1 ≠ (rd_T2 b).2.1 := by decide +kernel
theorem rd_tt2 : ∀ k, k < 3 → parseFieldDescriptor (rd_T2 k).2.2.1 = some (rd_t2 k) := by decide +kernel
def rd_T3 : u_T := fun k => match k with
  | 0 => ("ReinsuranceDesk$Treaties", "count", "I", false)
  | 1 => ("ReinsuranceDesk$Treaties", "kind", "[I", true)
  | 2 => ("ReinsuranceDesk$Treaties", "yearOf", "[I", true)
  | 3 => ("ReinsuranceDesk$Treaties", "a", "[J", true)
  | 4 => ("ReinsuranceDesk$Treaties", "b", "[J", true)
  | 5 => ("ReinsuranceDesk$Treaties", "c", "[J", true)
  | 6 => ("ReinsuranceDesk$Treaties", "d", "[J", true)
  | _ => ("ReinsuranceDesk$Treaties", "part", "[I", true)
def rd_t3 : Nat → FieldType := fun k => match k with
  | 0 => .int
  | 1 => .array .int
  | 2 => .array .int
  | 3 => .array .long
  | 4 => .array .long
  | 5 => .array .long
  | 6 => .array .long
  | _ => .array .int
theorem rd_nn3 : ∀ a, a < 8 → ∀ b, b < 8 → a ≠ b → (rd_T3 a).2.1 ≠ (rd_T3 b).2.1 := by decide +kernel
theorem rd_tt3 : ∀ k, k < 8 → parseFieldDescriptor (rd_T3 k).2.2.1 = some (rd_t3 k) := by decide +kernel
def rd_T4 : u_T := fun k => match k with
  | 0 => ("ReinsuranceDesk", "risks", "LReinsuranceDesk$Risks;", true)
  | 1 => ("ReinsuranceDesk", "claims", "LReinsuranceDesk$Claims;", true)
  | 2 => ("ReinsuranceDesk", "treaties", "LReinsuranceDesk$Treaties;", true)
  | 3 => ("ReinsuranceDesk", "cession", "LReinsuranceDesk$Cession;", true)
  | 4 => ("ReinsuranceDesk", "closed", "[Z", true)
  | _ => ("ReinsuranceDesk", "billed", "[J", true)
def rd_t4 : Nat → FieldType := fun k => match k with
  | 0 => .object "ReinsuranceDesk$Risks"
  | 1 => .object "ReinsuranceDesk$Claims"
  | 2 => .object "ReinsuranceDesk$Treaties"
  | 3 => .object "ReinsuranceDesk$Cession"
  | 4 => .array .boolean
  | _ => .array .long
theorem rd_nn4 : ∀ a, a < 6 → ∀ b, b < 6 → a ≠ b → (rd_T4 a).2.1 ≠ (rd_T4 b).2.1 := by decide +kernel
theorem rd_tt4 : ∀ k, k < 6 → parseFieldDescriptor (rd_T4 k).2.2.1 = some (rd_t4 k) := by decide +kernel
def rd_T5 : u_T := fun k => match k with
  | 0 => ("ReinsuranceDeskModel", "thrown", "I", false)
  | 1 => ("ReinsuranceDeskModel", "sum", "[I", true)
  | 2 => ("ReinsuranceDeskModel", "premium", "[I", true)
  | 3 => ("ReinsuranceDeskModel", "yearOf", "[I", true)
  | 4 => ("ReinsuranceDeskModel", "risk", "[I", true)
  | 5 => ("ReinsuranceDeskModel", "event", "[I", true)
  | 6 => ("ReinsuranceDeskModel", "hour", "[I", true)
  | 7 => ("ReinsuranceDeskModel", "estimate", "[I", true)
  | 8 => ("ReinsuranceDeskModel", "struck", "[Z", true)
  | 9 => ("ReinsuranceDeskModel", "claims", "I", false)
  | 10 => ("ReinsuranceDeskModel", "shape", "[I", true)
  | 11 => ("ReinsuranceDeskModel", "a", "[I", true)
  | 12 => ("ReinsuranceDeskModel", "b", "[I", true)
  | 13 => ("ReinsuranceDeskModel", "c", "[I", true)
  | 14 => ("ReinsuranceDeskModel", "d", "[I", true)
  | 15 => ("ReinsuranceDeskModel", "treaties", "I", false)
  | 16 => ("ReinsuranceDeskModel", "shares", "[I", true)
  | 17 => ("ReinsuranceDeskModel", "billed", "[J", true)
  | 18 => ("ReinsuranceDeskModel", "closed", "[Z", true)
  | 19 => ("ReinsuranceDeskModel", "kept", "[J", true)
  | 20 => ("ReinsuranceDeskModel", "taken", "[J", true)
  | 21 => ("ReinsuranceDeskModel", "total", "[J", true)
  | 22 => ("ReinsuranceDeskModel", "earned", "[J", true)
  | 23 => ("ReinsuranceDeskModel", "window", "[I", true)
  | 24 => ("ReinsuranceDeskModel", "left", "[J", true)
  | 25 => ("ReinsuranceDeskModel", "inside", "[Z", true)
  | 26 => ("ReinsuranceDeskModel", "rest", "[J", true)
  | 27 => ("ReinsuranceDeskModel", "more", "[I", true)
  | 28 => ("ReinsuranceDeskModel", "passed", "J", false)
  | _ => ("ReinsuranceDeskModel", "used", "J", false)
def rd_t5 : Nat → FieldType := fun k => match k with
  | 0 => .int
  | 1 => .array .int
  | 2 => .array .int
  | 3 => .array .int
  | 4 => .array .int
  | 5 => .array .int
  | 6 => .array .int
  | 7 => .array .int
  | 8 => .array .boolean
  | 9 => .int
  | 10 => .array .int
  | 11 => .array .int
  | 12 => .array .int
  | 13 => .array .int
  | 14 => .array .int
  | 15 => .int
  | 16 => .array .int
  | 17 => .array .long
  | 18 => .array .boolean
  | 19 => .array .long
  | 20 => .array .long
  | 21 => .array .long
  | 22 => .array .long
  | 23 => .array .int
  | 24 => .array .long
  | 25 => .array .boolean
  | 26 => .array .long
  | 27 => .array .int
  | 28 => .long
  | _ => .long
theorem rd_nn5 : ∀ a, a < 30 → ∀ b, b < 30 → a ≠ b → (rd_T5 a).2.1 ≠ (rd_T5 b).2.1 := by decide +kernel
theorem rd_tt5 : ∀ k, k < 30 → parseFieldDescriptor (rd_T5 k).2.2.1 = some (rd_t5 k) := by decide +kernel
abbrev rd_CL : List vw_C := [("ReinsuranceDesk$Cession", rd_T0, 13), ("ReinsuranceDesk$Claims", rd_T1, 7), ("ReinsuranceDesk$Risks", rd_T2, 3), ("ReinsuranceDesk$Treaties", rd_T3, 8), ("ReinsuranceDesk", rd_T4, 6), ("ReinsuranceDeskModel", rd_T5, 30)]
/-- the world: arrays (kind of element, length), objects (class, fields: a place, or a number) -/
def rd_SH : List ((Nat × Nat) ⊕ (Nat × List (Nat ⊕ Nat))) := [
  .inr (4, [.inl 1, .inl 2, .inl 3, .inl 4, .inl 5, .inl 6]),
  .inr (2, [.inl 7, .inl 8, .inl 9]),
  .inr (1, [.inr 0, .inl 10, .inl 11, .inl 12, .inl 13, .inl 14, .inl 15]),
  .inr (3, [.inr 0, .inl 16, .inl 17, .inl 18, .inl 19, .inl 20, .inl 21, .inl 22]),
  .inr (0, [.inl 1, .inl 2, .inl 3, .inl 23, .inl 24, .inl 25, .inl 26, .inl 27, .inl 28, .inl 29, .inl 30, .inr 0, .inl 31]),
  .inl (2, 4),
  .inl (1, 6),
  .inl (0, 12),
  .inl (0, 12),
  .inl (0, 12),
  .inl (0, 40),
  .inl (0, 40),
  .inl (0, 40),
  .inl (0, 40),
  .inl (2, 40),
  .inl (0, 40),
  .inl (0, 10),
  .inl (0, 10),
  .inl (1, 10),
  .inl (1, 10),
  .inl (1, 10),
  .inl (1, 10),
  .inl (0, 60),
  .inl (2, 40),
  .inl (0, 40),
  .inl (0, 400),
  .inl (1, 10),
  .inl (0, 100),
  .inl (1, 12),
  .inl (1, 10),
  .inl (0, 40),
  .inl (1, 40),
  .inr (5, [.inr 0, .inl 33, .inl 34, .inl 35, .inl 36, .inl 37, .inl 38, .inl 39, .inl 40, .inr 0, .inl 41, .inl 42, .inl 43, .inl 44, .inl 45, .inr 0, .inl 46, .inl 47, .inl 48, .inl 49, .inl 50, .inl 51, .inl 52, .inl 53, .inl 54, .inl 55, .inl 56, .inl 57, .inr 1, .inr 1]),
  .inl (0, 12),
  .inl (0, 12),
  .inl (0, 12),
  .inl (0, 40),
  .inl (0, 40),
  .inl (0, 40),
  .inl (0, 40),
  .inl (2, 40),
  .inl (0, 10),
  .inl (0, 10),
  .inl (0, 10),
  .inl (0, 10),
  .inl (0, 10),
  .inl (0, 60),
  .inl (1, 6),
  .inl (2, 4),
  .inl (1, 40),
  .inl (1, 400),
  .inl (1, 10),
  .inl (1, 10),
  .inl (0, 100),
  .inl (1, 12),
  .inl (2, 40),
  .inl (1, 40),
  .inl (0, 40),
  .inl (1, 1)]
/-- words that stay when the tables warm -/
def rd_gd (w : Cond) : Bool := goodWord w || (match w with | .castable _ _ => true | .declares _ => true | _ => false)
theorem rd_w_at {args a9 : Array Value} {s U : State} {w : Cond} (hW : s.WarmedH U.vm) (hok : w.warmOk s) (hon : w.onTables = true) (h : w.before args s = true) : w.before a9 U = true := by
  have h1 := Cond.before_warmed (args := args) hW w hok h
  rw [Cond.onTables_vm (A' := a9) (U' := U) U.vm w hon] at h1
  rwa [State.setVm_self] at h1
theorem rd_gd_at {args a9 : Array Value} {s U : State} {w : Cond} (hW : s.WarmedH U.vm) (hg : rd_gd w = true) (h : w.before args s = true) : w.before a9 U = true := by
  unfold rd_gd at hg
  rw [Bool.or_eq_true] at hg
  rcases hg with hg | hg
  · exact word_at hW (good_of_word hg) h
  · cases w with
    | castable a b => exact rd_w_at hW trivial rfl h
    | declares y => exact rd_w_at hW trivial rfl h
    | _ => simp at hg
def rd_ws : List Cond := lw_tbl.filter rd_gd
def rd_KC : Nat := 1
def rd_KS : Nat := 6
def rd_xn (k : Nat) : String := match k with
  | 0 => "java/lang/IllegalArgumentException"
  | _ => "java/lang/IllegalStateException"
theorem rd_m {w : Cond} (i : Nat) (h : tables_1[i]? = some w) (g : rd_gd w = true := by rfl) : w ∈ rd_ws := List.mem_filter.mpr ⟨List.mem_append_right _ (List.mem_of_getElem? h), g⟩
theorem rd_ms {w : Cond} (h : w ∈ k2_sels lw_privs) (g : rd_gd w = true := by rfl) : w ∈ rd_ws := List.mem_filter.mpr ⟨List.mem_append_left _ h, g⟩
set_option maxRecDepth 100000 in
theorem rd_good : ∀ w ∈ rd_ws, rd_gd w = true := fun w h => (List.mem_filter.mp h).2
set_option maxRecDepth 100000 in
theorem rd_u0 : ∀ w ∈ u_ws "ReinsuranceDesk$Cession" rd_T0 13, w ∈ rd_ws := fun w h => of_decide_eq_true (List.all_eq_true.mp (by decide +kernel : (u_ws "ReinsuranceDesk$Cession" rd_T0 13).all (fun w => decide (w ∈ rd_ws)) = true) w h)
set_option maxRecDepth 100000 in
theorem rd_u1 : ∀ w ∈ u_ws "ReinsuranceDesk$Claims" rd_T1 7, w ∈ rd_ws := fun w h => of_decide_eq_true (List.all_eq_true.mp (by decide +kernel : (u_ws "ReinsuranceDesk$Claims" rd_T1 7).all (fun w => decide (w ∈ rd_ws)) = true) w h)
set_option maxRecDepth 100000 in
theorem rd_u2 : ∀ w ∈ u_ws "ReinsuranceDesk$Risks" rd_T2 3, w ∈ rd_ws := fun w h => of_decide_eq_true (List.all_eq_true.mp (by decide +kernel : (u_ws "ReinsuranceDesk$Risks" rd_T2 3).all (fun w => decide (w ∈ rd_ws)) = true) w h)
set_option maxRecDepth 100000 in
theorem rd_u3 : ∀ w ∈ u_ws "ReinsuranceDesk$Treaties" rd_T3 8, w ∈ rd_ws := fun w h => of_decide_eq_true (List.all_eq_true.mp (by decide +kernel : (u_ws "ReinsuranceDesk$Treaties" rd_T3 8).all (fun w => decide (w ∈ rd_ws)) = true) w h)
set_option maxRecDepth 100000 in
theorem rd_u4 : ∀ w ∈ u_ws "ReinsuranceDesk" rd_T4 6, w ∈ rd_ws := fun w h => of_decide_eq_true (List.all_eq_true.mp (by decide +kernel : (u_ws "ReinsuranceDesk" rd_T4 6).all (fun w => decide (w ∈ rd_ws)) = true) w h)
set_option maxRecDepth 100000 in
theorem rd_u5 : ∀ w ∈ u_ws "ReinsuranceDeskModel" rd_T5 30, w ∈ rd_ws := fun w h => of_decide_eq_true (List.all_eq_true.mp (by decide +kernel : (u_ws "ReinsuranceDeskModel" rd_T5 30).all (fun w => decide (w ∈ rd_ws)) = true) w h)
