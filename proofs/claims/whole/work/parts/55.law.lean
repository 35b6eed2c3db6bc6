/-! the law: its frame, and two rules -/
/-- the law over a script of Ls words -/
def x_L_law (Ls : Nat) (xs : Int → Int) : rd_X := (y_L_law, c_L_law, 8, some .boolean, [], 10, 388, 1110, some (Ls, xs))
theorem rd_and31 (x : Int32) : ∃ z : Int, 0 ≤ z ∧ z < 32 ∧ x &&& Int32.ofInt 31 = Int32.ofInt z := by
  refine ⟨(x &&& Int32.ofInt 31).toInt, ?_, ?_, (Int32.ofInt_toInt _).symm⟩
  all_goals
    have h1 : (x &&& Int32.ofInt 31).toBitVec.toNat ≤ 31 := by
      rw [Int32.toBitVec_and, BitVec.toNat_and]
      exact Nat.le_trans Nat.and_le_right (by decide)
    have h2 : (x &&& Int32.ofInt 31).toInt = ((x &&& Int32.ofInt 31).toBitVec.toNat : Int) := BitVec.toInt_eq_toNat_of_lt (by omega)
    omega
section RdLaw
variable {x : rd_X} {pc : Nat} {L : List (Option Value)} {st : List Value} {M : rd_M} {n : Nat} {Q : rd_R → rd_M → Prop}
theorem rd_iand31 {a : Int} (hd : decode (rd_cd x) pc = .ok (.iand, 1)) (k : ∀ z : Int, 0 ≤ z → z < 32 → rd_G x (pc + 1) L (rd_i z :: st) M n Q) : rd_G x pc L (rd_i 31 :: rd_i a :: st) M n Q := by
  obtain ⟨z, z0, z1, hz⟩ := rd_and31 (Int32.ofInt a)
  intro p l e R s m args below meth c σ D cA A C H locs ls cells slots hc hs hP hS hl
  refine lv_iand (x := Int32.ofInt a) (y := Int32.ofInt 31) (rest := st.map (rd_pv σ)) C.1 C.2.1 hd ?_
  rw [hz]
  exact k z z0 z1 p l e R s m args below meth c σ D cA A C H locs ls cells slots hc hs hP hS hl
theorem rd_lcmpE {a b off : Int} {tgt : Nat} (hc0 : decode (rd_cd x) pc = .ok (.lcmp, 1)) (hd : decode (rd_cd x) (pc + 1) = .ok (.ifCond .eq off, 3)) (ht : ((pc + 1 : Nat) : Int) + off = (tgt : Int)) (he : a = b) (k : rd_G x tgt L st M n Q) : rd_G x pc L (rd_l b :: rd_l a :: st) M n Q := by
  subst he
  intro p l e R s m args below meth c σ D cA A C H locs ls cells slots hc hs hP hS hl
  refine W.lcmp (x := Int64.ofInt a) (y := Int64.ofInt a) (rest := st.map (rd_pv σ)) C.1 C.2.1 hc0 ?_
  exact lv_if_eq (x := lg_cmp (Int64.ofInt a) (Int64.ofInt a)) (rest := st.map (rd_pv σ)) C.1 C.2.1 hd ht (fun _ => k p l e R s m args below meth c σ D cA A C H locs ls cells slots hc hs hP hS hl) (fun h => absurd ((lg_cmp_eq _ _).mpr rfl) h)
end RdLaw
