/-! the memory, read behind writes -/
theorem rd_up_app {M : rd_M} {p q : Nat} {i v j : Int} (h : q ≠ p) : rd_up M p i v q j = M q j := by rw [rd_up_ne h]
theorem rd_up_hit {M : rd_M} {p : Nat} {i v : Int} : rd_up M p i v p i = v := by simp [rd_up]
theorem rd_up_at {M : rd_M} {p : Nat} {i v j : Int} : rd_up M p i v p j = if j = i then v else M p j := rd_up_same
def rd_sm (f : Int → Int) : Nat → Int
  | 0 => 0
  | n + 1 => rd_sm f n + f n
theorem rd_sm_s {f : Int → Int} {i : Int} (h : 0 ≤ i) : rd_sm f (i + 1).toNat = rd_sm f i.toNat + f i := by
  obtain ⟨n, rfl⟩ := Int.eq_ofNat_of_zero_le h
  rfl
theorem rd_sm_0 {f : Int → Int} : rd_sm f (0 : Int).toNat = 0 := rfl
theorem rd_sm_b {f : Int → Int} {A B : Int} : ∀ (n : Nat), (∀ i : Int, 0 ≤ i → i < n → A ≤ f i ∧ f i ≤ B) → n * A ≤ rd_sm f n ∧ rd_sm f n ≤ n * B
  | 0, _ => by simp [rd_sm]
  | n + 1, h => by
    have h1 := rd_sm_b n (fun i a b => h i a (by omega))
    have h2 := h n (by omega) (by omega)
    have e1 : ((n + 1 : Nat) : Int) * A = n * A + A := by rw [Int.natCast_add]; simp [Int.add_mul]
    have e2 : ((n + 1 : Nat) : Int) * B = n * B + B := by rw [Int.natCast_add]; simp [Int.add_mul]
    rw [e1, e2]
    show _ ≤ rd_sm f n + f n ∧ rd_sm f n + f n ≤ _
    omega
theorem rd_sm_c {f g : Int → Int} : ∀ (n : Nat), (∀ i : Int, 0 ≤ i → i < n → f i = g i) → rd_sm f n = rd_sm g n
  | 0, _ => rfl
  | n + 1, h => by
    show rd_sm f n + f n = rd_sm g n + g n
    rw [rd_sm_c n (fun i a b => h i a (by omega)), h n (by omega) (by omega)]
/-! numbers of treaties -/
/-- the part, in millionths, that a quota (kind 0) or a surplus takes of a sum insured -/
def sp_part (k a b s : Int) : Int := if s ≤ 0 then 0 else if k = 0 then (if s ≤ b then a else (a * b).tdiv s) else (1000000 * min (max (s - a) 0) (a * b)).tdiv s
def sp_layer (a b v : Int) : Int := min (max (v - a) 0) b
def sp_lim (b c : Int) : Int := b * (1 + c)
def sp_T (b c d v : Int) : Int := min (max (v - d) 0) (b * (1 + c))
theorem rd_mulb {a b A B : Int} (h0 : 0 ≤ a) (h1 : a ≤ A) (h2 : 0 ≤ b) (h3 : b ≤ B) : 0 ≤ a * b ∧ a * b ≤ A * B :=
  ⟨Int.mul_nonneg h0 h2, Int.mul_le_mul h1 h3 h2 (Int.le_trans h0 h1)⟩
theorem rd_tdivb {a b : Int} (h0 : 0 ≤ a) (h1 : 0 < b) : 0 ≤ a.tdiv b ∧ a.tdiv b ≤ a := by
  rw [Int.tdiv_eq_ediv_of_nonneg h0]
  exact ⟨Int.ediv_nonneg h0 (Int.le_of_lt h1), Int.ediv_le_self _ h0⟩
/-- what the class's data keep to -/
def c_I (M : rd_M) : Prop :=
  (0 ≤ M 2 0 ∧ M 2 0 ≤ 40) ∧ (0 ≤ M 3 0 ∧ M 3 0 ≤ 10) ∧
  (∀ r, 0 ≤ r → r < 12 → (0 ≤ M 7 r ∧ M 7 r ≤ 1000000000) ∧ (0 ≤ M 8 r ∧ M 8 r ≤ 1000000000) ∧ (0 ≤ M 9 r ∧ M 9 r ≤ 3)) ∧
  (∀ k, 0 ≤ k → k < 40 → (0 ≤ M 10 k ∧ M 10 k < 12) ∧ (0 ≤ M 11 k ∧ M 11 k ≤ 9) ∧ (0 ≤ M 12 k ∧ M 12 k ≤ 100000) ∧ (0 ≤ M 13 k ∧ M 13 k ≤ 1000000000) ∧ (0 ≤ M 14 k ∧ M 14 k ≤ 1) ∧ (0 ≤ M 15 k ∧ M 15 k < 40)) ∧
  (∀ t, 0 ≤ t → t < 10 → (0 ≤ M 16 t ∧ M 16 t ≤ 4) ∧ (0 ≤ M 17 t ∧ M 17 t ≤ 3) ∧ (0 ≤ M 18 t ∧ M 18 t ≤ 1000000000) ∧ (0 ≤ M 19 t ∧ M 19 t ≤ 1000000000) ∧ (0 ≤ M 20 t ∧ M 20 t ≤ 5) ∧ (0 ≤ M 21 t ∧ M 21 t ≤ 1000000000)) ∧
  (∀ i, 0 ≤ i → i < 60 → 0 ≤ M 22 i ∧ M 22 i ≤ 1000000) ∧ (∀ y, 0 ≤ y → y < 4 → 0 ≤ M 5 y ∧ M 5 y ≤ 1)
theorem c_I.risk {M : rd_M} (h : c_I M) {r : Int} (h0 : 0 ≤ r) (h1 : r < 12) : (0 ≤ M 7 r ∧ M 7 r ≤ 1000000000) ∧ (0 ≤ M 8 r ∧ M 8 r ≤ 1000000000) ∧ (0 ≤ M 9 r ∧ M 9 r ≤ 3) := h.2.2.1 r h0 h1
theorem c_I.claim {M : rd_M} (h : c_I M) {k : Int} (h0 : 0 ≤ k) (h1 : k < 40) : (0 ≤ M 10 k ∧ M 10 k < 12) ∧ (0 ≤ M 11 k ∧ M 11 k ≤ 9) ∧ (0 ≤ M 12 k ∧ M 12 k ≤ 100000) ∧ (0 ≤ M 13 k ∧ M 13 k ≤ 1000000000) ∧ (0 ≤ M 14 k ∧ M 14 k ≤ 1) ∧ (0 ≤ M 15 k ∧ M 15 k < 40) := h.2.2.2.1 k h0 h1
theorem c_I.treaty {M : rd_M} (h : c_I M) {t : Int} (h0 : 0 ≤ t) (h1 : t < 10) : (0 ≤ M 16 t ∧ M 16 t ≤ 4) ∧ (0 ≤ M 17 t ∧ M 17 t ≤ 3) ∧ (0 ≤ M 18 t ∧ M 18 t ≤ 1000000000) ∧ (0 ≤ M 19 t ∧ M 19 t ≤ 1000000000) ∧ (0 ≤ M 20 t ∧ M 20 t ≤ 5) ∧ (0 ≤ M 21 t ∧ M 21 t ≤ 1000000000) := h.2.2.2.2.1 t h0 h1
theorem c_I.part {M : rd_M} (h : c_I M) {i : Int} (h0 : 0 ≤ i) (h1 : i < 60) : 0 ≤ M 22 i ∧ M 22 i ≤ 1000000 := h.2.2.2.2.2.1 i h0 h1
theorem c_I.closed {M : rd_M} (h : c_I M) {y : Int} (h0 : 0 ≤ y) (h1 : y < 4) : 0 ≤ M 5 y ∧ M 5 y ≤ 1 := h.2.2.2.2.2.2 y h0 h1
theorem c_I.lim {M : rd_M} (h : c_I M) {t : Int} (h0 : 0 ≤ t) (h1 : t < 10) : 0 ≤ M 19 t * (1 + M 20 t) ∧ M 19 t * (1 + M 20 t) ≤ 6000000000 := by
  obtain ⟨-, -, -, hb, hc, -⟩ := h.treaty h0 h1
  have := rd_mulb hb.1 hb.2 (show 0 ≤ 1 + M 20 t by omega) (show 1 + M 20 t ≤ 6 by omega)
  omega
