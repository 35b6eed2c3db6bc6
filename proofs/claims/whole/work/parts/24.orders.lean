/-! pure: orders, ranks, and what is spread -/
theorem rd_sm_le {f g : Int → Int} : ∀ (n : Nat), (∀ i : Int, 0 ≤ i → i < n → f i ≤ g i) → rd_sm f n ≤ rd_sm g n
  | 0, _ => Int.le_refl _
  | n + 1, h => by
    have h1 := rd_sm_le n (fun i a b => h i a (by omega))
    have h2 := h n (by omega) (by omega)
    show rd_sm f n + f n ≤ rd_sm g n + g n
    omega
theorem rd_sm_p {f g : Int → Int} : ∀ (n : Nat), rd_sm (fun i => f i + g i) n = rd_sm f n + rd_sm g n
  | 0 => rfl
  | n + 1 => by
    show rd_sm _ n + (f n + g n) = rd_sm f n + f n + (rd_sm g n + g n)
    rw [rd_sm_p n]; omega
theorem rd_sm_m {f : Int → Int} {c : Int} : ∀ (n : Nat), rd_sm (fun i => c * f i) n = c * rd_sm f n
  | 0 => (Int.mul_zero c).symm
  | n + 1 => by
    show rd_sm _ n + c * f n = c * (rd_sm f n + f n)
    rw [rd_sm_m n, Int.mul_add]
theorem rd_sm_nn {f : Int → Int} (n : Nat) (h : ∀ i : Int, 0 ≤ i → i < n → 0 ≤ f i) : 0 ≤ rd_sm f n := by
  have h1 := rd_sm_le (f := fun _ => 0) n (g := f) h
  rw [rd_sm_z n (fun i a b => rfl)] at h1
  exact h1
theorem rd_sm_one {f : Int → Int} {n : Nat} {k : Int} (h : ∀ i : Int, 0 ≤ i → i < n → 0 ≤ f i) (h0 : 0 ≤ k) (h1 : k < n) : f k ≤ rd_sm f n := by
  have h2 := rd_sm_add (w := fun _ => 0) (k := k) (a := f k) n h0 h1
  rw [rd_sm_z n (fun i a b => rfl)] at h2
  have h3 := rd_sm_le (f := fun j => if j = k then 0 + f k else 0) (g := f) n (fun i a b => by
    by_cases hi : i = k
    · rw [if_pos hi, hi]; omega
    · rw [if_neg hi]; exact h i a b)
  omega
/-- j stands before k: a greater key, or the same key and a lower number -/
abbrev sp_bf (f : Int → Int) (j k : Int) : Prop := f k < f j ∨ (f j = f k ∧ j < k)
/-- how many of those that p tells stand before k -/
def sp_rk (n : Nat) (p f : Int → Int) (k : Int) : Int := rd_sm (fun j => if p j = 1 ∧ sp_bf f j k then 1 else 0) n
def sp_cn (n : Nat) (p : Int → Int) : Int := rd_sm (fun j => if p j = 1 then 1 else 0) n
theorem rd_01 {P : Prop} [Decidable P] : (0 : Int) ≤ (if P then 1 else 0) ∧ (if P then 1 else 0 : Int) ≤ 1 := by
  by_cases h : P
  · rw [if_pos h]; omega
  · rw [if_neg h]; omega
theorem sp_rk_nn {n : Nat} {p f : Int → Int} {k : Int} : 0 ≤ sp_rk n p f k := rd_sm_nn n (fun _ _ _ => rd_01.1)
theorem sp_rk_lt {n : Nat} {p f : Int → Int} {k j : Int} (h0 : 0 ≤ k) (h1 : k < n) (hp : p k = 1) (hb : sp_bf f k j) : sp_rk n p f k < sp_rk n p f j := by
  have h2 := rd_sm_add (w := fun i => if p i = 1 ∧ sp_bf f i k then 1 else 0) (k := k) (a := 1) n h0 h1
  have h3 := rd_sm_le (f := fun i => if i = k then (if p i = 1 ∧ sp_bf f i k then 1 else 0) + 1 else (if p i = 1 ∧ sp_bf f i k then 1 else 0)) (g := fun i => if p i = 1 ∧ sp_bf f i j then 1 else 0) n (fun i a b => by
    by_cases hi : i = k
    · subst hi
      rw [if_pos rfl, if_neg (by omega), if_pos ⟨hp, hb⟩]; omega
    · rw [if_neg hi]
      by_cases hq : p i = 1 ∧ sp_bf f i k
      · rw [if_pos hq, if_pos ⟨hq.1, by omega⟩]; omega
      · rw [if_neg hq]; exact rd_01.1)
  unfold sp_rk
  omega
theorem sp_least {f : Int → Int} {q : Int → Prop} : ∀ (n : Nat), (∃ k : Int, 0 ≤ k ∧ k < n ∧ q k) → ∃ k : Int, 0 ≤ k ∧ k < n ∧ q k ∧ ∀ j : Int, 0 ≤ j → j < n → q j → ¬ sp_bf f j k
  | 0, h => by obtain ⟨k, a, b, _⟩ := h; omega
  | n + 1, h => by
    by_cases hn : ∃ k : Int, 0 ≤ k ∧ k < n ∧ q k
    · obtain ⟨k, k0, k1, kq, km⟩ := sp_least (f := f) n hn
      by_cases hq : q n ∧ sp_bf f n k
      · refine ⟨n, by omega, by omega, hq.1, fun j a b c => ?_⟩
        by_cases hj : j = n
        · subst hj; omega
        · have := km j a (by omega) c
          have := hq.2
          omega
      · refine ⟨k, k0, by omega, kq, fun j a b c => ?_⟩
        by_cases hj : j = n
        · subst hj; exact fun hb => hq ⟨c, hb⟩
        · exact km j a (by omega) c
    · obtain ⟨k, k0, k1, kq⟩ := h
      have hk : k = n := by
        by_cases hk : k = n
        · exact hk
        · exact absurd ⟨k, k0, by omega, kq⟩ hn
      subst hk
      refine ⟨n, by omega, by omega, kq, fun j a b c => ?_⟩
      by_cases hj : j = n
      · subst hj; omega
      · exact absurd ⟨j, a, by omega, c⟩ hn
theorem sp_rk_eq {n : Nat} {p f : Int → Int} {k c : Int} (hs : rd_sm (fun j => if p j = 1 ∧ sp_rk n p f j < c then 1 else 0) n = c) (h0 : 0 ≤ k) (h1 : k < n) (hp : p k = 1) (hc : c ≤ sp_rk n p f k) (hm : ∀ j : Int, 0 ≤ j → j < n → p j = 1 → c ≤ sp_rk n p f j → ¬ sp_bf f j k) : sp_rk n p f k = c := by
  rw [← hs]
  show rd_sm _ n = _
  refine rd_sm_c n (fun j a b => ?_)
  by_cases hj : p j = 1
  · by_cases hb : sp_bf f j k
    · have hz : sp_rk n p f j < c := by
        by_cases hz : sp_rk n p f j < c
        · exact hz
        · exact absurd hb (hm j a b hj (by omega))
      rw [if_pos ⟨hj, hb⟩, if_pos ⟨hj, hz⟩]
    · rw [if_neg (fun z => hb z.2), if_neg (fun z => ?_)]
      by_cases hk : j = k
      · subst hk; omega
      · have := sp_rk_lt (n := n) (j := j) (f := f) h0 h1 hp (by omega)
        omega
  · rw [if_neg (fun z => hj z.1), if_neg (fun z => hj z.1)]
theorem sp_rk_c {n : Nat} {p f : Int → Int} : ∀ (c : Nat), (c : Int) ≤ sp_cn n p → rd_sm (fun j => if p j = 1 ∧ sp_rk n p f j < c then 1 else 0) n = c
  | 0, _ => rd_sm_z n (fun i a b => if_neg (fun z => by have := sp_rk_nn (n := n) (p := p) (f := f) (k := i); omega))
  | c + 1, h => by
    have ih := sp_rk_c (n := n) (p := p) (f := f) c (by omega)
    have he : ∃ k : Int, 0 ≤ k ∧ k < n ∧ (p k = 1 ∧ (c : Int) ≤ sp_rk n p f k) := by
      refine Classical.byContradiction (fun hne => ?_)
      have : sp_cn n p = c := by
        rw [← ih]
        refine rd_sm_c n (fun j a b => ?_)
        by_cases hj : p j = 1
        · have hz : sp_rk n p f j < c := by
            by_cases hz : sp_rk n p f j < c
            · exact hz
            · exact absurd ⟨j, a, b, hj, by omega⟩ hne
          rw [if_pos hj, if_pos ⟨hj, hz⟩]
        · rw [if_neg hj, if_neg (fun z => hj z.1)]
      omega
    obtain ⟨k, k0, k1, ⟨kp, kc⟩, km⟩ := sp_least (f := f) n he
    have hk := sp_rk_eq ih k0 k1 kp kc (fun j a b hj hc => km j a b ⟨hj, hc⟩)
    have ha := rd_sm_add (w := fun j => if p j = 1 ∧ sp_rk n p f j < c then 1 else 0) (k := k) (a := 1) n k0 k1
    rw [ih] at ha
    rw [show ((c + 1 : Nat) : Int) = (c : Int) + 1 by omega, ← ha]
    refine rd_sm_c n (fun j a b => ?_)
    by_cases hj : j = k
    · subst hj
      rw [if_pos ⟨kp, by omega⟩, if_pos rfl, if_neg (by omega)]; rfl
    · rw [if_neg hj]
      by_cases hp : p j = 1
      · by_cases hz : sp_rk n p f j < c
        · rw [if_pos ⟨hp, by omega⟩, if_pos ⟨hp, hz⟩]
        · have : sp_rk n p f j ≠ c := by
            intro hh
            by_cases hb : sp_bf f j k
            · have := sp_rk_lt (n := n) (f := f) a b hp hb; omega
            · have := sp_rk_lt (n := n) (j := j) (f := f) k0 k1 kp (by omega); omega
          rw [if_neg (by omega), if_neg (by omega)]
      · rw [if_neg (fun z => hp z.1), if_neg (fun z => hp z.1)]
/-- the next one that gets a cent is the one whose rank is c -/
theorem sp_rk_next {n : Nat} {p f : Int → Int} {k c : Int} (hc0 : 0 ≤ c) (hc1 : c ≤ sp_cn n p) (h0 : 0 ≤ k) (h1 : k < n) (hp : p k = 1) (hc : c ≤ sp_rk n p f k) (hm : ∀ j : Int, 0 ≤ j → j < n → p j = 1 → c ≤ sp_rk n p f j → ¬ sp_bf f j k) : sp_rk n p f k = c := by
  refine sp_rk_eq ?_ h0 h1 hp hc hm
  have h := sp_rk_c (n := n) (p := p) (f := f) c.toNat (by omega)
  rw [show ((c.toNat : Nat) : Int) = c by omega] at h
  exact h
theorem sp_rk_ex {n : Nat} {p f : Int → Int} {c : Int} (hc0 : 0 ≤ c) (hc1 : c < sp_cn n p) : ∃ k : Int, 0 ≤ k ∧ k < n ∧ p k = 1 ∧ c ≤ sp_rk n p f k := by
  refine Classical.byContradiction (fun hne => ?_)
  have ih := sp_rk_c (n := n) (p := p) (f := f) c.toNat (by omega)
  rw [show ((c.toNat : Nat) : Int) = c by omega] at ih
  have : sp_cn n p = c := by
    rw [← ih]
    refine rd_sm_c n (fun j a b => ?_)
    by_cases hj : p j = 1
    · have hz : sp_rk n p f j < c := by
        by_cases hz : sp_rk n p f j < c
        · exact hz
        · exact absurd ⟨j, a, b, hj, by omega⟩ hne
      rw [if_pos hj, if_pos ⟨hj, hz⟩]
    · rw [if_neg hj, if_neg (fun z => hj z.1)]
  omega
theorem sp_rk_inj {n : Nat} {p f : Int → Int} {j k : Int} (j0 : 0 ≤ j) (j1 : j < n) (k0 : 0 ≤ k) (k1 : k < n) (pj : p j = 1) (pk : p k = 1) (h : sp_rk n p f j = sp_rk n p f k) : j = k := by
  by_cases hjk : j = k
  · exact hjk
  · by_cases hb : sp_bf f j k
    · have := sp_rk_lt (n := n) (f := f) j0 j1 pj hb; omega
    · have := sp_rk_lt (n := n) (j := j) (f := f) k0 k1 pk (by omega); omega
/-- the sum over those that p tells -/
def sp_sum (n : Nat) (p κ : Int → Int) : Int := rd_sm (fun k => if p k = 1 then κ k else 0) n
def sp_q (κ : Int → Int) (v all k : Int) : Int := (κ k * v).tdiv all
def sp_r (κ : Int → Int) (v all k : Int) : Int := (κ k * v).tmod all
def sp_ov (n : Nat) (p κ : Int → Int) (v all : Int) : Int := v - sp_sum n p (sp_q κ v all)
/-- v, spread over those that p tells by what is kept of them -/
def sp_spr (n : Nat) (p κ : Int → Int) (v all k : Int) : Int :=
  if all ≤ 0 then 0 else if p k = 1 then sp_q κ v all k + (if sp_rk n p (sp_r κ v all) k < sp_ov n p κ v all then 1 else 0) else 0
theorem sp_qr {κ : Int → Int} {v all k : Int} (hk : 0 ≤ κ k) (hv : 0 ≤ v) (hva : v ≤ all) (ha : 0 < all) : κ k * v = all * sp_q κ v all k + sp_r κ v all k ∧ 0 ≤ sp_r κ v all k ∧ sp_r κ v all k < all ∧ 0 ≤ sp_q κ v all k ∧ sp_q κ v all k ≤ κ k ∧ (0 < sp_r κ v all k → sp_q κ v all k < κ k) := by
  have hm := Int.mul_nonneg hk hv
  have e := Int.mul_tdiv_add_tmod (κ k * v) all
  have r0 : 0 ≤ (κ k * v).tmod all := Int.tmod_nonneg _ hm
  have r1 : (κ k * v).tmod all < all := Int.tmod_lt_of_pos _ ha
  have q0 : 0 ≤ (κ k * v).tdiv all := (rd_tdivb hm ha).1
  have hle : κ k * v ≤ κ k * all := Int.mul_le_mul_of_nonneg_left hva hk
  have hq : ∀ z, κ k + z ≤ (κ k * v).tdiv all → all * (κ k + z) ≤ all * (κ k * v).tdiv all := fun z hz => Int.mul_le_mul_of_nonneg_left hz (by omega)
  have hcm : κ k * all = all * κ k := Int.mul_comm _ _
  refine ⟨e.symm, r0, r1, q0, ?_, fun hr => ?_⟩
  · show (κ k * v).tdiv all ≤ κ k
    by_cases hz : κ k + 1 ≤ (κ k * v).tdiv all
    · have := hq 1 hz
      rw [Int.mul_add] at this
      omega
    · omega
  · show (κ k * v).tdiv all < κ k
    have hr' : 0 < (κ k * v).tmod all := hr
    by_cases hz : κ k + 0 ≤ (κ k * v).tdiv all
    · have := hq 0 hz
      rw [Int.mul_add] at this
      omega
    · omega
theorem sp_sum_c {n : Nat} {p κ κ' : Int → Int} (h : ∀ k : Int, 0 ≤ k → k < n → p k = 1 → κ k = κ' k) : sp_sum n p κ = sp_sum n p κ' := by
  refine rd_sm_c n (fun k a b => ?_)
  by_cases hp : p k = 1
  · rw [if_pos hp, if_pos hp, h k a b hp]
  · rw [if_neg hp, if_neg hp]
theorem sp_sum_p {n : Nat} {p f g : Int → Int} : sp_sum n p (fun k => f k + g k) = sp_sum n p f + sp_sum n p g := by
  unfold sp_sum
  rw [← rd_sm_p]
  refine rd_sm_c n (fun k a b => ?_)
  by_cases hp : p k = 1
  · rw [if_pos hp, if_pos hp, if_pos hp]
  · rw [if_neg hp, if_neg hp, if_neg hp]; rfl
theorem sp_sum_m {n : Nat} {p f : Int → Int} {c : Int} : sp_sum n p (fun k => c * f k) = c * sp_sum n p f := by
  unfold sp_sum
  rw [← rd_sm_m]
  refine rd_sm_c n (fun k a b => ?_)
  by_cases hp : p k = 1
  · rw [if_pos hp, if_pos hp]
  · rw [if_neg hp, if_neg hp, Int.mul_zero]
/-- what rounding leaves is no more than there are remainders -/
theorem sp_ov_b {n : Nat} {p κ : Int → Int} {v : Int} (hk : ∀ k : Int, 0 ≤ k → k < n → p k = 1 → 0 ≤ κ k) (hv : 0 ≤ v) (hva : v ≤ sp_sum n p κ) (ha : 0 < sp_sum n p κ) : 0 ≤ sp_ov n p κ v (sp_sum n p κ) ∧ sp_ov n p κ v (sp_sum n p κ) ≤ rd_sm (fun k => if p k = 1 ∧ 0 < sp_r κ v (sp_sum n p κ) k then 1 else 0) n := by
  generalize hall : sp_sum n p κ = all at *
  have h1 : sp_sum n p (fun k => v * κ k) = v * all := by rw [sp_sum_m, hall]
  have h2 : sp_sum n p (fun k => v * κ k) = all * sp_sum n p (sp_q κ v all) + sp_sum n p (sp_r κ v all) := by
    rw [← sp_sum_m, ← sp_sum_p]
    refine sp_sum_c (fun k a b hp => ?_)
    rw [Int.mul_comm]
    exact (sp_qr (hk k a b hp) hv hva ha).1
  have h3 : all * sp_ov n p κ v all = sp_sum n p (sp_r κ v all) := by
    unfold sp_ov
    rw [Int.mul_sub, Int.mul_comm all v]
    omega
  have h4 : 0 ≤ sp_sum n p (sp_r κ v all) := rd_sm_nn n (fun k a b => by
    by_cases hp : p k = 1
    · rw [if_pos hp]; exact (sp_qr (hk k a b hp) hv hva ha).2.1
    · rw [if_neg hp]; exact Int.le_refl _)
  have h5 : sp_sum n p (sp_r κ v all) ≤ all * rd_sm (fun k => if p k = 1 ∧ 0 < sp_r κ v all k then 1 else 0) n := by
    rw [← rd_sm_m]
    refine rd_sm_le n (fun k a b => ?_)
    by_cases hp : p k = 1
    · obtain ⟨_, r0, r1, _⟩ := sp_qr (hk k a b hp) hv hva ha
      by_cases hr : 0 < sp_r κ v all k
      · rw [if_pos hp, if_pos ⟨hp, hr⟩]; omega
      · rw [if_pos hp, if_neg (fun z => hr z.2)]; omega
    · rw [if_neg hp, if_neg (fun z => hp z.1)]; omega
  rw [← h3] at h4 h5
  exact ⟨Int.nonneg_of_mul_nonneg_right h4 ha, Int.le_of_mul_le_mul_left h5 ha⟩
theorem sp_ov_cn {n : Nat} {p κ : Int → Int} {v : Int} (hk : ∀ k : Int, 0 ≤ k → k < n → p k = 1 → 0 ≤ κ k) (hv : 0 ≤ v) (hva : v ≤ sp_sum n p κ) (ha : 0 < sp_sum n p κ) : 0 ≤ sp_ov n p κ v (sp_sum n p κ) ∧ sp_ov n p κ v (sp_sum n p κ) ≤ sp_cn n p := by
  have h := sp_ov_b hk hv hva ha
  have h1 : rd_sm (fun k => if p k = 1 ∧ 0 < sp_r κ v (sp_sum n p κ) k then 1 else 0) n ≤ sp_cn n p := rd_sm_le n (fun k a b => by
    by_cases hp : p k = 1
    · rw [if_pos hp]; exact rd_01.2
    · rw [if_neg hp, if_neg (fun z => hp z.1)]; omega)
  exact ⟨h.1, Int.le_trans h.2 h1⟩
/-- each gives from none to all that is kept of it -/
theorem sp_spr_b {n : Nat} {p κ : Int → Int} {v k : Int} (hk : ∀ k : Int, 0 ≤ k → k < n → p k = 1 → 0 ≤ κ k) (hv : 0 ≤ v) (hva : v ≤ sp_sum n p κ) (k0 : 0 ≤ k) (k1 : k < n) (kk : 0 ≤ κ k) : 0 ≤ sp_spr n p κ v (sp_sum n p κ) k ∧ sp_spr n p κ v (sp_sum n p κ) k ≤ κ k := by
  unfold sp_spr
  by_cases ha : sp_sum n p κ ≤ 0
  · rw [if_pos ha]; omega
  · rw [if_neg ha]
    by_cases hp : p k = 1
    · rw [if_pos hp]
      obtain ⟨_, r0, r1, q0, q1, q2⟩ := sp_qr kk hv hva (by omega)
      by_cases hr : 0 < sp_r κ v (sp_sum n p κ) k
      · have := q2 hr
        have := rd_01 (P := sp_rk n p (sp_r κ v (sp_sum n p κ)) k < sp_ov n p κ v (sp_sum n p κ))
        omega
      · rw [if_neg]
        · omega
        · have h1 := (sp_ov_b hk hv hva (by omega)).2
          have h2 : rd_sm (fun j => if p j = 1 ∧ 0 < sp_r κ v (sp_sum n p κ) j then 1 else 0) n ≤ sp_rk n p (sp_r κ v (sp_sum n p κ)) k := rd_sm_le n (fun j a b => by
            by_cases hj : p j = 1 ∧ 0 < sp_r κ v (sp_sum n p κ) j
            · rw [if_pos hj, if_pos ⟨hj.1, by omega⟩]; omega
            · rw [if_neg hj]; exact rd_01.1)
          omega
    · rw [if_neg hp]; omega
/-- all of v is given -/
theorem sp_spr_s {n : Nat} {p κ : Int → Int} {v : Int} (hk : ∀ k : Int, 0 ≤ k → k < n → p k = 1 → 0 ≤ κ k) (hv : 0 ≤ v) (hva : v ≤ sp_sum n p κ) : rd_sm (sp_spr n p κ v (sp_sum n p κ)) n = v := by
  by_cases ha : sp_sum n p κ ≤ 0
  · rw [rd_sm_z (w := sp_spr n p κ v (sp_sum n p κ)) n (fun i a b => if_pos ha)]; omega
  · have ho := sp_ov_cn hk hv hva (by omega)
    have hc := sp_rk_c (n := n) (p := p) (f := sp_r κ v (sp_sum n p κ)) (sp_ov n p κ v (sp_sum n p κ)).toNat (by omega)
    rw [show (((sp_ov n p κ v (sp_sum n p κ)).toNat : Nat) : Int) = sp_ov n p κ v (sp_sum n p κ) by omega] at hc
    have h1 : rd_sm (sp_spr n p κ v (sp_sum n p κ)) n = sp_sum n p (sp_q κ v (sp_sum n p κ)) + sp_ov n p κ v (sp_sum n p κ) := by
      refine Eq.trans ?_ (congrArg (fun z => sp_sum n p (sp_q κ v (sp_sum n p κ)) + z) hc)
      show _ = rd_sm _ n + rd_sm _ n
      rw [← rd_sm_p]
      refine rd_sm_c n (fun j a b => ?_)
      unfold sp_spr
      rw [if_neg ha]
      by_cases hp : p j = 1
      · rw [if_pos hp, if_pos hp]
        by_cases hr : sp_rk n p (sp_r κ v (sp_sum n p κ)) j < sp_ov n p κ v (sp_sum n p κ)
        · rw [if_pos hr, if_pos ⟨hp, hr⟩]
        · rw [if_neg hr, if_neg (fun z => hr z.2)]
      · rw [if_neg hp, if_neg hp, if_neg (fun z => hp z.1)]; rfl
    rw [h1]; unfold sp_ov; omega
