/-! pure: what a treaty leaves in bounds; a year's run -/
def sp_D (d : rd_M) : Prop := (∀ r : Int, 0 ≤ r → r < 12 → (0 ≤ d 0 r ∧ d 0 r ≤ 1000000000) ∧ (0 ≤ d 1 r ∧ d 1 r ≤ 1000000000) ∧ (0 ≤ d 2 r ∧ d 2 r ≤ 3)) ∧ (∀ k : Int, 0 ≤ k → k < 40 → (0 ≤ d 3 k ∧ d 3 k < 12) ∧ (0 ≤ d 4 k ∧ d 4 k ≤ 9) ∧ (0 ≤ d 5 k ∧ d 5 k ≤ 100000) ∧ (0 ≤ d 6 k ∧ d 6 k ≤ 1000000000) ∧ (0 ≤ d 7 k ∧ d 7 k ≤ 1)) ∧ (∀ t : Int, 0 ≤ t → t < 10 → sp_tm d t ∧ (0 ≤ d 9 t ∧ d 9 t ≤ 3))
theorem c_I.D {M : rd_M} (h : c_I M) (hC : c_Q M) : sp_D (c_d M) :=
  ⟨fun r a b => h.risk a b, fun k a b => by obtain ⟨x1, x2, x3, x4, x5, _⟩ := h.claim a b; exact ⟨x1, x2, x3, x4, x5⟩, fun t a b => ⟨h.tm hC a b, (h.treaty a b).2.1⟩⟩
/-- bounds of a year's rows -/
def sp_ok (n : Nat) (Z : rd_M) : Prop := (∀ k : Int, 0 ≤ k → k < n → 0 ≤ Z 0 k ∧ Z 0 k ≤ 1000000000) ∧ (∀ j : Int, 0 ≤ j → j < 400 → 0 ≤ Z 1 j ∧ Z 1 j ≤ 1000000000) ∧ (∀ s : Int, 0 ≤ s → s < 10 → (0 ≤ Z 2 s ∧ Z 2 s ≤ 40000000000) ∧ (0 ≤ Z 5 s ∧ Z 5 s ≤ 12000000000)) ∧ (∀ j : Int, 0 ≤ j → j < 100 → -1 ≤ Z 3 j ∧ Z 3 j ≤ 100000) ∧ (∀ r : Int, 0 ≤ r → r < 12 → 0 ≤ Z 4 r ∧ Z 4 r ≤ 1000000000)
/-- a treaty that has taken nothing yet -/
def sp_fh (n : Nat) (Z : rd_M) (t : Int) : Prop := Z 2 t = 0 ∧ Z 5 t = 0 ∧ (∀ k : Int, 0 ≤ k → k < n → Z 1 (t * 40 + k) = 0) ∧ (∀ e : Int, 1 ≤ e → e ≤ 9 → Z 3 (t * 10 + e) = -1)
theorem sp_pm_b {d : rd_M} {t r : Int} {l : Int → Int} (hD : sp_D d) (h0 : 0 ≤ t) (h1 : t < 10) (r0 : 0 ≤ r) (r1 : r < 12) (hl : 0 ≤ l r) : 0 ≤ sp_pm d t l r ∧ sp_pm d t l r ≤ l r := by
  unfold sp_pm
  obtain ⟨htm, _⟩ := hD.2.2 t h0 h1
  by_cases hc : 0 < d 0 r ∧ d 2 r = d 9 t
  · rw [if_pos hc]
    have hp := sp_part_b (k := d 8 t) htm.2.1 htm.2.2.1 (hD.1 r r0 r1).1 htm.2.2.2.2.2
    exact rd_part_b hl hp.1 hp.2
  · rw [if_neg hc]; omega
theorem sp_D.tk {d : rd_M} {n : Nat} {t k : Int} {κ : Int → Int} (hD : sp_D d) (hn : n ≤ 40) (h0 : 0 ≤ t) (h1 : t < 10) (hk : ∀ j : Int, 0 ≤ j → j < n → 0 ≤ κ j) (k0 : 0 ≤ k) (k1 : k < n) : 0 ≤ sp_tk d n t κ k ∧ sp_tk d n t κ k ≤ κ k :=
  sp_tk_b (hD.2.2 t h0 h1).1 (fun j a b => by have := (hD.2.1 j a (by omega)).1; exact (hD.1 _ this.1 this.2).1) hk k0 k1
theorem sp_ok.ap {d : rd_M} {n : Nat} {t : Int} {Z : rd_M} (h : sp_ok n Z) (hf : sp_fh n Z t) (hD : sp_D d) (hn : n ≤ 40) (h0 : 0 ≤ t) (h1 : t < 10) : sp_ok n (sp_ap d n t Z) := by
  obtain ⟨a1, a2, a3, a4, a5⟩ := h
  obtain ⟨f1, f2, f3, f4⟩ := hf
  have hk : ∀ j : Int, 0 ≤ j → j < n → 0 ≤ Z 0 j := fun j a b => (a1 j a b).1
  refine ⟨fun k k0 k1 => ?_, fun j j0 j1 => ?_, fun s s0 s1 => ⟨?_, ?_⟩, fun j j0 j1 => ?_, fun r r0 r1 => ?_⟩
  · have ht := hD.tk hn h0 h1 hk k0 k1
    have := a1 k k0 k1
    show 0 ≤ (if 0 ≤ k ∧ k < n then Z 0 k - sp_tk d n t (Z 0) k else Z 0 k) ∧ (if 0 ≤ k ∧ k < n then Z 0 k - sp_tk d n t (Z 0) k else Z 0 k) ≤ _
    rw [if_pos ⟨k0, k1⟩]; omega
  · show 0 ≤ (if t * 40 ≤ j ∧ j < t * 40 + n then Z 1 j + sp_tk d n t (Z 0) (j - t * 40) else Z 1 j) ∧ (if t * 40 ≤ j ∧ j < t * 40 + n then Z 1 j + sp_tk d n t (Z 0) (j - t * 40) else Z 1 j) ≤ _
    by_cases hj : t * 40 ≤ j ∧ j < t * 40 + n
    · have ht := hD.tk hn h0 h1 hk (k := j - t * 40) (by omega) (by omega)
      have hz := f3 (j - t * 40) (by omega) (by omega)
      rw [show t * 40 + (j - t * 40) = j by omega] at hz
      have := a1 (j - t * 40) (by omega) (by omega)
      rw [if_pos hj]; omega
    · rw [if_neg hj]; exact a2 j j0 j1
  · show 0 ≤ (if s = t then Z 2 s + rd_sm (sp_tk d n t (Z 0)) n else Z 2 s) ∧ (if s = t then Z 2 s + rd_sm (sp_tk d n t (Z 0)) n else Z 2 s) ≤ _
    by_cases hs : s = t
    · have hb := rd_sm_b (f := sp_tk d n t (Z 0)) (A := 0) (B := 1000000000) n (fun i a b => by have := hD.tk hn h0 h1 hk a b; have := a1 i a b; omega)
      rw [if_pos hs, hs, f1]; omega
    · rw [if_neg hs]; exact (a3 s s0 s1).1
  · show 0 ≤ (if d 8 t < 2 ∧ s = t then Z 5 s + rd_sm (sp_pm d t (Z 4)) 12 else Z 5 s) ∧ (if d 8 t < 2 ∧ s = t then Z 5 s + rd_sm (sp_pm d t (Z 4)) 12 else Z 5 s) ≤ _
    by_cases hs : d 8 t < 2 ∧ s = t
    · have hb := rd_sm_b (f := sp_pm d t (Z 4)) (A := 0) (B := 1000000000) 12 (fun i a b => by have := sp_pm_b (l := Z 4) hD h0 h1 a (by omega) (a5 i a (by omega)).1; have := a5 i a (by omega); omega)
      rw [if_pos hs, hs.2, f2]; omega
    · rw [if_neg hs]; exact (a3 s s0 s1).2
  · show -1 ≤ (if d 8 t = 3 ∧ t * 10 + 1 ≤ j ∧ j < t * 10 + 10 then sp_evO d n t (Z 0) (j - t * 10 - 1).toNat else Z 3 j) ∧ (if d 8 t = 3 ∧ t * 10 + 1 ≤ j ∧ j < t * 10 + 10 then sp_evO d n t (Z 0) (j - t * 10 - 1).toNat else Z 3 j) ≤ _
    by_cases hj : d 8 t = 3 ∧ t * 10 + 1 ≤ j ∧ j < t * 10 + 10
    · rw [if_pos hj]
      exact sp_st_b (fun k a b => (hD.2.1 k a b).2.2.1) n hn
    · rw [if_neg hj]; exact a4 j j0 j1
  · have hb := a5 r r0 r1
    have hp := sp_pm_b (l := Z 4) hD h0 h1 r0 r1 hb.1
    show 0 ≤ (if d 8 t < 2 ∧ 0 ≤ r ∧ r < 12 then Z 4 r - sp_pm d t (Z 4) r else Z 4 r) ∧ (if d 8 t < 2 ∧ 0 ≤ r ∧ r < 12 then Z 4 r - sp_pm d t (Z 4) r else Z 4 r) ≤ _
    by_cases hj : d 8 t < 2 ∧ 0 ≤ r ∧ r < 12
    · rw [if_pos hj]; omega
    · rw [if_neg hj]; omega
theorem sp_fh.ap {d : rd_M} {n : Nat} {s t : Int} {Z : rd_M} (h : sp_fh n Z s) (hn : n ≤ 40) (hst : s ≠ t) : sp_fh n (sp_ap d n t Z) s := by
  obtain ⟨f1, f2, f3, f4⟩ := h
  refine ⟨?_, ?_, fun k k0 k1 => ?_, fun e e0 e1 => ?_⟩
  · show (if s = t then _ else Z 2 s) = 0
    rw [if_neg hst]; exact f1
  · show (if d 8 t < 2 ∧ s = t then _ else Z 5 s) = 0
    rw [if_neg (fun z => hst z.2)]; exact f2
  · show (if t * 40 ≤ s * 40 + k ∧ s * 40 + k < t * 40 + n then _ else Z 1 (s * 40 + k)) = 0
    rw [if_neg (by omega)]; exact f3 k k0 k1
  · show (if d 8 t = 3 ∧ t * 10 + 1 ≤ s * 10 + e ∧ s * 10 + e < t * 10 + 10 then _ else Z 3 (s * 10 + e)) = -1
    rw [if_neg (by omega)]; exact f4 e e0 e1
/-- treaties of a kind and a year take, one behind the other -/
def sp_runT (d : rd_M) (n : Nat) (y kd : Int) (Z : rd_M) : Nat → rd_M
  | 0 => Z
  | t + 1 => if d 8 t = kd ∧ d 9 t = y then sp_ap d n t (sp_runT d n y kd Z t) else sp_runT d n y kd Z t
def sp_runK (d : rd_M) (n nt : Nat) (y : Int) (Z : rd_M) : Nat → rd_M
  | 0 => Z
  | k + 1 => sp_runT d n y k (sp_runK d n nt y Z k) nt
theorem sp_runT_s {d : rd_M} {n : Nat} {y kd t : Int} {Z : rd_M} (h : 0 ≤ t) : sp_runT d n y kd Z (t + 1).toNat = if d 8 t = kd ∧ d 9 t = y then sp_ap d n t (sp_runT d n y kd Z t.toNat) else sp_runT d n y kd Z t.toNat := by
  have e : (t + 1).toNat = t.toNat + 1 := by omega
  have f : ((t.toNat : Nat) : Int) = t := by omega
  rw [e]
  show (if d 8 ((t.toNat : Nat) : Int) = kd ∧ d 9 ((t.toNat : Nat) : Int) = y then sp_ap d n ((t.toNat : Nat) : Int) _ else _) = _
  rw [f]
theorem sp_runK_s {d : rd_M} {n nt : Nat} {y k : Int} {Z : rd_M} (h : 0 ≤ k) : sp_runK d n nt y Z (k + 1).toNat = sp_runT d n y k (sp_runK d n nt y Z k.toNat) nt := by
  have e : (k + 1).toNat = k.toNat + 1 := by omega
  have f : ((k.toNat : Nat) : Int) = k := by omega
  rw [e]
  show sp_runT d n y ((k.toNat : Nat) : Int) _ nt = _
  rw [f]
/-- treaties of kinds and numbers still to come have taken nothing -/
def sp_fr (d : rd_M) (n : Nat) (Z : rd_M) (kd t : Int) : Prop := ∀ s : Int, 0 ≤ s → s < 10 → (kd < d 8 s ∨ (d 8 s = kd ∧ t ≤ s)) → sp_fh n Z s
theorem sp_fr.ap {d : rd_M} {n : Nat} {kd t : Int} {Z : rd_M} (h : sp_fr d n Z kd t) (hn : n ≤ 40) (hk : d 8 t = kd) : sp_fr d n (sp_ap d n t Z) kd (t + 1) := fun s s0 s1 hs =>
  (h s s0 s1 (by omega)).ap hn (fun z => by subst z; omega)
theorem sp_fr.skip {d : rd_M} {n : Nat} {kd t : Int} {Z : rd_M} (h : sp_fr d n Z kd t) : sp_fr d n Z kd (t + 1) := fun s s0 s1 hs => h s s0 s1 (by omega)
theorem sp_fr.next {d : rd_M} {n : Nat} {kd t : Int} {Z : rd_M} (h : sp_fr d n Z kd t) : sp_fr d n Z (kd + 1) 0 := fun s s0 s1 hs => h s s0 s1 (by omega)
