/-! pure: a year alone and all years together agree -/
/-- the data with other estimates -/
def sp_d6 (d : rd_M) (f : Int → Int) : rd_M := fun q => if q = 6 then f else d q
theorem sp_st_6 {d : rd_M} {f : Int → Int} {n : Nat} {y e : Int} {κ : Int → Int} : ∀ i : Nat, sp_st (sp_d6 d f) n y e κ i = sp_st d n y e κ i
  | 0 => rfl
  | i + 1 => by
    rw [sp_st_s, sp_st_s, sp_st_6 i]
    rfl
theorem sp_ev_6 {d : rd_M} {f : Int → Int} {n : Nat} {t : Int} {κ : Int → Int} : ∀ e : Nat, sp_ev (sp_d6 d f) n t κ e = sp_ev d n t κ e
  | 0 => rfl
  | e + 1 => by
    have ih := sp_ev_6 (d := d) (f := f) (n := n) (t := t) (κ := κ) e
    have hK : sp_evK (sp_d6 d f) n t κ e = sp_evK d n t κ e := by funext k; unfold sp_evK; rw [ih]
    have hO : sp_evO (sp_d6 d f) n t κ e = sp_evO d n t κ e := by
      unfold sp_evO; rw [hK]; exact sp_st_6 n
    have hA : sp_evA (sp_d6 d f) n t κ e = sp_evA d n t κ e := by
      unfold sp_evA; rw [hK, hO]; rfl
    have hV : sp_evV (sp_d6 d f) n t κ e = sp_evV d n t κ e := by
      unfold sp_evV; rw [hA, ih]; rfl
    by_cases ho : sp_evO d n t κ e < 0
    · rw [sp_ev_n ho, sp_ev_n (by rw [hO]; exact ho), ih]
    · rw [sp_ev_p ho, sp_ev_p (by rw [hO]; exact ho), ih, hV, hA, hO, hK]
      rfl
theorem sp_ap_6 {d : rd_M} {f : Int → Int} {n : Nat} {t : Int} {Z : rd_M} : sp_ap (sp_d6 d f) n t Z = sp_ap d n t Z := by
  have htk : sp_tk (sp_d6 d f) n t (Z 0) = sp_tk d n t (Z 0) := by
    unfold sp_tk
    have hE : sp_tkE (sp_d6 d f) n t (Z 0) = sp_tkE d n t (Z 0) := by funext k; unfold sp_tkE; rw [sp_ev_6]
    rw [hE]
    rfl
  have hO : ∀ e, sp_evO (sp_d6 d f) n t (Z 0) e = sp_evO d n t (Z 0) e := fun e => by
    have hK : sp_evK (sp_d6 d f) n t (Z 0) e = sp_evK d n t (Z 0) e := by funext k; unfold sp_evK; rw [sp_ev_6]
    unfold sp_evO; rw [hK]; exact sp_st_6 n
  funext q j
  unfold sp_ap
  split
  · rw [htk]
  · rw [htk]
  · rw [htk]
  · simp only [hO]; rfl
  · rfl
  · rfl
/-- treaties of a kind take, of whatever year -/
def r_runT (d : rd_M) (n : Nat) (kd : Int) (Z : rd_M) : Nat → rd_M
  | 0 => Z
  | t + 1 => if d 8 t = kd then sp_ap d n t (r_runT d n kd Z t) else r_runT d n kd Z t
def r_runK (d : rd_M) (n nt : Nat) (Z : rd_M) : Nat → rd_M
  | 0 => Z
  | k + 1 => r_runT d n k (r_runK d n nt Z k) nt
def sp_ag (d : rd_M) (n : Nat) (y : Int) (A B : rd_M) : Prop := (∀ k : Int, 0 ≤ k → k < n → d 2 (d 3 k) = y → A 0 k = B 0 k) ∧ (∀ t k : Int, 0 ≤ t → t < 10 → 0 ≤ k → k < n → d 2 (d 3 k) = y → A 1 (t * 40 + k) = B 1 (t * 40 + k)) ∧ (∀ t : Int, 0 ≤ t → t < 10 → d 9 t = y → A 2 t = B 2 t ∧ A 5 t = B 5 t ∧ ∀ e : Int, 1 ≤ e → e ≤ 9 → A 3 (t * 10 + e) = B 3 (t * 10 + e)) ∧ (∀ r : Int, 0 ≤ r → r < 12 → d 2 r = y → A 4 r = B 4 r)
theorem sp_ag.same {d : rd_M} {n : Nat} {y t : Int} {A B : rd_M} (h : sp_ag d n y A B) (hn : n ≤ 40) (hy : d 9 t = y) : sp_ag d n y (sp_ap d n t A) (sp_ap d n t B) := by
  obtain ⟨a1, a2, a3, a4⟩ := h
  have hw : ∀ k : Int, 0 ≤ k → k < n → sp_tk d n t (A 0) k = sp_tk d n t (B 0) k := fun k k0 k1 => sp_tk_cg (fun j b c e => a1 j b c (e.2.trans hy)) k0 k1
  have hu : ∀ r : Int, 0 ≤ r → r < 12 → sp_pm d t (A 4) r = sp_pm d t (B 4) r := fun r r0 r1 => by
    unfold sp_pm
    by_cases hc : 0 < d 0 r ∧ d 2 r = d 9 t
    · rw [if_pos hc, if_pos hc, a4 r r0 r1 (hc.2.trans hy)]
    · rw [if_neg hc, if_neg hc]
  refine ⟨fun k k0 k1 ky => ?_, fun s k s0 s1 k0 k1 ky => ?_, fun s s0 s1 sy => ⟨?_, ?_, fun e e0 e1 => ?_⟩, fun r r0 r1 ry => ?_⟩
  · show (if 0 ≤ k ∧ k < n then A 0 k - sp_tk d n t (A 0) k else A 0 k) = (if 0 ≤ k ∧ k < n then B 0 k - sp_tk d n t (B 0) k else B 0 k)
    rw [if_pos ⟨k0, k1⟩, if_pos ⟨k0, k1⟩, hw k k0 k1, a1 k k0 k1 ky]
  · show (if t * 40 ≤ s * 40 + k ∧ s * 40 + k < t * 40 + n then A 1 (s * 40 + k) + sp_tk d n t (A 0) (s * 40 + k - t * 40) else A 1 (s * 40 + k)) = (if t * 40 ≤ s * 40 + k ∧ s * 40 + k < t * 40 + n then B 1 (s * 40 + k) + sp_tk d n t (B 0) (s * 40 + k - t * 40) else B 1 (s * 40 + k))
    rw [a2 s k s0 s1 k0 k1 ky]
    by_cases hc : t * 40 ≤ s * 40 + k ∧ s * 40 + k < t * 40 + n
    · rw [if_pos hc, if_pos hc, hw _ (by omega) (by omega)]
    · rw [if_neg hc, if_neg hc]
  · show (if s = t then A 2 s + rd_sm (sp_tk d n t (A 0)) n else A 2 s) = (if s = t then B 2 s + rd_sm (sp_tk d n t (B 0)) n else B 2 s)
    rw [(a3 s s0 s1 sy).1, rd_sm_c n hw]
  · show (if d 8 t < 2 ∧ s = t then A 5 s + rd_sm (sp_pm d t (A 4)) 12 else A 5 s) = (if d 8 t < 2 ∧ s = t then B 5 s + rd_sm (sp_pm d t (B 4)) 12 else B 5 s)
    rw [(a3 s s0 s1 sy).2.1, rd_sm_c 12 (fun i a b => hu i a (by omega))]
  · show (if d 8 t = 3 ∧ t * 10 + 1 ≤ s * 10 + e ∧ s * 10 + e < t * 10 + 10 then sp_evO d n t (A 0) (s * 10 + e - t * 10 - 1).toNat else A 3 (s * 10 + e)) = (if d 8 t = 3 ∧ t * 10 + 1 ≤ s * 10 + e ∧ s * 10 + e < t * 10 + 10 then sp_evO d n t (B 0) (s * 10 + e - t * 10 - 1).toNat else B 3 (s * 10 + e))
    rw [(a3 s s0 s1 sy).2.2 e e0 e1, sp_evO_cg (fun j b c e => a1 j b c (e.2.trans hy))]
  · show (if d 8 t < 2 ∧ 0 ≤ r ∧ r < 12 then A 4 r - sp_pm d t (A 4) r else A 4 r) = (if d 8 t < 2 ∧ 0 ≤ r ∧ r < 12 then B 4 r - sp_pm d t (B 4) r else B 4 r)
    rw [hu r r0 r1, a4 r r0 r1 ry]
theorem sp_ag.other {d : rd_M} {n : Nat} {y t : Int} {A B : rd_M} (h : sp_ag d n y A B) (hn : n ≤ 40) (hy : d 9 t ≠ y) : sp_ag d n y (sp_ap d n t A) B := by
  obtain ⟨a1, a2, a3, a4⟩ := h
  have hw : ∀ k : Int, d 2 (d 3 k) = y → sp_tk d n t (A 0) k = 0 := fun k ky => sp_tk_out (fun z => hy (z.2.symm.trans ky))
  refine ⟨fun k k0 k1 ky => ?_, fun s k s0 s1 k0 k1 ky => ?_, fun s s0 s1 sy => ⟨?_, ?_, fun e e0 e1 => ?_⟩, fun r r0 r1 ry => ?_⟩
  · show (if 0 ≤ k ∧ k < n then A 0 k - sp_tk d n t (A 0) k else A 0 k) = _
    rw [if_pos ⟨k0, k1⟩, hw k ky, a1 k k0 k1 ky]; omega
  · show (if t * 40 ≤ s * 40 + k ∧ s * 40 + k < t * 40 + n then A 1 (s * 40 + k) + sp_tk d n t (A 0) (s * 40 + k - t * 40) else A 1 (s * 40 + k)) = _
    rw [a2 s k s0 s1 k0 k1 ky]
    by_cases hc : t * 40 ≤ s * 40 + k ∧ s * 40 + k < t * 40 + n
    · have hst : s = t := by omega
      rw [if_pos hc, show s * 40 + k - t * 40 = k by omega, hw k ky]; omega
    · rw [if_neg hc]
  · show (if s = t then A 2 s + rd_sm (sp_tk d n t (A 0)) n else A 2 s) = _
    rw [if_neg (fun z => hy (by rw [← z]; exact sy))]; exact (a3 s s0 s1 sy).1
  · show (if d 8 t < 2 ∧ s = t then A 5 s + rd_sm (sp_pm d t (A 4)) 12 else A 5 s) = _
    rw [if_neg (fun z => hy (by rw [← z.2]; exact sy))]; exact (a3 s s0 s1 sy).2.1
  · have hst : s ≠ t := fun z => hy (by rw [← z]; exact sy)
    show (if d 8 t = 3 ∧ t * 10 + 1 ≤ s * 10 + e ∧ s * 10 + e < t * 10 + 10 then _ else A 3 (s * 10 + e)) = _
    rw [if_neg (by omega)]; exact (a3 s s0 s1 sy).2.2 e e0 e1
  · have hp : sp_pm d t (A 4) r = 0 := if_neg (fun z => hy (z.2.symm.trans ry))
    show (if d 8 t < 2 ∧ 0 ≤ r ∧ r < 12 then A 4 r - sp_pm d t (A 4) r else A 4 r) = _
    rw [hp, a4 r r0 r1 ry]
    split <;> omega
theorem sp_ag.runT {d : rd_M} {n : Nat} {y kd : Int} {A B : rd_M} (h : sp_ag d n y A B) (hn : n ≤ 40) : ∀ t : Nat, sp_ag d n y (r_runT d n kd A t) (sp_runT d n y kd B t)
  | 0 => h
  | t + 1 => by
    have ih := h.runT (kd := kd) hn t
    show sp_ag d n y (if d 8 t = kd then _ else _) (if d 8 t = kd ∧ d 9 t = y then _ else _)
    by_cases hk : d 8 t = kd
    · by_cases hy : d 9 t = y
      · rw [if_pos hk, if_pos ⟨hk, hy⟩]; exact ih.same hn hy
      · rw [if_pos hk, if_neg (fun z => hy z.2)]; exact ih.other hn hy
    · rw [if_neg hk, if_neg (fun z => hk z.1)]; exact ih
theorem sp_ag.runK {d : rd_M} {n nt : Nat} {y : Int} {A B : rd_M} (h : sp_ag d n y A B) (hn : n ≤ 40) : ∀ k : Nat, sp_ag d n y (r_runK d n nt A k) (sp_runK d n nt y B k)
  | 0 => h
  | k + 1 => (h.runK hn k).runT hn nt
/-- all years' rows as they begin -/
def r_Z0 (d : rd_M) (n : Nat) (c e : Int) (Z : rd_M) : Prop := (∀ k : Int, 0 ≤ k → k < n → Z 0 k = if d 7 k = 0 then (if k = c then e else d 6 k) else 0) ∧ (∀ j : Int, 0 ≤ j → j < 400 → Z 1 j = 0) ∧ (∀ t : Int, 0 ≤ t → t < 10 → Z 2 t = 0 ∧ Z 5 t = 0) ∧ (∀ j : Int, 0 ≤ j → j < 100 → Z 3 j = -1) ∧ (∀ r : Int, 0 ≤ r → r < 12 → Z 4 r = d 1 r)
theorem sp_ag_0 {d : rd_M} {n : Nat} {y c e : Int} {A B : rd_M} (hA : r_Z0 d n c e A) (hB : sp_Z0 d n y c e B) (hn : n ≤ 40) : sp_ag d n y A B := by
  obtain ⟨a1, a2, a3, a4, a5⟩ := hA
  obtain ⟨b1, b2, b3, b4, b5⟩ := hB
  refine ⟨fun k k0 k1 ky => ?_, fun s k s0 s1 k0 k1 ky => ?_, fun s s0 s1 sy => ⟨?_, ?_, fun e e0 e1 => ?_⟩, fun r r0 r1 ry => ?_⟩
  · rw [a1 k k0 k1, b1 k k0 k1]
    by_cases h7 : d 7 k = 0
    · rw [if_pos h7, if_pos (show sp_cnt d y k from ⟨h7, ky⟩)]
    · rw [if_neg h7, if_neg (show ¬ sp_cnt d y k from fun z => h7 z.1)]
  · rw [a2 _ (by omega) (by omega), b2 _ (by omega) (by omega)]
  · rw [(a3 s s0 s1).1, (b3 s s0 s1).1]
  · rw [(a3 s s0 s1).2, (b3 s s0 s1).2]
  · rw [a4 _ (by omega) (by omega), b4 _ (by omega) (by omega)]
  · rw [a5 r r0 r1, b5 r r0 r1, if_pos ry]
/-- the year's rows agree with all years' rows behind their runs -/
theorem sp_run_ag {d : rd_M} {n nt : Nat} {y c e : Int} {A B : rd_M} (hA : r_Z0 d n c e A) (hB : sp_Z0 d n y c e B) (hn : n ≤ 40) : sp_ag d n y (r_runK d n nt A 5) (sp_runK d n nt y B 5) := (sp_ag_0 hA hB hn).runK hn 5
theorem sp_runT_s' {d : rd_M} {n : Nat} {kd t : Int} {Z : rd_M} (h : 0 ≤ t) : r_runT d n kd Z (t + 1).toNat = if d 8 t = kd then sp_ap d n t (r_runT d n kd Z t.toNat) else r_runT d n kd Z t.toNat := by
  have e : (t + 1).toNat = t.toNat + 1 := by omega
  have f : ((t.toNat : Nat) : Int) = t := by omega
  rw [e]
  show (if d 8 ((t.toNat : Nat) : Int) = kd then sp_ap d n ((t.toNat : Nat) : Int) _ else _) = _
  rw [f]
theorem r_runK_s {d : rd_M} {n nt : Nat} {k : Int} {Z : rd_M} (h : 0 ≤ k) : r_runK d n nt Z (k + 1).toNat = r_runT d n k (r_runK d n nt Z k.toNat) nt := by
  have e : (k + 1).toNat = k.toNat + 1 := by omega
  have f : ((k.toNat : Nat) : Int) = k := by omega
  rw [e]
  show r_runT d n ((k.toNat : Nat) : Int) _ nt = _
  rw [f]
theorem r_runT_6 {d : rd_M} {f : Int → Int} {n : Nat} {kd : Int} {Z : rd_M} : ∀ t : Nat, r_runT (sp_d6 d f) n kd Z t = r_runT d n kd Z t
  | 0 => rfl
  | t + 1 => by
    show (if sp_d6 d f 8 t = kd then sp_ap (sp_d6 d f) n t (r_runT (sp_d6 d f) n kd Z t) else r_runT (sp_d6 d f) n kd Z t) = (if d 8 t = kd then sp_ap d n t (r_runT d n kd Z t) else r_runT d n kd Z t)
    rw [r_runT_6 t, sp_ap_6]
    rfl
theorem r_runK_6 {d : rd_M} {f : Int → Int} {n nt : Nat} {Z : rd_M} : ∀ k : Nat, r_runK (sp_d6 d f) n nt Z k = r_runK d n nt Z k
  | 0 => rfl
  | k + 1 => by
    show r_runT (sp_d6 d f) n k (r_runK (sp_d6 d f) n nt Z k) nt = r_runT d n k (r_runK d n nt Z k) nt
    rw [r_runK_6 k, r_runT_6]
/-- a treaty that is no quota and no surplus has no premiums -/
theorem sp_ap_5 {d : rd_M} {n : Nat} {t s : Int} {Z : rd_M} (h : ¬ d 8 s < 2) (hz : Z 5 s = 0) : sp_ap d n t Z 5 s = 0 := by
  show (if d 8 t < 2 ∧ s = t then _ else Z 5 s) = 0
  rw [if_neg (fun z => h (by rw [z.2]; exact z.1))]; exact hz
theorem r_runT_5 {d : rd_M} {n : Nat} {kd s : Int} {Z : rd_M} (h : ¬ d 8 s < 2) (hz : Z 5 s = 0) : ∀ t : Nat, r_runT d n kd Z t 5 s = 0
  | 0 => hz
  | t + 1 => by
    have ih := r_runT_5 (n := n) (kd := kd) h hz t
    show (if d 8 t = kd then sp_ap d n t (r_runT d n kd Z t) else r_runT d n kd Z t) 5 s = 0
    split
    · exact sp_ap_5 h ih
    · exact ih
theorem r_runK_5 {d : rd_M} {n nt : Nat} {s : Int} {Z : rd_M} (h : ¬ d 8 s < 2) (hz : Z 5 s = 0) : ∀ k : Nat, r_runK d n nt Z k 5 s = 0
  | 0 => hz
  | k + 1 => r_runT_5 h (r_runK_5 h hz k) nt
