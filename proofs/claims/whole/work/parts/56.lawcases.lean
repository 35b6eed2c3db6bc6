/-! the law: a call that changes, both sides -/
theorem r_B.keep {M M' : rd_M} {n nt : Nat} (h : r_B M n nt) (hk : ∀ q, 32 ≤ q → q ≤ 48 → M' q = M q) : r_B M' n nt := by
  have hd : r_d M' = r_d M := by
    funext q; unfold r_d
    split <;> first | exact hk _ (by decide) (by decide) | rw [hk 41 (by decide) (by decide)]
  unfold r_B at *
  rw [hd, hk 32 (by decide) (by decide), hk 41 (by decide) (by decide), hk 46 (by decide) (by decide), hk 48 (by decide) (by decide)]
  exact h
theorem r_T.keep {M M' : rd_M} {n : Nat} (h : r_T M n) (hk : ∀ q, 32 ≤ q → q ≤ 48 → M' q = M q) : r_T M' n := by
  unfold r_T at *
  rw [hk 33 (by decide) (by decide), hk 36 (by decide) (by decide)]
  exact h
theorem r_d_keep {M M' : rd_M} (hk : ∀ q, 32 ≤ q → q ≤ 48 → M' q = M q) : r_d M' = r_d M := by
  funext q; unfold r_d
  split <;> first | exact hk _ (by decide) (by decide) | rw [hk 41 (by decide) (by decide)]
set_option maxHeartbeats 4000000 in
set_option maxRecDepth 100000 in
theorem lw_risk {Ls n0 n nt : Nat} {xs : Int → Int} {o : Int → Int} {i : Int} {M : rd_M} {Q : rd_R → rd_M → Prop} (hx : ∀ j, rd_I (xs j)) (h : k_R M n nt o) (hn0 : n0 + 1 ≤ 1110) (i0 : 0 ≤ i) (i1 : i + 6 ≤ Ls) (hX : ∀ (M' : rd_M) (n' nt' : Nat) (o' : Int → Int), k_R M' n' nt' o' → rd_G (x_L_law Ls xs) 1220 [some (.ref 999), some (.ref 0), some (.ref 32), some (.ref 58), some (rd_i i), none, none, none] [] M' (n0 + 1) Q) : rd_G (x_L_law Ls xs) 124 [some (.ref 999), some (.ref 0), some (.ref 32), some (.ref 58), some (rd_i i), none, none, none] [] M n0 Q := by
  have hI := h.1.1
  have hn2 := h.1.2.2.1
  have hn3 := h.1.2.2.2.1
  have hH := h.1.2.2.2.2
  have hBc := h.1
  have E5 := h.2.2.2.2.1
  have E6 := h.2.2.2.2.2.1
  have E7 := h.e7
  have E8 := h.e8
  have E9 := h.e9
  have E10 := h.e10
  have E11 := h.e11
  have E12 := h.e12
  have E13 := h.e13
  have E14 := h.e14
  have E16 := h.e16
  have E17 := h.e17
  have E18 := h.e18
  have E19 := h.e19
  have E20 := h.e20
  have E21 := h.e21
  have E22 := h.e22
  refine rd_aldn (pc := 124) d_L_law_124 rfl ?_
  refine rd_aldn (pc := 125) d_L_law_125 rfl ?_
  refine rd_ild (pc := 126) d_L_law_126 rfl ?_
  refine rd_iconst (pc := 128) d_L_law_128 ?_
  refine rd_iadd (pc := 129) d_L_law_129 ?_
  refine rd_sld (pc := 130) d_L_law_130 rfl (by omega) (by omega) ?_
  refine rd_aldn (pc := 131) d_L_law_131 rfl ?_
  refine rd_ild (pc := 132) d_L_law_132 rfl ?_
  refine rd_iconst (pc := 134) d_L_law_134 ?_
  refine rd_iadd (pc := 135) d_L_law_135 ?_
  refine rd_sld (pc := 136) d_L_law_136 rfl (by omega) (by omega) ?_
  refine rd_aldn (pc := 137) d_L_law_137 rfl ?_
  refine rd_ild (pc := 138) d_L_law_138 rfl ?_
  refine rd_iconst (pc := 140) d_L_law_140 ?_
  refine rd_iadd (pc := 141) d_L_law_141 ?_
  refine rd_sld (pc := 142) d_L_law_142 rfl (by omega) (by omega) ?_
  refine rd_callSi (pc := 143) (n' := n0 + 1) [_, _, _, _] d_L_law_143 ml_L_79 (Nat.le_of_ble_eq_true rfl) (Nat.le_of_ble_eq_true rfl) hn0 rfl rfl rfl (Nat.le_of_ble_eq_true rfl) (Nat.le_of_ble_eq_true rfl) ?_
  refine ev_L_risk hI (hx _) (hx _) (hx _) (fun z => ⟨_, rfl, ?_⟩) (fun z1 z2 => ⟨_, rfl, ?_⟩) (fun z1 z2 => ⟨_, rfl, ?_⟩)
  · skip
    refine rd_ist5 (pc := 146) d_L_law_146 rfl ?_
    refine rd_aldn (pc := 148) d_L_law_148 rfl ?_
    refine rd_aldn (pc := 149) d_L_law_149 rfl ?_
    refine rd_ild (pc := 150) d_L_law_150 rfl ?_
    refine rd_iconst (pc := 152) d_L_law_152 ?_
    refine rd_iadd (pc := 153) d_L_law_153 ?_
    refine rd_sld (pc := 154) d_L_law_154 rfl (by omega) (by omega) ?_
    refine rd_aldn (pc := 155) d_L_law_155 rfl ?_
    refine rd_ild (pc := 156) d_L_law_156 rfl ?_
    refine rd_iconst (pc := 158) d_L_law_158 ?_
    refine rd_iadd (pc := 159) d_L_law_159 ?_
    refine rd_sld (pc := 160) d_L_law_160 rfl (by omega) (by omega) ?_
    refine rd_aldn (pc := 161) d_L_law_161 rfl ?_
    refine rd_ild (pc := 162) d_L_law_162 rfl ?_
    refine rd_iconst (pc := 164) d_L_law_164 ?_
    refine rd_iadd (pc := 165) d_L_law_165 ?_
    refine rd_sld (pc := 166) d_L_law_166 rfl (by omega) (by omega) ?_
    refine rd_callVv (pc := 167) (n' := n0 + 1) [_, _, _] d_L_law_167 ml_L_84 rfl (Nat.le_of_ble_eq_true rfl) (Nat.le_of_ble_eq_true rfl) hn0 rfl rfl rfl (Nat.le_of_ble_eq_true rfl) (Nat.le_of_ble_eq_true rfl) ?_
    refine ev_M_risk h.r (hx _) (hx _) (hx _) (fun w => ⟨rfl, ?_⟩) (fun w1 w2 => ⟨rfl, ?_⟩) (fun w1 w2 => ⟨rfl, ?_⟩)
    · skip
      refine rd_aldn (pc := 170) d_L_law_170 rfl ?_
      refine rd_callVi (pc := 171) (n' := n0 + 1) [] d_L_law_171 ml_L_85 rfl (Nat.le_of_ble_eq_true rfl) (Nat.le_of_ble_eq_true rfl) hn0 rfl rfl rfl (Nat.le_of_ble_eq_true rfl) (Nat.le_of_ble_eq_true rfl) ?_
      refine ev_M_thrown ?_
      refine ⟨_, rfl, ?_⟩
      try simp (decide := true) only [rd_up_app, rd_up_hit, rd_up_32]
      refine rd_ild (pc := 174) d_L_law_174 rfl ?_
      refine rd_icmp_eq (pc := 176) (tgt := 181) d_L_law_176 rfl ⟨by omega, by omega⟩ ⟨by omega, by omega⟩ (fun h176 => ?_) (fun h176 => ?_)
      · skip
        refine rd_goto (pc := 181) (tgt := 1220) d_L_law_181 rfl ?_
        refine rd_weak (L' := [some (.ref 999), some (.ref 0), some (.ref 32), some (.ref 58), some (rd_i i), none, none, none]) (by simp [rd_le]) ?_
        exact hX _ _ _ _ (h.th)
      · skip
        exfalso; omega
    · skip
      exfalso
      simp (decide := true) only [rd_up_app, rd_up_32, E5, E6, E7, E8, E9, E10, E11, E12, E13, E14, E16, E17, E18, E19, E20, E21, E22, hn2, hn3] at *
      omega
    · skip
      exfalso
      simp (decide := true) only [rd_up_app, rd_up_32, E5, E6, E7, E8, E9, E10, E11, E12, E13, E14, E16, E17, E18, E19, E20, E21, E22, hn2, hn3] at *
      omega
  · skip
    refine rd_ist5 (pc := 146) d_L_law_146 rfl ?_
    refine rd_aldn (pc := 148) d_L_law_148 rfl ?_
    refine rd_aldn (pc := 149) d_L_law_149 rfl ?_
    refine rd_ild (pc := 150) d_L_law_150 rfl ?_
    refine rd_iconst (pc := 152) d_L_law_152 ?_
    refine rd_iadd (pc := 153) d_L_law_153 ?_
    refine rd_sld (pc := 154) d_L_law_154 rfl (by omega) (by omega) ?_
    refine rd_aldn (pc := 155) d_L_law_155 rfl ?_
    refine rd_ild (pc := 156) d_L_law_156 rfl ?_
    refine rd_iconst (pc := 158) d_L_law_158 ?_
    refine rd_iadd (pc := 159) d_L_law_159 ?_
    refine rd_sld (pc := 160) d_L_law_160 rfl (by omega) (by omega) ?_
    refine rd_aldn (pc := 161) d_L_law_161 rfl ?_
    refine rd_ild (pc := 162) d_L_law_162 rfl ?_
    refine rd_iconst (pc := 164) d_L_law_164 ?_
    refine rd_iadd (pc := 165) d_L_law_165 ?_
    refine rd_sld (pc := 166) d_L_law_166 rfl (by omega) (by omega) ?_
    refine rd_callVv (pc := 167) (n' := n0 + 1) [_, _, _] d_L_law_167 ml_L_84 rfl (Nat.le_of_ble_eq_true rfl) (Nat.le_of_ble_eq_true rfl) hn0 rfl rfl rfl (Nat.le_of_ble_eq_true rfl) (Nat.le_of_ble_eq_true rfl) ?_
    refine ev_M_risk h.r (hx _) (hx _) (hx _) (fun w => ⟨rfl, ?_⟩) (fun w1 w2 => ⟨rfl, ?_⟩) (fun w1 w2 => ⟨rfl, ?_⟩)
    · skip
      exfalso
      simp (decide := true) only [rd_up_app, rd_up_32, E5, E6, E7, E8, E9, E10, E11, E12, E13, E14, E16, E17, E18, E19, E20, E21, E22, hn2, hn3] at *
      omega
    · skip
      refine rd_aldn (pc := 170) d_L_law_170 rfl ?_
      refine rd_callVi (pc := 171) (n' := n0 + 1) [] d_L_law_171 ml_L_85 rfl (Nat.le_of_ble_eq_true rfl) (Nat.le_of_ble_eq_true rfl) hn0 rfl rfl rfl (Nat.le_of_ble_eq_true rfl) (Nat.le_of_ble_eq_true rfl) ?_
      refine ev_M_thrown ?_
      refine ⟨_, rfl, ?_⟩
      try simp (decide := true) only [rd_up_app, rd_up_hit, rd_up_32]
      refine rd_ild (pc := 174) d_L_law_174 rfl ?_
      refine rd_icmp_eq (pc := 176) (tgt := 181) d_L_law_176 rfl ⟨by omega, by omega⟩ ⟨by omega, by omega⟩ (fun h176 => ?_) (fun h176 => ?_)
      · skip
        refine rd_goto (pc := 181) (tgt := 1220) d_L_law_181 rfl ?_
        refine rd_weak (L' := [some (.ref 999), some (.ref 0), some (.ref 32), some (.ref 58), some (rd_i i), none, none, none]) (by simp [rd_le]) ?_
        exact hX _ _ _ _ (h.th)
      · skip
        exfalso; omega
    · skip
      exfalso
      simp (decide := true) only [rd_up_app, rd_up_32, E5, E6, E7, E8, E9, E10, E11, E12, E13, E14, E16, E17, E18, E19, E20, E21, E22, hn2, hn3] at *
      omega
  · skip
    refine rd_ist5 (pc := 146) d_L_law_146 rfl ?_
    refine rd_aldn (pc := 148) d_L_law_148 rfl ?_
    refine rd_aldn (pc := 149) d_L_law_149 rfl ?_
    refine rd_ild (pc := 150) d_L_law_150 rfl ?_
    refine rd_iconst (pc := 152) d_L_law_152 ?_
    refine rd_iadd (pc := 153) d_L_law_153 ?_
    refine rd_sld (pc := 154) d_L_law_154 rfl (by omega) (by omega) ?_
    refine rd_aldn (pc := 155) d_L_law_155 rfl ?_
    refine rd_ild (pc := 156) d_L_law_156 rfl ?_
    refine rd_iconst (pc := 158) d_L_law_158 ?_
    refine rd_iadd (pc := 159) d_L_law_159 ?_
    refine rd_sld (pc := 160) d_L_law_160 rfl (by omega) (by omega) ?_
    refine rd_aldn (pc := 161) d_L_law_161 rfl ?_
    refine rd_ild (pc := 162) d_L_law_162 rfl ?_
    refine rd_iconst (pc := 164) d_L_law_164 ?_
    refine rd_iadd (pc := 165) d_L_law_165 ?_
    refine rd_sld (pc := 166) d_L_law_166 rfl (by omega) (by omega) ?_
    refine rd_callVv (pc := 167) (n' := n0 + 1) [_, _, _] d_L_law_167 ml_L_84 rfl (Nat.le_of_ble_eq_true rfl) (Nat.le_of_ble_eq_true rfl) hn0 rfl rfl rfl (Nat.le_of_ble_eq_true rfl) (Nat.le_of_ble_eq_true rfl) ?_
    refine ev_M_risk (h.r.keep (fun q qa qb => by repeat rw [rd_up_ne (by omega)])) (hx _) (hx _) (hx _) (fun w => ⟨rfl, ?_⟩) (fun w1 w2 => ⟨rfl, ?_⟩) (fun w1 w2 => ⟨rfl, ?_⟩)
    · skip
      exfalso
      simp (decide := true) only [rd_up_app, rd_up_32, E5, E6, E7, E8, E9, E10, E11, E12, E13, E14, E16, E17, E18, E19, E20, E21, E22, hn2, hn3] at *
      omega
    · skip
      exfalso
      simp (decide := true) only [rd_up_app, rd_up_32, E5, E6, E7, E8, E9, E10, E11, E12, E13, E14, E16, E17, E18, E19, E20, E21, E22, hn2, hn3] at *
      omega
    · skip
      refine rd_aldn (pc := 170) d_L_law_170 rfl ?_
      refine rd_callVi (pc := 171) (n' := n0 + 1) [] d_L_law_171 ml_L_85 rfl (Nat.le_of_ble_eq_true rfl) (Nat.le_of_ble_eq_true rfl) hn0 rfl rfl rfl (Nat.le_of_ble_eq_true rfl) (Nat.le_of_ble_eq_true rfl) ?_
      refine ev_M_thrown ?_
      refine ⟨_, rfl, ?_⟩
      try simp (decide := true) only [rd_up_app, rd_up_hit, rd_up_32]
      refine rd_ild (pc := 174) d_L_law_174 rfl ?_
      refine rd_icmp_eq (pc := 176) (tgt := 181) d_L_law_176 rfl ⟨by omega, by omega⟩ ⟨by omega, by omega⟩ (fun h176 => ?_) (fun h176 => ?_)
      · skip
        refine rd_goto (pc := 181) (tgt := 1220) d_L_law_181 rfl ?_
        refine rd_weak (L' := [some (.ref 999), some (.ref 0), some (.ref 32), some (.ref 58), some (rd_i i), none, none, none]) (by simp [rd_le]) ?_
        exact hX _ _ _ _ (h.risk (by omega) (by omega))
      · skip
        exfalso; omega
set_option maxHeartbeats 4000000 in
set_option maxRecDepth 100000 in
theorem lw_premium {Ls n0 n nt : Nat} {xs : Int → Int} {o : Int → Int} {i : Int} {M : rd_M} {Q : rd_R → rd_M → Prop} (hx : ∀ j, rd_I (xs j)) (h : k_R M n nt o) (hn0 : n0 + 1 ≤ 1110) (i0 : 0 ≤ i) (i1 : i + 6 ≤ Ls) (hX : ∀ (M' : rd_M) (n' nt' : Nat) (o' : Int → Int), k_R M' n' nt' o' → rd_G (x_L_law Ls xs) 1220 [some (.ref 999), some (.ref 0), some (.ref 32), some (.ref 58), some (rd_i i), none, none, none] [] M' (n0 + 1) Q) : rd_G (x_L_law Ls xs) 184 [some (.ref 999), some (.ref 0), some (.ref 32), some (.ref 58), some (rd_i i), none, none, none] [] M n0 Q := by
  have hI := h.1.1
  have hn2 := h.1.2.2.1
  have hn3 := h.1.2.2.2.1
  have hH := h.1.2.2.2.2
  have hBc := h.1
  have E5 := h.2.2.2.2.1
  have E6 := h.2.2.2.2.2.1
  have E7 := h.e7
  have E8 := h.e8
  have E9 := h.e9
  have E10 := h.e10
  have E11 := h.e11
  have E12 := h.e12
  have E13 := h.e13
  have E14 := h.e14
  have E16 := h.e16
  have E17 := h.e17
  have E18 := h.e18
  have E19 := h.e19
  have E20 := h.e20
  have E21 := h.e21
  have E22 := h.e22
  refine rd_aldn (pc := 184) d_L_law_184 rfl ?_
  refine rd_aldn (pc := 185) d_L_law_185 rfl ?_
  refine rd_ild (pc := 186) d_L_law_186 rfl ?_
  refine rd_iconst (pc := 188) d_L_law_188 ?_
  refine rd_iadd (pc := 189) d_L_law_189 ?_
  refine rd_sld (pc := 190) d_L_law_190 rfl (by omega) (by omega) ?_
  refine rd_aldn (pc := 191) d_L_law_191 rfl ?_
  refine rd_ild (pc := 192) d_L_law_192 rfl ?_
  refine rd_iconst (pc := 194) d_L_law_194 ?_
  refine rd_iadd (pc := 195) d_L_law_195 ?_
  refine rd_sld (pc := 196) d_L_law_196 rfl (by omega) (by omega) ?_
  refine rd_callSi (pc := 197) (n' := n0 + 1) [_, _, _] d_L_law_197 ml_L_89 (Nat.le_of_ble_eq_true rfl) (Nat.le_of_ble_eq_true rfl) hn0 rfl rfl rfl (Nat.le_of_ble_eq_true rfl) (Nat.le_of_ble_eq_true rfl) ?_
  refine ev_L_premium hI (hx _) (hx _) (fun z => ⟨_, rfl, ?_⟩) (fun z1 z2 => ⟨_, rfl, ?_⟩) (fun z1 z2 => ⟨_, rfl, ?_⟩)
  · skip
    refine rd_ist5 (pc := 200) d_L_law_200 rfl ?_
    refine rd_aldn (pc := 202) d_L_law_202 rfl ?_
    refine rd_aldn (pc := 203) d_L_law_203 rfl ?_
    refine rd_ild (pc := 204) d_L_law_204 rfl ?_
    refine rd_iconst (pc := 206) d_L_law_206 ?_
    refine rd_iadd (pc := 207) d_L_law_207 ?_
    refine rd_sld (pc := 208) d_L_law_208 rfl (by omega) (by omega) ?_
    refine rd_aldn (pc := 209) d_L_law_209 rfl ?_
    refine rd_ild (pc := 210) d_L_law_210 rfl ?_
    refine rd_iconst (pc := 212) d_L_law_212 ?_
    refine rd_iadd (pc := 213) d_L_law_213 ?_
    refine rd_sld (pc := 214) d_L_law_214 rfl (by omega) (by omega) ?_
    refine rd_callVv (pc := 215) (n' := n0 + 1) [_, _] d_L_law_215 ml_L_92 rfl (Nat.le_of_ble_eq_true rfl) (Nat.le_of_ble_eq_true rfl) hn0 rfl rfl rfl (Nat.le_of_ble_eq_true rfl) (Nat.le_of_ble_eq_true rfl) ?_
    refine ev_M_premium h.r (hx _) (hx _) (fun w => ⟨rfl, ?_⟩) (fun w1 w2 => ⟨rfl, ?_⟩) (fun w1 w2 => ⟨rfl, ?_⟩)
    · skip
      refine rd_aldn (pc := 218) d_L_law_218 rfl ?_
      refine rd_callVi (pc := 219) (n' := n0 + 1) [] d_L_law_219 ml_L_85 rfl (Nat.le_of_ble_eq_true rfl) (Nat.le_of_ble_eq_true rfl) hn0 rfl rfl rfl (Nat.le_of_ble_eq_true rfl) (Nat.le_of_ble_eq_true rfl) ?_
      refine ev_M_thrown ?_
      refine ⟨_, rfl, ?_⟩
      try simp (decide := true) only [rd_up_app, rd_up_hit, rd_up_32]
      refine rd_ild (pc := 222) d_L_law_222 rfl ?_
      refine rd_icmp_eq (pc := 224) (tgt := 229) d_L_law_224 rfl ⟨by omega, by omega⟩ ⟨by omega, by omega⟩ (fun h224 => ?_) (fun h224 => ?_)
      · skip
        refine rd_goto (pc := 229) (tgt := 1220) d_L_law_229 rfl ?_
        refine rd_weak (L' := [some (.ref 999), some (.ref 0), some (.ref 32), some (.ref 58), some (rd_i i), none, none, none]) (by simp [rd_le]) ?_
        exact hX _ _ _ _ (h.th)
      · skip
        exfalso; omega
    · skip
      exfalso
      simp (decide := true) only [rd_up_app, rd_up_32, E5, E6, E7, E8, E9, E10, E11, E12, E13, E14, E16, E17, E18, E19, E20, E21, E22, hn2, hn3] at *
      omega
    · skip
      exfalso
      simp (decide := true) only [rd_up_app, rd_up_32, E5, E6, E7, E8, E9, E10, E11, E12, E13, E14, E16, E17, E18, E19, E20, E21, E22, hn2, hn3] at *
      omega
  · skip
    refine rd_ist5 (pc := 200) d_L_law_200 rfl ?_
    refine rd_aldn (pc := 202) d_L_law_202 rfl ?_
    refine rd_aldn (pc := 203) d_L_law_203 rfl ?_
    refine rd_ild (pc := 204) d_L_law_204 rfl ?_
    refine rd_iconst (pc := 206) d_L_law_206 ?_
    refine rd_iadd (pc := 207) d_L_law_207 ?_
    refine rd_sld (pc := 208) d_L_law_208 rfl (by omega) (by omega) ?_
    refine rd_aldn (pc := 209) d_L_law_209 rfl ?_
    refine rd_ild (pc := 210) d_L_law_210 rfl ?_
    refine rd_iconst (pc := 212) d_L_law_212 ?_
    refine rd_iadd (pc := 213) d_L_law_213 ?_
    refine rd_sld (pc := 214) d_L_law_214 rfl (by omega) (by omega) ?_
    refine rd_callVv (pc := 215) (n' := n0 + 1) [_, _] d_L_law_215 ml_L_92 rfl (Nat.le_of_ble_eq_true rfl) (Nat.le_of_ble_eq_true rfl) hn0 rfl rfl rfl (Nat.le_of_ble_eq_true rfl) (Nat.le_of_ble_eq_true rfl) ?_
    refine ev_M_premium h.r (hx _) (hx _) (fun w => ⟨rfl, ?_⟩) (fun w1 w2 => ⟨rfl, ?_⟩) (fun w1 w2 => ⟨rfl, ?_⟩)
    · skip
      exfalso
      simp (decide := true) only [rd_up_app, rd_up_32, E5, E6, E7, E8, E9, E10, E11, E12, E13, E14, E16, E17, E18, E19, E20, E21, E22, hn2, hn3] at *
      omega
    · skip
      refine rd_aldn (pc := 218) d_L_law_218 rfl ?_
      refine rd_callVi (pc := 219) (n' := n0 + 1) [] d_L_law_219 ml_L_85 rfl (Nat.le_of_ble_eq_true rfl) (Nat.le_of_ble_eq_true rfl) hn0 rfl rfl rfl (Nat.le_of_ble_eq_true rfl) (Nat.le_of_ble_eq_true rfl) ?_
      refine ev_M_thrown ?_
      refine ⟨_, rfl, ?_⟩
      try simp (decide := true) only [rd_up_app, rd_up_hit, rd_up_32]
      refine rd_ild (pc := 222) d_L_law_222 rfl ?_
      refine rd_icmp_eq (pc := 224) (tgt := 229) d_L_law_224 rfl ⟨by omega, by omega⟩ ⟨by omega, by omega⟩ (fun h224 => ?_) (fun h224 => ?_)
      · skip
        refine rd_goto (pc := 229) (tgt := 1220) d_L_law_229 rfl ?_
        refine rd_weak (L' := [some (.ref 999), some (.ref 0), some (.ref 32), some (.ref 58), some (rd_i i), none, none, none]) (by simp [rd_le]) ?_
        exact hX _ _ _ _ (h.th)
      · skip
        exfalso; omega
    · skip
      exfalso
      simp (decide := true) only [rd_up_app, rd_up_32, E5, E6, E7, E8, E9, E10, E11, E12, E13, E14, E16, E17, E18, E19, E20, E21, E22, hn2, hn3] at *
      omega
  · skip
    refine rd_ist5 (pc := 200) d_L_law_200 rfl ?_
    refine rd_aldn (pc := 202) d_L_law_202 rfl ?_
    refine rd_aldn (pc := 203) d_L_law_203 rfl ?_
    refine rd_ild (pc := 204) d_L_law_204 rfl ?_
    refine rd_iconst (pc := 206) d_L_law_206 ?_
    refine rd_iadd (pc := 207) d_L_law_207 ?_
    refine rd_sld (pc := 208) d_L_law_208 rfl (by omega) (by omega) ?_
    refine rd_aldn (pc := 209) d_L_law_209 rfl ?_
    refine rd_ild (pc := 210) d_L_law_210 rfl ?_
    refine rd_iconst (pc := 212) d_L_law_212 ?_
    refine rd_iadd (pc := 213) d_L_law_213 ?_
    refine rd_sld (pc := 214) d_L_law_214 rfl (by omega) (by omega) ?_
    refine rd_callVv (pc := 215) (n' := n0 + 1) [_, _] d_L_law_215 ml_L_92 rfl (Nat.le_of_ble_eq_true rfl) (Nat.le_of_ble_eq_true rfl) hn0 rfl rfl rfl (Nat.le_of_ble_eq_true rfl) (Nat.le_of_ble_eq_true rfl) ?_
    refine ev_M_premium (h.r.keep (fun q qa qb => by repeat rw [rd_up_ne (by omega)])) (hx _) (hx _) (fun w => ⟨rfl, ?_⟩) (fun w1 w2 => ⟨rfl, ?_⟩) (fun w1 w2 => ⟨rfl, ?_⟩)
    · skip
      exfalso
      simp (decide := true) only [rd_up_app, rd_up_32, E5, E6, E7, E8, E9, E10, E11, E12, E13, E14, E16, E17, E18, E19, E20, E21, E22, hn2, hn3] at *
      omega
    · skip
      exfalso
      simp (decide := true) only [rd_up_app, rd_up_32, E5, E6, E7, E8, E9, E10, E11, E12, E13, E14, E16, E17, E18, E19, E20, E21, E22, hn2, hn3] at *
      omega
    · skip
      refine rd_aldn (pc := 218) d_L_law_218 rfl ?_
      refine rd_callVi (pc := 219) (n' := n0 + 1) [] d_L_law_219 ml_L_85 rfl (Nat.le_of_ble_eq_true rfl) (Nat.le_of_ble_eq_true rfl) hn0 rfl rfl rfl (Nat.le_of_ble_eq_true rfl) (Nat.le_of_ble_eq_true rfl) ?_
      refine ev_M_thrown ?_
      refine ⟨_, rfl, ?_⟩
      try simp (decide := true) only [rd_up_app, rd_up_hit, rd_up_32]
      refine rd_ild (pc := 222) d_L_law_222 rfl ?_
      refine rd_icmp_eq (pc := 224) (tgt := 229) d_L_law_224 rfl ⟨by omega, by omega⟩ ⟨by omega, by omega⟩ (fun h224 => ?_) (fun h224 => ?_)
      · skip
        refine rd_goto (pc := 229) (tgt := 1220) d_L_law_229 rfl ?_
        refine rd_weak (L' := [some (.ref 999), some (.ref 0), some (.ref 32), some (.ref 58), some (rd_i i), none, none, none]) (by simp [rd_le]) ?_
        exact hX _ _ _ _ (h.premium (by omega))
      · skip
        exfalso; omega
set_option maxHeartbeats 4000000 in
set_option maxRecDepth 100000 in
theorem lw_share {Ls n0 n nt : Nat} {xs : Int → Int} {o : Int → Int} {i : Int} {M : rd_M} {Q : rd_R → rd_M → Prop} (hx : ∀ j, rd_I (xs j)) (h : k_R M n nt o) (hn0 : n0 + 1 ≤ 1110) (i0 : 0 ≤ i) (i1 : i + 6 ≤ Ls) (hX : ∀ (M' : rd_M) (n' nt' : Nat) (o' : Int → Int), k_R M' n' nt' o' → rd_G (x_L_law Ls xs) 1220 [some (.ref 999), some (.ref 0), some (.ref 32), some (.ref 58), some (rd_i i), none, none, none] [] M' (n0 + 1) Q) : rd_G (x_L_law Ls xs) 336 [some (.ref 999), some (.ref 0), some (.ref 32), some (.ref 58), some (rd_i i), none, none, none] [] M n0 Q := by
  have hI := h.1.1
  have hn2 := h.1.2.2.1
  have hn3 := h.1.2.2.2.1
  have hH := h.1.2.2.2.2
  have hBc := h.1
  have E5 := h.2.2.2.2.1
  have E6 := h.2.2.2.2.2.1
  have E7 := h.e7
  have E8 := h.e8
  have E9 := h.e9
  have E10 := h.e10
  have E11 := h.e11
  have E12 := h.e12
  have E13 := h.e13
  have E14 := h.e14
  have E16 := h.e16
  have E17 := h.e17
  have E18 := h.e18
  have E19 := h.e19
  have E20 := h.e20
  have E21 := h.e21
  have E22 := h.e22
  refine rd_aldn (pc := 336) d_L_law_336 rfl ?_
  refine rd_aldn (pc := 337) d_L_law_337 rfl ?_
  refine rd_ild (pc := 338) d_L_law_338 rfl ?_
  refine rd_iconst (pc := 340) d_L_law_340 ?_
  refine rd_iadd (pc := 341) d_L_law_341 ?_
  refine rd_sld (pc := 342) d_L_law_342 rfl (by omega) (by omega) ?_
  refine rd_aldn (pc := 343) d_L_law_343 rfl ?_
  refine rd_ild (pc := 344) d_L_law_344 rfl ?_
  refine rd_iconst (pc := 346) d_L_law_346 ?_
  refine rd_iadd (pc := 347) d_L_law_347 ?_
  refine rd_sld (pc := 348) d_L_law_348 rfl (by omega) (by omega) ?_
  refine rd_aldn (pc := 349) d_L_law_349 rfl ?_
  refine rd_ild (pc := 350) d_L_law_350 rfl ?_
  refine rd_iconst (pc := 352) d_L_law_352 ?_
  refine rd_iadd (pc := 353) d_L_law_353 ?_
  refine rd_sld (pc := 354) d_L_law_354 rfl (by omega) (by omega) ?_
  refine rd_callSi (pc := 355) (n' := n0 + 1) [_, _, _, _] d_L_law_355 ml_L_97 (Nat.le_of_ble_eq_true rfl) (Nat.le_of_ble_eq_true rfl) hn0 rfl rfl rfl (Nat.le_of_ble_eq_true rfl) (Nat.le_of_ble_eq_true rfl) ?_
  refine ev_L_share hI (hx _) (hx _) (hx _) (fun z => ⟨_, rfl, ?_⟩) (fun z1 z2 => ⟨_, rfl, ?_⟩) (fun z1 z2 => ⟨_, rfl, ?_⟩)
  · skip
    refine rd_ist5 (pc := 358) d_L_law_358 rfl ?_
    refine rd_aldn (pc := 360) d_L_law_360 rfl ?_
    refine rd_aldn (pc := 361) d_L_law_361 rfl ?_
    refine rd_ild (pc := 362) d_L_law_362 rfl ?_
    refine rd_iconst (pc := 364) d_L_law_364 ?_
    refine rd_iadd (pc := 365) d_L_law_365 ?_
    refine rd_sld (pc := 366) d_L_law_366 rfl (by omega) (by omega) ?_
    refine rd_aldn (pc := 367) d_L_law_367 rfl ?_
    refine rd_ild (pc := 368) d_L_law_368 rfl ?_
    refine rd_iconst (pc := 370) d_L_law_370 ?_
    refine rd_iadd (pc := 371) d_L_law_371 ?_
    refine rd_sld (pc := 372) d_L_law_372 rfl (by omega) (by omega) ?_
    refine rd_aldn (pc := 373) d_L_law_373 rfl ?_
    refine rd_ild (pc := 374) d_L_law_374 rfl ?_
    refine rd_iconst (pc := 376) d_L_law_376 ?_
    refine rd_iadd (pc := 377) d_L_law_377 ?_
    refine rd_sld (pc := 378) d_L_law_378 rfl (by omega) (by omega) ?_
    refine rd_callVv (pc := 379) (n' := n0 + 1) [_, _, _] d_L_law_379 ml_L_99 rfl (Nat.le_of_ble_eq_true rfl) (Nat.le_of_ble_eq_true rfl) hn0 rfl rfl rfl (Nat.le_of_ble_eq_true rfl) (Nat.le_of_ble_eq_true rfl) ?_
    refine ev_M_share h.r (hx _) (hx _) (hx _) (fun w => ⟨rfl, ?_⟩) (fun w1 w2 => ⟨rfl, ?_⟩) (fun w1 w2 => ⟨rfl, ?_⟩)
    · skip
      refine rd_aldn (pc := 382) d_L_law_382 rfl ?_
      refine rd_callVi (pc := 383) (n' := n0 + 1) [] d_L_law_383 ml_L_85 rfl (Nat.le_of_ble_eq_true rfl) (Nat.le_of_ble_eq_true rfl) hn0 rfl rfl rfl (Nat.le_of_ble_eq_true rfl) (Nat.le_of_ble_eq_true rfl) ?_
      refine ev_M_thrown ?_
      refine ⟨_, rfl, ?_⟩
      try simp (decide := true) only [rd_up_app, rd_up_hit, rd_up_32]
      refine rd_ild (pc := 386) d_L_law_386 rfl ?_
      refine rd_icmp_eq (pc := 388) (tgt := 393) d_L_law_388 rfl ⟨by omega, by omega⟩ ⟨by omega, by omega⟩ (fun h388 => ?_) (fun h388 => ?_)
      · skip
        refine rd_goto (pc := 393) (tgt := 1220) d_L_law_393 rfl ?_
        refine rd_weak (L' := [some (.ref 999), some (.ref 0), some (.ref 32), some (.ref 58), some (rd_i i), none, none, none]) (by simp [rd_le]) ?_
        exact hX _ _ _ _ (h.th)
      · skip
        exfalso; omega
    · skip
      exfalso
      simp (decide := true) only [rd_up_app, rd_up_32, E5, E6, E7, E8, E9, E10, E11, E12, E13, E14, E16, E17, E18, E19, E20, E21, E22, hn2, hn3] at *
      omega
    · skip
      exfalso
      simp (decide := true) only [rd_up_app, rd_up_32, E5, E6, E7, E8, E9, E10, E11, E12, E13, E14, E16, E17, E18, E19, E20, E21, E22, hn2, hn3] at *
      omega
  · skip
    refine rd_ist5 (pc := 358) d_L_law_358 rfl ?_
    refine rd_aldn (pc := 360) d_L_law_360 rfl ?_
    refine rd_aldn (pc := 361) d_L_law_361 rfl ?_
    refine rd_ild (pc := 362) d_L_law_362 rfl ?_
    refine rd_iconst (pc := 364) d_L_law_364 ?_
    refine rd_iadd (pc := 365) d_L_law_365 ?_
    refine rd_sld (pc := 366) d_L_law_366 rfl (by omega) (by omega) ?_
    refine rd_aldn (pc := 367) d_L_law_367 rfl ?_
    refine rd_ild (pc := 368) d_L_law_368 rfl ?_
    refine rd_iconst (pc := 370) d_L_law_370 ?_
    refine rd_iadd (pc := 371) d_L_law_371 ?_
    refine rd_sld (pc := 372) d_L_law_372 rfl (by omega) (by omega) ?_
    refine rd_aldn (pc := 373) d_L_law_373 rfl ?_
    refine rd_ild (pc := 374) d_L_law_374 rfl ?_
    refine rd_iconst (pc := 376) d_L_law_376 ?_
    refine rd_iadd (pc := 377) d_L_law_377 ?_
    refine rd_sld (pc := 378) d_L_law_378 rfl (by omega) (by omega) ?_
    refine rd_callVv (pc := 379) (n' := n0 + 1) [_, _, _] d_L_law_379 ml_L_99 rfl (Nat.le_of_ble_eq_true rfl) (Nat.le_of_ble_eq_true rfl) hn0 rfl rfl rfl (Nat.le_of_ble_eq_true rfl) (Nat.le_of_ble_eq_true rfl) ?_
    refine ev_M_share h.r (hx _) (hx _) (hx _) (fun w => ⟨rfl, ?_⟩) (fun w1 w2 => ⟨rfl, ?_⟩) (fun w1 w2 => ⟨rfl, ?_⟩)
    · skip
      exfalso
      simp (decide := true) only [rd_up_app, rd_up_32, E5, E6, E7, E8, E9, E10, E11, E12, E13, E14, E16, E17, E18, E19, E20, E21, E22, hn2, hn3] at *
      omega
    · skip
      refine rd_aldn (pc := 382) d_L_law_382 rfl ?_
      refine rd_callVi (pc := 383) (n' := n0 + 1) [] d_L_law_383 ml_L_85 rfl (Nat.le_of_ble_eq_true rfl) (Nat.le_of_ble_eq_true rfl) hn0 rfl rfl rfl (Nat.le_of_ble_eq_true rfl) (Nat.le_of_ble_eq_true rfl) ?_
      refine ev_M_thrown ?_
      refine ⟨_, rfl, ?_⟩
      try simp (decide := true) only [rd_up_app, rd_up_hit, rd_up_32]
      refine rd_ild (pc := 386) d_L_law_386 rfl ?_
      refine rd_icmp_eq (pc := 388) (tgt := 393) d_L_law_388 rfl ⟨by omega, by omega⟩ ⟨by omega, by omega⟩ (fun h388 => ?_) (fun h388 => ?_)
      · skip
        refine rd_goto (pc := 393) (tgt := 1220) d_L_law_393 rfl ?_
        refine rd_weak (L' := [some (.ref 999), some (.ref 0), some (.ref 32), some (.ref 58), some (rd_i i), none, none, none]) (by simp [rd_le]) ?_
        exact hX _ _ _ _ (h.th)
      · skip
        exfalso; omega
    · skip
      exfalso
      simp (decide := true) only [rd_up_app, rd_up_32, E5, E6, E7, E8, E9, E10, E11, E12, E13, E14, E16, E17, E18, E19, E20, E21, E22, hn2, hn3] at *
      omega
  · skip
    refine rd_ist5 (pc := 358) d_L_law_358 rfl ?_
    refine rd_aldn (pc := 360) d_L_law_360 rfl ?_
    refine rd_aldn (pc := 361) d_L_law_361 rfl ?_
    refine rd_ild (pc := 362) d_L_law_362 rfl ?_
    refine rd_iconst (pc := 364) d_L_law_364 ?_
    refine rd_iadd (pc := 365) d_L_law_365 ?_
    refine rd_sld (pc := 366) d_L_law_366 rfl (by omega) (by omega) ?_
    refine rd_aldn (pc := 367) d_L_law_367 rfl ?_
    refine rd_ild (pc := 368) d_L_law_368 rfl ?_
    refine rd_iconst (pc := 370) d_L_law_370 ?_
    refine rd_iadd (pc := 371) d_L_law_371 ?_
    refine rd_sld (pc := 372) d_L_law_372 rfl (by omega) (by omega) ?_
    refine rd_aldn (pc := 373) d_L_law_373 rfl ?_
    refine rd_ild (pc := 374) d_L_law_374 rfl ?_
    refine rd_iconst (pc := 376) d_L_law_376 ?_
    refine rd_iadd (pc := 377) d_L_law_377 ?_
    refine rd_sld (pc := 378) d_L_law_378 rfl (by omega) (by omega) ?_
    refine rd_callVv (pc := 379) (n' := n0 + 1) [_, _, _] d_L_law_379 ml_L_99 rfl (Nat.le_of_ble_eq_true rfl) (Nat.le_of_ble_eq_true rfl) hn0 rfl rfl rfl (Nat.le_of_ble_eq_true rfl) (Nat.le_of_ble_eq_true rfl) ?_
    refine ev_M_share (h.r.keep (fun q qa qb => by repeat rw [rd_up_ne (by omega)])) (hx _) (hx _) (hx _) (fun w => ⟨rfl, ?_⟩) (fun w1 w2 => ⟨rfl, ?_⟩) (fun w1 w2 => ⟨rfl, ?_⟩)
    · skip
      exfalso
      simp (decide := true) only [rd_up_app, rd_up_32, E5, E6, E7, E8, E9, E10, E11, E12, E13, E14, E16, E17, E18, E19, E20, E21, E22, hn2, hn3] at *
      omega
    · skip
      exfalso
      simp (decide := true) only [rd_up_app, rd_up_32, E5, E6, E7, E8, E9, E10, E11, E12, E13, E14, E16, E17, E18, E19, E20, E21, E22, hn2, hn3] at *
      omega
    · skip
      refine rd_aldn (pc := 382) d_L_law_382 rfl ?_
      refine rd_callVi (pc := 383) (n' := n0 + 1) [] d_L_law_383 ml_L_85 rfl (Nat.le_of_ble_eq_true rfl) (Nat.le_of_ble_eq_true rfl) hn0 rfl rfl rfl (Nat.le_of_ble_eq_true rfl) (Nat.le_of_ble_eq_true rfl) ?_
      refine ev_M_thrown ?_
      refine ⟨_, rfl, ?_⟩
      try simp (decide := true) only [rd_up_app, rd_up_hit, rd_up_32]
      refine rd_ild (pc := 386) d_L_law_386 rfl ?_
      refine rd_icmp_eq (pc := 388) (tgt := 393) d_L_law_388 rfl ⟨by omega, by omega⟩ ⟨by omega, by omega⟩ (fun h388 => ?_) (fun h388 => ?_)
      · skip
        refine rd_goto (pc := 393) (tgt := 1220) d_L_law_393 rfl ?_
        refine rd_weak (L' := [some (.ref 999), some (.ref 0), some (.ref 32), some (.ref 58), some (rd_i i), none, none, none]) (by simp [rd_le]) ?_
        exact hX _ _ _ _ (h.share (by omega))
      · skip
        exfalso; omega
set_option maxHeartbeats 4000000 in
set_option maxRecDepth 100000 in
theorem lw_estimate {Ls n0 n nt : Nat} {xs : Int → Int} {o : Int → Int} {i : Int} {M : rd_M} {Q : rd_R → rd_M → Prop} (hx : ∀ j, rd_I (xs j)) (h : k_R M n nt o) (hn0 : n0 + 1 ≤ 1110) (i0 : 0 ≤ i) (i1 : i + 6 ≤ Ls) (hX : ∀ (M' : rd_M) (n' nt' : Nat) (o' : Int → Int), k_R M' n' nt' o' → rd_G (x_L_law Ls xs) 1220 [some (.ref 999), some (.ref 0), some (.ref 32), some (.ref 58), some (rd_i i), none, none, none] [] M' (n0 + 1) Q) : rd_G (x_L_law Ls xs) 476 [some (.ref 999), some (.ref 0), some (.ref 32), some (.ref 58), some (rd_i i), none, none, none] [] M n0 Q := by
  have hI := h.1.1
  have hn2 := h.1.2.2.1
  have hn3 := h.1.2.2.2.1
  have hH := h.1.2.2.2.2
  have hBc := h.1
  have E5 := h.2.2.2.2.1
  have E6 := h.2.2.2.2.2.1
  have E7 := h.e7
  have E8 := h.e8
  have E9 := h.e9
  have E10 := h.e10
  have E11 := h.e11
  have E12 := h.e12
  have E13 := h.e13
  have E14 := h.e14
  have E16 := h.e16
  have E17 := h.e17
  have E18 := h.e18
  have E19 := h.e19
  have E20 := h.e20
  have E21 := h.e21
  have E22 := h.e22
  refine rd_aldn (pc := 476) d_L_law_476 rfl ?_
  refine rd_aldn (pc := 477) d_L_law_477 rfl ?_
  refine rd_ild (pc := 478) d_L_law_478 rfl ?_
  refine rd_iconst (pc := 480) d_L_law_480 ?_
  refine rd_iadd (pc := 481) d_L_law_481 ?_
  refine rd_sld (pc := 482) d_L_law_482 rfl (by omega) (by omega) ?_
  refine rd_aldn (pc := 483) d_L_law_483 rfl ?_
  refine rd_ild (pc := 484) d_L_law_484 rfl ?_
  refine rd_iconst (pc := 486) d_L_law_486 ?_
  refine rd_iadd (pc := 487) d_L_law_487 ?_
  refine rd_sld (pc := 488) d_L_law_488 rfl (by omega) (by omega) ?_
  refine rd_callSi (pc := 489) (n' := n0 + 1) [_, _, _] d_L_law_489 ml_L_104 (Nat.le_of_ble_eq_true rfl) (Nat.le_of_ble_eq_true rfl) hn0 rfl rfl rfl (Nat.le_of_ble_eq_true rfl) (Nat.le_of_ble_eq_true rfl) ?_
  refine ev_L_estimate hI (hx _) (hx _) (fun z => ⟨_, rfl, ?_⟩) (fun z1 z2 => ⟨_, rfl, ?_⟩) (fun z1 z2 => ⟨_, rfl, ?_⟩)
  · skip
    refine rd_ist5 (pc := 492) d_L_law_492 rfl ?_
    refine rd_aldn (pc := 494) d_L_law_494 rfl ?_
    refine rd_aldn (pc := 495) d_L_law_495 rfl ?_
    refine rd_ild (pc := 496) d_L_law_496 rfl ?_
    refine rd_iconst (pc := 498) d_L_law_498 ?_
    refine rd_iadd (pc := 499) d_L_law_499 ?_
    refine rd_sld (pc := 500) d_L_law_500 rfl (by omega) (by omega) ?_
    refine rd_aldn (pc := 501) d_L_law_501 rfl ?_
    refine rd_ild (pc := 502) d_L_law_502 rfl ?_
    refine rd_iconst (pc := 504) d_L_law_504 ?_
    refine rd_iadd (pc := 505) d_L_law_505 ?_
    refine rd_sld (pc := 506) d_L_law_506 rfl (by omega) (by omega) ?_
    refine rd_callVv (pc := 507) (n' := n0 + 1) [_, _] d_L_law_507 ml_L_106 rfl (Nat.le_of_ble_eq_true rfl) (Nat.le_of_ble_eq_true rfl) hn0 rfl rfl rfl (Nat.le_of_ble_eq_true rfl) (Nat.le_of_ble_eq_true rfl) ?_
    refine ev_M_estimate h.r (hx _) (hx _) (fun w => ⟨rfl, ?_⟩) (fun w1 w2 => ⟨rfl, ?_⟩) (fun w1 w2 => ⟨rfl, ?_⟩)
    · skip
      refine rd_aldn (pc := 510) d_L_law_510 rfl ?_
      refine rd_callVi (pc := 511) (n' := n0 + 1) [] d_L_law_511 ml_L_85 rfl (Nat.le_of_ble_eq_true rfl) (Nat.le_of_ble_eq_true rfl) hn0 rfl rfl rfl (Nat.le_of_ble_eq_true rfl) (Nat.le_of_ble_eq_true rfl) ?_
      refine ev_M_thrown ?_
      refine ⟨_, rfl, ?_⟩
      try simp (decide := true) only [rd_up_app, rd_up_hit, rd_up_32]
      refine rd_ild (pc := 514) d_L_law_514 rfl ?_
      refine rd_icmp_eq (pc := 516) (tgt := 521) d_L_law_516 rfl ⟨by omega, by omega⟩ ⟨by omega, by omega⟩ (fun h516 => ?_) (fun h516 => ?_)
      · skip
        refine rd_goto (pc := 521) (tgt := 1220) d_L_law_521 rfl ?_
        refine rd_weak (L' := [some (.ref 999), some (.ref 0), some (.ref 32), some (.ref 58), some (rd_i i), none, none, none]) (by simp [rd_le]) ?_
        exact hX _ _ _ _ (h.th)
      · skip
        exfalso; omega
    · skip
      exfalso
      simp (decide := true) only [rd_up_app, rd_up_32, E5, E6, E7, E8, E9, E10, E11, E12, E13, E14, E16, E17, E18, E19, E20, E21, E22, hn2, hn3] at *
      omega
    · skip
      exfalso
      simp (decide := true) only [rd_up_app, rd_up_32, E5, E6, E7, E8, E9, E10, E11, E12, E13, E14, E16, E17, E18, E19, E20, E21, E22, hn2, hn3] at *
      omega
  · skip
    refine rd_ist5 (pc := 492) d_L_law_492 rfl ?_
    refine rd_aldn (pc := 494) d_L_law_494 rfl ?_
    refine rd_aldn (pc := 495) d_L_law_495 rfl ?_
    refine rd_ild (pc := 496) d_L_law_496 rfl ?_
    refine rd_iconst (pc := 498) d_L_law_498 ?_
    refine rd_iadd (pc := 499) d_L_law_499 ?_
    refine rd_sld (pc := 500) d_L_law_500 rfl (by omega) (by omega) ?_
    refine rd_aldn (pc := 501) d_L_law_501 rfl ?_
    refine rd_ild (pc := 502) d_L_law_502 rfl ?_
    refine rd_iconst (pc := 504) d_L_law_504 ?_
    refine rd_iadd (pc := 505) d_L_law_505 ?_
    refine rd_sld (pc := 506) d_L_law_506 rfl (by omega) (by omega) ?_
    refine rd_callVv (pc := 507) (n' := n0 + 1) [_, _] d_L_law_507 ml_L_106 rfl (Nat.le_of_ble_eq_true rfl) (Nat.le_of_ble_eq_true rfl) hn0 rfl rfl rfl (Nat.le_of_ble_eq_true rfl) (Nat.le_of_ble_eq_true rfl) ?_
    refine ev_M_estimate h.r (hx _) (hx _) (fun w => ⟨rfl, ?_⟩) (fun w1 w2 => ⟨rfl, ?_⟩) (fun w1 w2 => ⟨rfl, ?_⟩)
    · skip
      exfalso
      simp (decide := true) only [rd_up_app, rd_up_32, E5, E6, E7, E8, E9, E10, E11, E12, E13, E14, E16, E17, E18, E19, E20, E21, E22, hn2, hn3] at *
      omega
    · skip
      refine rd_aldn (pc := 510) d_L_law_510 rfl ?_
      refine rd_callVi (pc := 511) (n' := n0 + 1) [] d_L_law_511 ml_L_85 rfl (Nat.le_of_ble_eq_true rfl) (Nat.le_of_ble_eq_true rfl) hn0 rfl rfl rfl (Nat.le_of_ble_eq_true rfl) (Nat.le_of_ble_eq_true rfl) ?_
      refine ev_M_thrown ?_
      refine ⟨_, rfl, ?_⟩
      try simp (decide := true) only [rd_up_app, rd_up_hit, rd_up_32]
      refine rd_ild (pc := 514) d_L_law_514 rfl ?_
      refine rd_icmp_eq (pc := 516) (tgt := 521) d_L_law_516 rfl ⟨by omega, by omega⟩ ⟨by omega, by omega⟩ (fun h516 => ?_) (fun h516 => ?_)
      · skip
        refine rd_goto (pc := 521) (tgt := 1220) d_L_law_521 rfl ?_
        refine rd_weak (L' := [some (.ref 999), some (.ref 0), some (.ref 32), some (.ref 58), some (rd_i i), none, none, none]) (by simp [rd_le]) ?_
        exact hX _ _ _ _ (h.th)
      · skip
        exfalso; omega
    · skip
      exfalso
      simp (decide := true) only [rd_up_app, rd_up_32, E5, E6, E7, E8, E9, E10, E11, E12, E13, E14, E16, E17, E18, E19, E20, E21, E22, hn2, hn3] at *
      omega
  · skip
    refine rd_ist5 (pc := 492) d_L_law_492 rfl ?_
    refine rd_aldn (pc := 494) d_L_law_494 rfl ?_
    refine rd_aldn (pc := 495) d_L_law_495 rfl ?_
    refine rd_ild (pc := 496) d_L_law_496 rfl ?_
    refine rd_iconst (pc := 498) d_L_law_498 ?_
    refine rd_iadd (pc := 499) d_L_law_499 ?_
    refine rd_sld (pc := 500) d_L_law_500 rfl (by omega) (by omega) ?_
    refine rd_aldn (pc := 501) d_L_law_501 rfl ?_
    refine rd_ild (pc := 502) d_L_law_502 rfl ?_
    refine rd_iconst (pc := 504) d_L_law_504 ?_
    refine rd_iadd (pc := 505) d_L_law_505 ?_
    refine rd_sld (pc := 506) d_L_law_506 rfl (by omega) (by omega) ?_
    refine rd_callVv (pc := 507) (n' := n0 + 1) [_, _] d_L_law_507 ml_L_106 rfl (Nat.le_of_ble_eq_true rfl) (Nat.le_of_ble_eq_true rfl) hn0 rfl rfl rfl (Nat.le_of_ble_eq_true rfl) (Nat.le_of_ble_eq_true rfl) ?_
    refine ev_M_estimate (h.r.keep (fun q qa qb => by repeat rw [rd_up_ne (by omega)])) (hx _) (hx _) (fun w => ⟨rfl, ?_⟩) (fun w1 w2 => ⟨rfl, ?_⟩) (fun w1 w2 => ⟨rfl, ?_⟩)
    · skip
      exfalso
      simp (decide := true) only [rd_up_app, rd_up_32, E5, E6, E7, E8, E9, E10, E11, E12, E13, E14, E16, E17, E18, E19, E20, E21, E22, hn2, hn3] at *
      omega
    · skip
      exfalso
      simp (decide := true) only [rd_up_app, rd_up_32, E5, E6, E7, E8, E9, E10, E11, E12, E13, E14, E16, E17, E18, E19, E20, E21, E22, hn2, hn3] at *
      omega
    · skip
      refine rd_aldn (pc := 510) d_L_law_510 rfl ?_
      refine rd_callVi (pc := 511) (n' := n0 + 1) [] d_L_law_511 ml_L_85 rfl (Nat.le_of_ble_eq_true rfl) (Nat.le_of_ble_eq_true rfl) hn0 rfl rfl rfl (Nat.le_of_ble_eq_true rfl) (Nat.le_of_ble_eq_true rfl) ?_
      refine ev_M_thrown ?_
      refine ⟨_, rfl, ?_⟩
      try simp (decide := true) only [rd_up_app, rd_up_hit, rd_up_32]
      refine rd_ild (pc := 514) d_L_law_514 rfl ?_
      refine rd_icmp_eq (pc := 516) (tgt := 521) d_L_law_516 rfl ⟨by omega, by omega⟩ ⟨by omega, by omega⟩ (fun h516 => ?_) (fun h516 => ?_)
      · skip
        refine rd_goto (pc := 521) (tgt := 1220) d_L_law_521 rfl ?_
        refine rd_weak (L' := [some (.ref 999), some (.ref 0), some (.ref 32), some (.ref 58), some (rd_i i), none, none, none]) (by simp [rd_le]) ?_
        exact hX _ _ _ _ (h.estimate (by omega))
      · skip
        exfalso; omega
set_option maxHeartbeats 4000000 in
set_option maxRecDepth 100000 in
theorem lw_strike {Ls n0 n nt : Nat} {xs : Int → Int} {o : Int → Int} {i : Int} {M : rd_M} {Q : rd_R → rd_M → Prop} (hx : ∀ j, rd_I (xs j)) (h : k_R M n nt o) (hn0 : n0 + 1 ≤ 1110) (i0 : 0 ≤ i) (i1 : i + 6 ≤ Ls) (hX : ∀ (M' : rd_M) (n' nt' : Nat) (o' : Int → Int), k_R M' n' nt' o' → rd_G (x_L_law Ls xs) 1220 [some (.ref 999), some (.ref 0), some (.ref 32), some (.ref 58), some (rd_i i), none, none, none] [] M' (n0 + 1) Q) : rd_G (x_L_law Ls xs) 524 [some (.ref 999), some (.ref 0), some (.ref 32), some (.ref 58), some (rd_i i), none, none, none] [] M n0 Q := by
  have hI := h.1.1
  have hn2 := h.1.2.2.1
  have hn3 := h.1.2.2.2.1
  have hH := h.1.2.2.2.2
  have hBc := h.1
  have E5 := h.2.2.2.2.1
  have E6 := h.2.2.2.2.2.1
  have E7 := h.e7
  have E8 := h.e8
  have E9 := h.e9
  have E10 := h.e10
  have E11 := h.e11
  have E12 := h.e12
  have E13 := h.e13
  have E14 := h.e14
  have E16 := h.e16
  have E17 := h.e17
  have E18 := h.e18
  have E19 := h.e19
  have E20 := h.e20
  have E21 := h.e21
  have E22 := h.e22
  refine rd_aldn (pc := 524) d_L_law_524 rfl ?_
  refine rd_aldn (pc := 525) d_L_law_525 rfl ?_
  refine rd_ild (pc := 526) d_L_law_526 rfl ?_
  refine rd_iconst (pc := 528) d_L_law_528 ?_
  refine rd_iadd (pc := 529) d_L_law_529 ?_
  refine rd_sld (pc := 530) d_L_law_530 rfl (by omega) (by omega) ?_
  refine rd_callSi (pc := 531) (n' := n0 + 1) [_, _] d_L_law_531 ml_L_107 (Nat.le_of_ble_eq_true rfl) (Nat.le_of_ble_eq_true rfl) hn0 rfl rfl rfl (Nat.le_of_ble_eq_true rfl) (Nat.le_of_ble_eq_true rfl) ?_
  refine ev_L_strike hI (hx _) (fun z => ⟨_, rfl, ?_⟩) (fun z1 z2 => ⟨_, rfl, ?_⟩) (fun z1 z2 => ⟨_, rfl, ?_⟩)
  · skip
    refine rd_ist5 (pc := 534) d_L_law_534 rfl ?_
    refine rd_aldn (pc := 536) d_L_law_536 rfl ?_
    refine rd_aldn (pc := 537) d_L_law_537 rfl ?_
    refine rd_ild (pc := 538) d_L_law_538 rfl ?_
    refine rd_iconst (pc := 540) d_L_law_540 ?_
    refine rd_iadd (pc := 541) d_L_law_541 ?_
    refine rd_sld (pc := 542) d_L_law_542 rfl (by omega) (by omega) ?_
    refine rd_callVv (pc := 543) (n' := n0 + 1) [_] d_L_law_543 ml_L_110 rfl (Nat.le_of_ble_eq_true rfl) (Nat.le_of_ble_eq_true rfl) hn0 rfl rfl rfl (Nat.le_of_ble_eq_true rfl) (Nat.le_of_ble_eq_true rfl) ?_
    refine ev_M_strike h.r (hx _) (fun w => ⟨rfl, ?_⟩) (fun w1 w2 => ⟨rfl, ?_⟩) (fun w1 w2 => ⟨rfl, ?_⟩)
    · skip
      refine rd_aldn (pc := 546) d_L_law_546 rfl ?_
      refine rd_callVi (pc := 547) (n' := n0 + 1) [] d_L_law_547 ml_L_85 rfl (Nat.le_of_ble_eq_true rfl) (Nat.le_of_ble_eq_true rfl) hn0 rfl rfl rfl (Nat.le_of_ble_eq_true rfl) (Nat.le_of_ble_eq_true rfl) ?_
      refine ev_M_thrown ?_
      refine ⟨_, rfl, ?_⟩
      try simp (decide := true) only [rd_up_app, rd_up_hit, rd_up_32]
      refine rd_ild (pc := 550) d_L_law_550 rfl ?_
      refine rd_icmp_eq (pc := 552) (tgt := 557) d_L_law_552 rfl ⟨by omega, by omega⟩ ⟨by omega, by omega⟩ (fun h552 => ?_) (fun h552 => ?_)
      · skip
        refine rd_goto (pc := 557) (tgt := 1220) d_L_law_557 rfl ?_
        refine rd_weak (L' := [some (.ref 999), some (.ref 0), some (.ref 32), some (.ref 58), some (rd_i i), none, none, none]) (by simp [rd_le]) ?_
        exact hX _ _ _ _ (h.th)
      · skip
        exfalso; omega
    · skip
      exfalso
      simp (decide := true) only [rd_up_app, rd_up_32, E5, E6, E7, E8, E9, E10, E11, E12, E13, E14, E16, E17, E18, E19, E20, E21, E22, hn2, hn3] at *
      omega
    · skip
      exfalso
      simp (decide := true) only [rd_up_app, rd_up_32, E5, E6, E7, E8, E9, E10, E11, E12, E13, E14, E16, E17, E18, E19, E20, E21, E22, hn2, hn3] at *
      omega
  · skip
    refine rd_ist5 (pc := 534) d_L_law_534 rfl ?_
    refine rd_aldn (pc := 536) d_L_law_536 rfl ?_
    refine rd_aldn (pc := 537) d_L_law_537 rfl ?_
    refine rd_ild (pc := 538) d_L_law_538 rfl ?_
    refine rd_iconst (pc := 540) d_L_law_540 ?_
    refine rd_iadd (pc := 541) d_L_law_541 ?_
    refine rd_sld (pc := 542) d_L_law_542 rfl (by omega) (by omega) ?_
    refine rd_callVv (pc := 543) (n' := n0 + 1) [_] d_L_law_543 ml_L_110 rfl (Nat.le_of_ble_eq_true rfl) (Nat.le_of_ble_eq_true rfl) hn0 rfl rfl rfl (Nat.le_of_ble_eq_true rfl) (Nat.le_of_ble_eq_true rfl) ?_
    refine ev_M_strike h.r (hx _) (fun w => ⟨rfl, ?_⟩) (fun w1 w2 => ⟨rfl, ?_⟩) (fun w1 w2 => ⟨rfl, ?_⟩)
    · skip
      exfalso
      simp (decide := true) only [rd_up_app, rd_up_32, E5, E6, E7, E8, E9, E10, E11, E12, E13, E14, E16, E17, E18, E19, E20, E21, E22, hn2, hn3] at *
      omega
    · skip
      refine rd_aldn (pc := 546) d_L_law_546 rfl ?_
      refine rd_callVi (pc := 547) (n' := n0 + 1) [] d_L_law_547 ml_L_85 rfl (Nat.le_of_ble_eq_true rfl) (Nat.le_of_ble_eq_true rfl) hn0 rfl rfl rfl (Nat.le_of_ble_eq_true rfl) (Nat.le_of_ble_eq_true rfl) ?_
      refine ev_M_thrown ?_
      refine ⟨_, rfl, ?_⟩
      try simp (decide := true) only [rd_up_app, rd_up_hit, rd_up_32]
      refine rd_ild (pc := 550) d_L_law_550 rfl ?_
      refine rd_icmp_eq (pc := 552) (tgt := 557) d_L_law_552 rfl ⟨by omega, by omega⟩ ⟨by omega, by omega⟩ (fun h552 => ?_) (fun h552 => ?_)
      · skip
        refine rd_goto (pc := 557) (tgt := 1220) d_L_law_557 rfl ?_
        refine rd_weak (L' := [some (.ref 999), some (.ref 0), some (.ref 32), some (.ref 58), some (rd_i i), none, none, none]) (by simp [rd_le]) ?_
        exact hX _ _ _ _ (h.th)
      · skip
        exfalso; omega
    · skip
      exfalso
      simp (decide := true) only [rd_up_app, rd_up_32, E5, E6, E7, E8, E9, E10, E11, E12, E13, E14, E16, E17, E18, E19, E20, E21, E22, hn2, hn3] at *
      omega
  · skip
    refine rd_ist5 (pc := 534) d_L_law_534 rfl ?_
    refine rd_aldn (pc := 536) d_L_law_536 rfl ?_
    refine rd_aldn (pc := 537) d_L_law_537 rfl ?_
    refine rd_ild (pc := 538) d_L_law_538 rfl ?_
    refine rd_iconst (pc := 540) d_L_law_540 ?_
    refine rd_iadd (pc := 541) d_L_law_541 ?_
    refine rd_sld (pc := 542) d_L_law_542 rfl (by omega) (by omega) ?_
    refine rd_callVv (pc := 543) (n' := n0 + 1) [_] d_L_law_543 ml_L_110 rfl (Nat.le_of_ble_eq_true rfl) (Nat.le_of_ble_eq_true rfl) hn0 rfl rfl rfl (Nat.le_of_ble_eq_true rfl) (Nat.le_of_ble_eq_true rfl) ?_
    refine ev_M_strike (h.r.keep (fun q qa qb => by repeat rw [rd_up_ne (by omega)])) (hx _) (fun w => ⟨rfl, ?_⟩) (fun w1 w2 => ⟨rfl, ?_⟩) (fun w1 w2 => ⟨rfl, ?_⟩)
    · skip
      exfalso
      simp (decide := true) only [rd_up_app, rd_up_32, E5, E6, E7, E8, E9, E10, E11, E12, E13, E14, E16, E17, E18, E19, E20, E21, E22, hn2, hn3] at *
      omega
    · skip
      exfalso
      simp (decide := true) only [rd_up_app, rd_up_32, E5, E6, E7, E8, E9, E10, E11, E12, E13, E14, E16, E17, E18, E19, E20, E21, E22, hn2, hn3] at *
      omega
    · skip
      refine rd_aldn (pc := 546) d_L_law_546 rfl ?_
      refine rd_callVi (pc := 547) (n' := n0 + 1) [] d_L_law_547 ml_L_85 rfl (Nat.le_of_ble_eq_true rfl) (Nat.le_of_ble_eq_true rfl) hn0 rfl rfl rfl (Nat.le_of_ble_eq_true rfl) (Nat.le_of_ble_eq_true rfl) ?_
      refine ev_M_thrown ?_
      refine ⟨_, rfl, ?_⟩
      try simp (decide := true) only [rd_up_app, rd_up_hit, rd_up_32]
      refine rd_ild (pc := 550) d_L_law_550 rfl ?_
      refine rd_icmp_eq (pc := 552) (tgt := 557) d_L_law_552 rfl ⟨by omega, by omega⟩ ⟨by omega, by omega⟩ (fun h552 => ?_) (fun h552 => ?_)
      · skip
        refine rd_goto (pc := 557) (tgt := 1220) d_L_law_557 rfl ?_
        refine rd_weak (L' := [some (.ref 999), some (.ref 0), some (.ref 32), some (.ref 58), some (rd_i i), none, none, none]) (by simp [rd_le]) ?_
        exact hX _ _ _ _ (h.strike)
      · skip
        exfalso; omega
