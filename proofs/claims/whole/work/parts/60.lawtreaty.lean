/-! the law: treaty, both sides -/
set_option maxHeartbeats 4000000 in
set_option maxRecDepth 100000 in
theorem lw_treaty {Ls n0 n nt : Nat} {xs : Int → Int} {o : Int → Int} {i : Int} {M : rd_M} {Q : rd_R → rd_M → Prop} (hx : ∀ j, rd_I (xs j)) (h : k_R M n nt o) (hn0 : n0 + 1 ≤ 1110) (i0 : 0 ≤ i) (i1 : i + 6 ≤ Ls) (hX : ∀ (M' : rd_M) (n' nt' : Nat) (o' : Int → Int), k_R M' n' nt' o' → rd_G (x_L_law Ls xs) 1220 [some (.ref 999), some (.ref 0), some (.ref 32), some (.ref 58), some (rd_i i), none, none, none] [] M' (n0 + 1) Q) : rd_G (x_L_law Ls xs) 232 [some (.ref 999), some (.ref 0), some (.ref 32), some (.ref 58), some (rd_i i), none, none, none] [] M n0 Q := by
  have hI := h.1.1
  have hn2 := h.1.2.2.1
  have hn3 := h.1.2.2.2.1
  have hH := h.1.2.2.2.2
  have hBc := h.1
  have E5 := h.2.2.2.2.1
  have E6 := h.2.2.2.2.2.1
  have E7 := h.e7
  have E8 := h.e8
  have E9 := h.e9
  have E10 := h.e10
  have E11 := h.e11
  have E12 := h.e12
  have E13 := h.e13
  have E14 := h.e14
  have E16 := h.e16
  have E17 := h.e17
  have E18 := h.e18
  have E19 := h.e19
  have E20 := h.e20
  have E21 := h.e21
  have E22 := h.e22
  refine rd_aldn (pc := 232) d_L_law_232 rfl ?_
  refine rd_aldn (pc := 233) d_L_law_233 rfl ?_
  refine rd_ild (pc := 234) d_L_law_234 rfl ?_
  refine rd_iconst (pc := 236) d_L_law_236 ?_
  refine rd_iadd (pc := 237) d_L_law_237 ?_
  refine rd_sld (pc := 238) d_L_law_238 rfl (by omega) (by omega) ?_
  refine rd_aldn (pc := 239) d_L_law_239 rfl ?_
  refine rd_ild (pc := 240) d_L_law_240 rfl ?_
  refine rd_iconst (pc := 242) d_L_law_242 ?_
  refine rd_iadd (pc := 243) d_L_law_243 ?_
  refine rd_sld (pc := 244) d_L_law_244 rfl (by omega) (by omega) ?_
  refine rd_aldn (pc := 245) d_L_law_245 rfl ?_
  refine rd_ild (pc := 246) d_L_law_246 rfl ?_
  refine rd_iconst (pc := 248) d_L_law_248 ?_
  refine rd_iadd (pc := 249) d_L_law_249 ?_
  refine rd_sld (pc := 250) d_L_law_250 rfl (by omega) (by omega) ?_
  refine rd_aldn (pc := 251) d_L_law_251 rfl ?_
  refine rd_ild (pc := 252) d_L_law_252 rfl ?_
  refine rd_iconst (pc := 254) d_L_law_254 ?_
  refine rd_iadd (pc := 255) d_L_law_255 ?_
  refine rd_sld (pc := 256) d_L_law_256 rfl (by omega) (by omega) ?_
  refine rd_aldn (pc := 257) d_L_law_257 rfl ?_
  refine rd_ild (pc := 258) d_L_law_258 rfl ?_
  refine rd_iconst (pc := 260) d_L_law_260 ?_
  refine rd_iadd (pc := 261) d_L_law_261 ?_
  refine rd_sld (pc := 262) d_L_law_262 rfl (by omega) (by omega) ?_
  refine rd_aldn (pc := 263) d_L_law_263 rfl ?_
  refine rd_callSi (pc := 264) (n' := n0 + 1) [_, _, _, _, _, _, _] d_L_law_264 ml_L_93 (Nat.le_of_ble_eq_true rfl) (Nat.le_of_ble_eq_true rfl) hn0 rfl rfl rfl (Nat.le_of_ble_eq_true rfl) (Nat.le_of_ble_eq_true rfl) ?_
  refine ev_L_treaty hI (hx _) (hx _) (hx _) (hx _) (hx _) (fun z => ⟨_, rfl, ?_⟩) (fun z1 z2 => ⟨_, rfl, ?_⟩) (fun z1 z2  => ⟨_, rfl, ?_⟩)
  · skip
    refine rd_ist5 (pc := 267) d_L_law_267 rfl ?_
    refine rd_aldn (pc := 269) d_L_law_269 rfl ?_
    refine rd_aldn (pc := 270) d_L_law_270 rfl ?_
    refine rd_ild (pc := 271) d_L_law_271 rfl ?_
    refine rd_iconst (pc := 273) d_L_law_273 ?_
    refine rd_iadd (pc := 274) d_L_law_274 ?_
    refine rd_sld (pc := 275) d_L_law_275 rfl (by omega) (by omega) ?_
    refine rd_aldn (pc := 276) d_L_law_276 rfl ?_
    refine rd_ild (pc := 277) d_L_law_277 rfl ?_
    refine rd_iconst (pc := 279) d_L_law_279 ?_
    refine rd_iadd (pc := 280) d_L_law_280 ?_
    refine rd_sld (pc := 281) d_L_law_281 rfl (by omega) (by omega) ?_
    refine rd_aldn (pc := 282) d_L_law_282 rfl ?_
    refine rd_ild (pc := 283) d_L_law_283 rfl ?_
    refine rd_iconst (pc := 285) d_L_law_285 ?_
    refine rd_iadd (pc := 286) d_L_law_286 ?_
    refine rd_sld (pc := 287) d_L_law_287 rfl (by omega) (by omega) ?_
    refine rd_aldn (pc := 288) d_L_law_288 rfl ?_
    refine rd_ild (pc := 289) d_L_law_289 rfl ?_
    refine rd_iconst (pc := 291) d_L_law_291 ?_
    refine rd_iadd (pc := 292) d_L_law_292 ?_
    refine rd_sld (pc := 293) d_L_law_293 rfl (by omega) (by omega) ?_
    refine rd_aldn (pc := 294) d_L_law_294 rfl ?_
    refine rd_ild (pc := 295) d_L_law_295 rfl ?_
    refine rd_iconst (pc := 297) d_L_law_297 ?_
    refine rd_iadd (pc := 298) d_L_law_298 ?_
    refine rd_sld (pc := 299) d_L_law_299 rfl (by omega) (by omega) ?_
    refine rd_callVi (pc := 300) (n' := n0 + 1) [_, _, _, _, _] d_L_law_300 ml_L_96 rfl (Nat.le_of_ble_eq_true rfl) (Nat.le_of_ble_eq_true rfl) hn0 rfl rfl rfl (Nat.le_of_ble_eq_true rfl) (Nat.le_of_ble_eq_true rfl) ?_
    refine ev_M_treaty h.r (hx _) (hx _) (hx _) (hx _) (hx _) (fun w => ⟨_, rfl, ?_⟩) (fun w1 w2 => ⟨_, rfl, ?_⟩) (fun w1 w2  => ⟨_, rfl, ?_⟩)
    · skip
      refine rd_ist6 (pc := 303) d_L_law_303 rfl ?_
      refine rd_aldn (pc := 305) d_L_law_305 rfl ?_
      refine rd_callVi (pc := 306) (n' := n0 + 1) [] d_L_law_306 ml_L_85 rfl (Nat.le_of_ble_eq_true rfl) (Nat.le_of_ble_eq_true rfl) hn0 rfl rfl rfl (Nat.le_of_ble_eq_true rfl) (Nat.le_of_ble_eq_true rfl) ?_
      refine ev_M_thrown ?_
      refine ⟨_, rfl, ?_⟩
      try simp (decide := true) only [rd_up_app, rd_up_hit, rd_up_32]
      refine rd_ild (pc := 309) d_L_law_309 rfl ?_
      refine rd_icmp_eq (pc := 311) (tgt := 316) d_L_law_311 rfl ⟨by omega, by omega⟩ ⟨by omega, by omega⟩ (fun h311 => ?_) (fun h311 => ?_)
      · skip
        refine rd_ild (pc := 316) d_L_law_316 rfl ?_
        refine rd_if_ne (pc := 318) (tgt := 333) d_L_law_318 rfl ⟨by omega, by omega⟩ (fun h318 => ?_) (fun h318 => ?_)
        · skip
          refine rd_goto (pc := 333) (tgt := 1220) d_L_law_333 rfl ?_
          refine rd_weak (L' := [some (.ref 999), some (.ref 0), some (.ref 32), some (.ref 58), some (rd_i i), none, none, none]) (by simp [rd_le]) ?_
          exact hX _ _ _ _ (h.th)
        · exact absurd h318 (by decide)
      · skip
        exfalso; omega
    · skip
      exfalso
      simp (decide := true) only [rd_up_app, rd_up_32, E5, E6, E7, E8, E9, E10, E11, E12, E13, E14, E16, E17, E18, E19, E20, E21, E22, hn2, hn3] at *
      omega
    · skip
      exfalso
      simp (decide := true) only [rd_up_app, rd_up_32, E5, E6, E7, E8, E9, E10, E11, E12, E13, E14, E16, E17, E18, E19, E20, E21, E22, hn2, hn3] at *
      omega
  · skip
    refine rd_ist5 (pc := 267) d_L_law_267 rfl ?_
    refine rd_aldn (pc := 269) d_L_law_269 rfl ?_
    refine rd_aldn (pc := 270) d_L_law_270 rfl ?_
    refine rd_ild (pc := 271) d_L_law_271 rfl ?_
    refine rd_iconst (pc := 273) d_L_law_273 ?_
    refine rd_iadd (pc := 274) d_L_law_274 ?_
    refine rd_sld (pc := 275) d_L_law_275 rfl (by omega) (by omega) ?_
    refine rd_aldn (pc := 276) d_L_law_276 rfl ?_
    refine rd_ild (pc := 277) d_L_law_277 rfl ?_
    refine rd_iconst (pc := 279) d_L_law_279 ?_
    refine rd_iadd (pc := 280) d_L_law_280 ?_
    refine rd_sld (pc := 281) d_L_law_281 rfl (by omega) (by omega) ?_
    refine rd_aldn (pc := 282) d_L_law_282 rfl ?_
    refine rd_ild (pc := 283) d_L_law_283 rfl ?_
    refine rd_iconst (pc := 285) d_L_law_285 ?_
    refine rd_iadd (pc := 286) d_L_law_286 ?_
    refine rd_sld (pc := 287) d_L_law_287 rfl (by omega) (by omega) ?_
    refine rd_aldn (pc := 288) d_L_law_288 rfl ?_
    refine rd_ild (pc := 289) d_L_law_289 rfl ?_
    refine rd_iconst (pc := 291) d_L_law_291 ?_
    refine rd_iadd (pc := 292) d_L_law_292 ?_
    refine rd_sld (pc := 293) d_L_law_293 rfl (by omega) (by omega) ?_
    refine rd_aldn (pc := 294) d_L_law_294 rfl ?_
    refine rd_ild (pc := 295) d_L_law_295 rfl ?_
    refine rd_iconst (pc := 297) d_L_law_297 ?_
    refine rd_iadd (pc := 298) d_L_law_298 ?_
    refine rd_sld (pc := 299) d_L_law_299 rfl (by omega) (by omega) ?_
    refine rd_callVi (pc := 300) (n' := n0 + 1) [_, _, _, _, _] d_L_law_300 ml_L_96 rfl (Nat.le_of_ble_eq_true rfl) (Nat.le_of_ble_eq_true rfl) hn0 rfl rfl rfl (Nat.le_of_ble_eq_true rfl) (Nat.le_of_ble_eq_true rfl) ?_
    refine ev_M_treaty h.r (hx _) (hx _) (hx _) (hx _) (hx _) (fun w => ⟨_, rfl, ?_⟩) (fun w1 w2 => ⟨_, rfl, ?_⟩) (fun w1 w2  => ⟨_, rfl, ?_⟩)
    · skip
      exfalso
      simp (decide := true) only [rd_up_app, rd_up_32, E5, E6, E7, E8, E9, E10, E11, E12, E13, E14, E16, E17, E18, E19, E20, E21, E22, hn2, hn3] at *
      omega
    · skip
      refine rd_ist6 (pc := 303) d_L_law_303 rfl ?_
      refine rd_aldn (pc := 305) d_L_law_305 rfl ?_
      refine rd_callVi (pc := 306) (n' := n0 + 1) [] d_L_law_306 ml_L_85 rfl (Nat.le_of_ble_eq_true rfl) (Nat.le_of_ble_eq_true rfl) hn0 rfl rfl rfl (Nat.le_of_ble_eq_true rfl) (Nat.le_of_ble_eq_true rfl) ?_
      refine ev_M_thrown ?_
      refine ⟨_, rfl, ?_⟩
      try simp (decide := true) only [rd_up_app, rd_up_hit, rd_up_32]
      refine rd_ild (pc := 309) d_L_law_309 rfl ?_
      refine rd_icmp_eq (pc := 311) (tgt := 316) d_L_law_311 rfl ⟨by omega, by omega⟩ ⟨by omega, by omega⟩ (fun h311 => ?_) (fun h311 => ?_)
      · skip
        refine rd_ild (pc := 316) d_L_law_316 rfl ?_
        refine rd_if_ne (pc := 318) (tgt := 333) d_L_law_318 rfl ⟨by omega, by omega⟩ (fun h318 => ?_) (fun h318 => ?_)
        · skip
          refine rd_goto (pc := 333) (tgt := 1220) d_L_law_333 rfl ?_
          refine rd_weak (L' := [some (.ref 999), some (.ref 0), some (.ref 32), some (.ref 58), some (rd_i i), none, none, none]) (by simp [rd_le]) ?_
          exact hX _ _ _ _ (h.th)
        · exact absurd h318 (by decide)
      · skip
        exfalso; omega
    · skip
      exfalso
      simp (decide := true) only [rd_up_app, rd_up_32, E5, E6, E7, E8, E9, E10, E11, E12, E13, E14, E16, E17, E18, E19, E20, E21, E22, hn2, hn3] at *
      omega
  · skip
    refine rd_ist5 (pc := 267) d_L_law_267 rfl ?_
    refine rd_aldn (pc := 269) d_L_law_269 rfl ?_
    refine rd_aldn (pc := 270) d_L_law_270 rfl ?_
    refine rd_ild (pc := 271) d_L_law_271 rfl ?_
    refine rd_iconst (pc := 273) d_L_law_273 ?_
    refine rd_iadd (pc := 274) d_L_law_274 ?_
    refine rd_sld (pc := 275) d_L_law_275 rfl (by omega) (by omega) ?_
    refine rd_aldn (pc := 276) d_L_law_276 rfl ?_
    refine rd_ild (pc := 277) d_L_law_277 rfl ?_
    refine rd_iconst (pc := 279) d_L_law_279 ?_
    refine rd_iadd (pc := 280) d_L_law_280 ?_
    refine rd_sld (pc := 281) d_L_law_281 rfl (by omega) (by omega) ?_
    refine rd_aldn (pc := 282) d_L_law_282 rfl ?_
    refine rd_ild (pc := 283) d_L_law_283 rfl ?_
    refine rd_iconst (pc := 285) d_L_law_285 ?_
    refine rd_iadd (pc := 286) d_L_law_286 ?_
    refine rd_sld (pc := 287) d_L_law_287 rfl (by omega) (by omega) ?_
    refine rd_aldn (pc := 288) d_L_law_288 rfl ?_
    refine rd_ild (pc := 289) d_L_law_289 rfl ?_
    refine rd_iconst (pc := 291) d_L_law_291 ?_
    refine rd_iadd (pc := 292) d_L_law_292 ?_
    refine rd_sld (pc := 293) d_L_law_293 rfl (by omega) (by omega) ?_
    refine rd_aldn (pc := 294) d_L_law_294 rfl ?_
    refine rd_ild (pc := 295) d_L_law_295 rfl ?_
    refine rd_iconst (pc := 297) d_L_law_297 ?_
    refine rd_iadd (pc := 298) d_L_law_298 ?_
    refine rd_sld (pc := 299) d_L_law_299 rfl (by omega) (by omega) ?_
    simp only [hn3]
    refine rd_callVi (pc := 300) (n' := n0 + 1) [_, _, _, _, _] d_L_law_300 ml_L_96 rfl (Nat.le_of_ble_eq_true rfl) (Nat.le_of_ble_eq_true rfl) hn0 rfl rfl rfl (Nat.le_of_ble_eq_true rfl) (Nat.le_of_ble_eq_true rfl) ?_
    refine ev_M_treaty (h.r.keep (fun q qa qb => by repeat rw [rd_up_ne (by omega)])) (hx _) (hx _) (hx _) (hx _) (hx _) (fun w => ⟨_, rfl, ?_⟩) (fun w1 w2 => ⟨_, rfl, ?_⟩) (fun w1 w2  => ⟨_, rfl, ?_⟩)
    · skip
      exfalso
      simp (decide := true) only [rd_up_app, rd_up_32, E5, E6, E7, E8, E9, E10, E11, E12, E13, E14, E16, E17, E18, E19, E20, E21, E22, hn2, hn3] at *
      omega
    · skip
      exfalso
      simp (decide := true) only [rd_up_app, rd_up_32, E5, E6, E7, E8, E9, E10, E11, E12, E13, E14, E16, E17, E18, E19, E20, E21, E22, hn2, hn3] at *
      omega
    · skip
      refine rd_ist6 (pc := 303) d_L_law_303 rfl ?_
      refine rd_aldn (pc := 305) d_L_law_305 rfl ?_
      refine rd_callVi (pc := 306) (n' := n0 + 1) [] d_L_law_306 ml_L_85 rfl (Nat.le_of_ble_eq_true rfl) (Nat.le_of_ble_eq_true rfl) hn0 rfl rfl rfl (Nat.le_of_ble_eq_true rfl) (Nat.le_of_ble_eq_true rfl) ?_
      refine ev_M_thrown ?_
      refine ⟨_, rfl, ?_⟩
      try simp (decide := true) only [rd_up_app, rd_up_hit, rd_up_32, rd_up_3215]
      refine rd_ild (pc := 309) d_L_law_309 rfl ?_
      refine rd_icmp_eq (pc := 311) (tgt := 316) d_L_law_311 rfl ⟨by omega, by omega⟩ ⟨by omega, by omega⟩ (fun h311 => ?_) (fun h311 => ?_)
      · skip
        refine rd_ild (pc := 316) d_L_law_316 rfl ?_
        refine rd_if_ne (pc := 318) (tgt := 333) d_L_law_318 rfl ⟨by omega, by omega⟩ (fun h318 => ?_) (fun h318 => ?_)
        · exact absurd h318 (by decide)
        · skip
          refine rd_aldn (pc := 321) d_L_law_321 rfl ?_
          refine rd_iconst (pc := 322) d_L_law_322 ?_
          refine rd_lald (pc := 323) d_L_law_323 rfl (by omega) (by omega) ?_
          try simp (decide := true) only [rd_up_app, rd_up_hit, rd_up_32, rd_up_3215]
          refine rd_ild (pc := 324) d_L_law_324 rfl ?_
          refine rd_i2l (pc := 326) d_L_law_326 ⟨by omega, by omega⟩ ?_
          refine rd_lcmpE (pc := 327) (tgt := 333) d_L_law_327 d_L_law_328 rfl (by omega) ?_
          refine rd_goto (pc := 333) (tgt := 1220) d_L_law_333 rfl ?_
          refine rd_weak (L' := [some (.ref 999), some (.ref 0), some (.ref 32), some (.ref 58), some (rd_i i), none, none, none]) (by simp [rd_le]) ?_
          exact hX _ _ _ _ (h.treaty (by omega) z1.1 z1.2)
      · skip
        exfalso; omega
