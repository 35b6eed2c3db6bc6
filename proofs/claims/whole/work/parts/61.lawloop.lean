/-! the law: its loop -/
set_option maxHeartbeats 4000000 in
set_option maxRecDepth 100000 in
theorem lq_L_law {Ls : Nat} {xs : Int → Int} {Q : rd_R → rd_M → Prop} (hx : ∀ j, rd_I (xs j)) (hLs : Ls ≤ 3072) (hQ : ∀ M, Q (.inl (some (rd_i 1))) M) : ∀ (d : Nat) (i : Int) (n0 n nt : Nat) (o : Int → Int) (M : rd_M), ((Ls : Int) - i).toNat = d → 0 ≤ i → (n0 : Int) * 6 ≤ 2400 + i ∧ i ≤ 3072 + 6 → k_R M n nt o → rd_G (x_L_law Ls xs) 23 [some (.ref 999), some (.ref 0), some (.ref 32), some (.ref 58), some (rd_i i), none, none, none] [] M n0 Q := by
  intro d
  induction d using Nat.strongRecOn with
  | ind d ih =>
    intro i n0 n nt o M hd i0 hn0 h
    refine rd_ild (pc := 23) d_L_law_23 rfl ?_
    refine rd_aldn (pc := 25) d_L_law_25 rfl ?_
    refine rd_slen (pc := 26) d_L_law_26 rfl ?_
    refine rd_bipush (pc := 27) d_L_law_27 rfl ?_
    refine rd_isub (pc := 29) d_L_law_29 ?_
    refine rd_icmp_gt (pc := 30) (tgt := 1226) d_L_law_30 rfl ⟨by omega, by omega⟩ ⟨by omega, by omega⟩ (fun h30 => ?_) (fun h30 => ?_)
    · skip
      refine rd_iconst (pc := 1226) d_L_law_1226 ?_
      exact rd_zret (pc := 1227) d_L_law_1227 rfl (by show n0 ≤ 1110; omega) (by omega) (hQ _)
    · skip
      refine rd_aldn (pc := 33) d_L_law_33 rfl ?_
      refine rd_ild (pc := 34) d_L_law_34 rfl ?_
      refine rd_sld (pc := 36) d_L_law_36 rfl (by omega) (by omega) ?_
      refine rd_bipush (pc := 37) d_L_law_37 rfl ?_
      refine rd_iand31 (pc := 39) d_L_law_39 (fun z z0 z1 => ?_)
      by_cases q40_0 : z = 0
      · skip
        refine rd_tswI (pc := 40) (c := 0) (off := 84) (tgt := 124) d_L_law_40 q40_0 rfl (by decide) (by decide) rfl rfl ?_
        exact lw_risk hx h (by omega) i0 (by omega) (fun M2 n2 nt2 o2 h2 => rd_iinc4 (pc := 1220) d_L_law_1220 rfl (rd_goto (pc := 1223) (tgt := 23) d_L_law_1223 rfl (ih _ (by omega) (i + 6) (n0 + 1) n2 nt2 o2 M2 rfl (by omega) (by omega) h2)))
      by_cases q40_1 : z = 1
      · skip
        refine rd_tswI (pc := 40) (c := 1) (off := 144) (tgt := 184) d_L_law_40 q40_1 rfl (by decide) (by decide) rfl rfl ?_
        exact lw_premium hx h (by omega) i0 (by omega) (fun M2 n2 nt2 o2 h2 => rd_iinc4 (pc := 1220) d_L_law_1220 rfl (rd_goto (pc := 1223) (tgt := 23) d_L_law_1223 rfl (ih _ (by omega) (i + 6) (n0 + 1) n2 nt2 o2 M2 rfl (by omega) (by omega) h2)))
      by_cases q40_2 : z = 2
      · skip
        refine rd_tswI (pc := 40) (c := 2) (off := 192) (tgt := 232) d_L_law_40 q40_2 rfl (by decide) (by decide) rfl rfl ?_
        exact lw_treaty hx h (by omega) i0 (by omega) (fun M2 n2 nt2 o2 h2 => rd_iinc4 (pc := 1220) d_L_law_1220 rfl (rd_goto (pc := 1223) (tgt := 23) d_L_law_1223 rfl (ih _ (by omega) (i + 6) (n0 + 1) n2 nt2 o2 M2 rfl (by omega) (by omega) h2)))
      by_cases q40_3 : z = 3
      · skip
        refine rd_tswI (pc := 40) (c := 3) (off := 296) (tgt := 336) d_L_law_40 q40_3 rfl (by decide) (by decide) rfl rfl ?_
        exact lw_share hx h (by omega) i0 (by omega) (fun M2 n2 nt2 o2 h2 => rd_iinc4 (pc := 1220) d_L_law_1220 rfl (rd_goto (pc := 1223) (tgt := 23) d_L_law_1223 rfl (ih _ (by omega) (i + 6) (n0 + 1) n2 nt2 o2 M2 rfl (by omega) (by omega) h2)))
      by_cases q40_4 : z = 4
      · skip
        refine rd_tswI (pc := 40) (c := 4) (off := 356) (tgt := 396) d_L_law_40 q40_4 rfl (by decide) (by decide) rfl rfl ?_
        exact lw_claim hx h (by omega) i0 (by omega) (fun M2 n2 nt2 o2 h2 => rd_iinc4 (pc := 1220) d_L_law_1220 rfl (rd_goto (pc := 1223) (tgt := 23) d_L_law_1223 rfl (ih _ (by omega) (i + 6) (n0 + 1) n2 nt2 o2 M2 rfl (by omega) (by omega) h2)))
      by_cases q40_5 : z = 5
      · skip
        refine rd_tswI (pc := 40) (c := 5) (off := 436) (tgt := 476) d_L_law_40 q40_5 rfl (by decide) (by decide) rfl rfl ?_
        exact lw_estimate hx h (by omega) i0 (by omega) (fun M2 n2 nt2 o2 h2 => rd_iinc4 (pc := 1220) d_L_law_1220 rfl (rd_goto (pc := 1223) (tgt := 23) d_L_law_1223 rfl (ih _ (by omega) (i + 6) (n0 + 1) n2 nt2 o2 M2 rfl (by omega) (by omega) h2)))
      by_cases q40_6 : z = 6
      · skip
        refine rd_tswI (pc := 40) (c := 6) (off := 484) (tgt := 524) d_L_law_40 q40_6 rfl (by decide) (by decide) rfl rfl ?_
        exact lw_strike hx h (by omega) i0 (by omega) (fun M2 n2 nt2 o2 h2 => rd_iinc4 (pc := 1220) d_L_law_1220 rfl (rd_goto (pc := 1223) (tgt := 23) d_L_law_1223 rfl (ih _ (by omega) (i + 6) (n0 + 1) n2 nt2 o2 M2 rfl (by omega) (by omega) h2)))
      by_cases q40_7 : z = 7
      · skip
        refine rd_tswI (pc := 40) (c := 7) (off := 520) (tgt := 560) d_L_law_40 q40_7 rfl (by decide) (by decide) rfl rfl ?_
        exact lw_dissolve hx h (by omega) i0 (by omega) (fun M2 n2 nt2 o2 h2 => rd_iinc4 (pc := 1220) d_L_law_1220 rfl (rd_goto (pc := 1223) (tgt := 23) d_L_law_1223 rfl (ih _ (by omega) (i + 6) (n0 + 1) n2 nt2 o2 M2 rfl (by omega) (by omega) h2)))
      by_cases q40_8 : z = 8
      · skip
        refine rd_tswI (pc := 40) (c := 8) (off := 588) (tgt := 628) d_L_law_40 q40_8 rfl (by decide) (by decide) rfl rfl ?_
        exact lw_kept hx h (by omega) i0 (by omega) (fun M2 n2 nt2 o2 h2 => rd_iinc4 (pc := 1220) d_L_law_1220 rfl (rd_goto (pc := 1223) (tgt := 23) d_L_law_1223 rfl (ih _ (by omega) (i + 6) (n0 + 1) n2 nt2 o2 M2 rfl (by omega) (by omega) h2)))
      by_cases q40_9 : z = 9
      · skip
        refine rd_tswI (pc := 40) (c := 9) (off := 644) (tgt := 684) d_L_law_40 q40_9 rfl (by decide) (by decide) rfl rfl ?_
        exact lw_ceded hx h (by omega) i0 (by omega) (fun M2 n2 nt2 o2 h2 => rd_iinc4 (pc := 1220) d_L_law_1220 rfl (rd_goto (pc := 1223) (tgt := 23) d_L_law_1223 rfl (ih _ (by omega) (i + 6) (n0 + 1) n2 nt2 o2 M2 rfl (by omega) (by omega) h2)))
      by_cases q40_10 : z = 10
      · skip
        refine rd_tswI (pc := 40) (c := 10) (off := 712) (tgt := 752) d_L_law_40 q40_10 rfl (by decide) (by decide) rfl rfl ?_
        exact lw_left hx h (by omega) i0 (by omega) (fun M2 n2 nt2 o2 h2 => rd_iinc4 (pc := 1220) d_L_law_1220 rfl (rd_goto (pc := 1223) (tgt := 23) d_L_law_1223 rfl (ih _ (by omega) (i + 6) (n0 + 1) n2 nt2 o2 M2 rfl (by omega) (by omega) h2)))
      by_cases q40_11 : z = 11
      · skip
        refine rd_tswI (pc := 40) (c := 11) (off := 767) (tgt := 807) d_L_law_40 q40_11 rfl (by decide) (by decide) rfl rfl ?_
        exact lw_window hx h (by omega) i0 (by omega) (fun M2 n2 nt2 o2 h2 => rd_iinc4 (pc := 1220) d_L_law_1220 rfl (rd_goto (pc := 1223) (tgt := 23) d_L_law_1223 rfl (ih _ (by omega) (i + 6) (n0 + 1) n2 nt2 o2 M2 rfl (by omega) (by omega) h2)))
      by_cases q40_12 : z = 12
      · skip
        refine rd_tswI (pc := 40) (c := 12) (off := 835) (tgt := 875) d_L_law_40 q40_12 rfl (by decide) (by decide) rfl rfl ?_
        exact lw_total hx h (by omega) i0 (by omega) (fun M2 n2 nt2 o2 h2 => rd_iinc4 (pc := 1220) d_L_law_1220 rfl (rd_goto (pc := 1223) (tgt := 23) d_L_law_1223 rfl (ih _ (by omega) (i + 6) (n0 + 1) n2 nt2 o2 M2 rfl (by omega) (by omega) h2)))
      by_cases q40_13 : z = 13
      · skip
        refine rd_tswI (pc := 40) (c := 13) (off := 902) (tgt := 942) d_L_law_40 q40_13 rfl (by decide) (by decide) rfl rfl ?_
        exact lw_due hx h (by omega) i0 (by omega) (fun M2 n2 nt2 o2 h2 => rd_iinc4 (pc := 1220) d_L_law_1220 rfl (rd_goto (pc := 1223) (tgt := 23) d_L_law_1223 rfl (ih _ (by omega) (i + 6) (n0 + 1) n2 nt2 o2 M2 rfl (by omega) (by omega) h2)))
      by_cases q40_14 : z = 14
      · skip
        refine rd_tswI (pc := 40) (c := 14) (off := 981) (tgt := 1021) d_L_law_40 q40_14 rfl (by decide) (by decide) rfl rfl ?_
        exact lw_whatIf hx h (by omega) i0 (by omega) (fun M2 n2 nt2 o2 h2 => rd_iinc4 (pc := 1220) d_L_law_1220 rfl (rd_goto (pc := 1223) (tgt := 23) d_L_law_1223 rfl (ih _ (by omega) (i + 6) (n0 + 1) n2 nt2 o2 M2 rfl (by omega) (by omega) h2)))
      by_cases q40_15 : z = 15
      · skip
        refine rd_tswI (pc := 40) (c := 15) (off := 1061) (tgt := 1101) d_L_law_40 q40_15 rfl (by decide) (by decide) rfl rfl ?_
        exact lw_bill hx h (by omega) i0 (by omega) (fun M2 n2 nt2 o2 h2 => rd_iinc4 (pc := 1220) d_L_law_1220 rfl (rd_goto (pc := 1223) (tgt := 23) d_L_law_1223 rfl (ih _ (by omega) (i + 6) (n0 + 1) n2 nt2 o2 M2 rfl (by omega) (by omega) h2)))
      by_cases q40_16 : z = 16
      · skip
        refine rd_tswI (pc := 40) (c := 16) (off := 1116) (tgt := 1156) d_L_law_40 q40_16 rfl (by decide) (by decide) rfl rfl ?_
        exact lw_year hx h (by omega) i0 (by omega) (fun M2 n2 nt2 o2 h2 => rd_iinc4 (pc := 1220) d_L_law_1220 rfl (rd_goto (pc := 1223) (tgt := 23) d_L_law_1223 rfl (ih _ (by omega) (i + 6) (n0 + 1) n2 nt2 o2 M2 rfl (by omega) (by omega) h2)))
      refine rd_tswO (pc := 40) (tgt := 1220) d_L_law_40 ⟨by omega, by omega⟩ (by omega) rfl ?_
      refine rd_iinc4 (pc := 1220) d_L_law_1220 rfl ?_
      refine rd_goto (pc := 1223) (tgt := 23) d_L_law_1223 rfl ?_
      exact ih _ (by omega) (i + 6) n0 n nt o M rfl (by omega) (by omega) h
