/-! making the world: words, new arrays of a known kind, names of the constructors -/
def bw : List Cond := rd_ws.filter goodWord
theorem bw_m {w : Cond} (h : w ∈ rd_ws) (g : goodWord w = true := by rfl) : w ∈ bw := List.mem_filter.mpr ⟨h, g⟩
theorem bw_in : ∀ w ∈ bw, w ∈ rd_ws := fun w h => (List.mem_filter.mp h).1
theorem bw_gd : ∀ w ∈ bw, goodWord w = true := fun w h => (List.mem_filter.mp h).2
set_option maxRecDepth 100000 in
theorem bw_u0 : ∀ w ∈ u_ws "ReinsuranceDesk$Cession" rd_T0 13, w ∈ bw := fun w h => bw_m (rd_u0 w h) (List.all_eq_true.mp (by decide +kernel : (u_ws "ReinsuranceDesk$Cession" rd_T0 13).all goodWord = true) w h)
set_option maxRecDepth 100000 in
theorem bw_u1 : ∀ w ∈ u_ws "ReinsuranceDesk$Claims" rd_T1 7, w ∈ bw := fun w h => bw_m (rd_u1 w h) (List.all_eq_true.mp (by decide +kernel : (u_ws "ReinsuranceDesk$Claims" rd_T1 7).all goodWord = true) w h)
set_option maxRecDepth 100000 in
theorem bw_u2 : ∀ w ∈ u_ws "ReinsuranceDesk$Risks" rd_T2 3, w ∈ bw := fun w h => bw_m (rd_u2 w h) (List.all_eq_true.mp (by decide +kernel : (u_ws "ReinsuranceDesk$Risks" rd_T2 3).all goodWord = true) w h)
set_option maxRecDepth 100000 in
theorem bw_u3 : ∀ w ∈ u_ws "ReinsuranceDesk$Treaties" rd_T3 8, w ∈ bw := fun w h => bw_m (rd_u3 w h) (List.all_eq_true.mp (by decide +kernel : (u_ws "ReinsuranceDesk$Treaties" rd_T3 8).all goodWord = true) w h)
set_option maxRecDepth 100000 in
theorem bw_u4 : ∀ w ∈ u_ws "ReinsuranceDesk" rd_T4 6, w ∈ bw := fun w h => bw_m (rd_u4 w h) (List.all_eq_true.mp (by decide +kernel : (u_ws "ReinsuranceDesk" rd_T4 6).all goodWord = true) w h)
set_option maxRecDepth 100000 in
theorem bw_u5 : ∀ w ∈ u_ws "ReinsuranceDeskModel" rd_T5 30, w ∈ bw := fun w h => bw_m (rd_u5 w h) (List.all_eq_true.mp (by decide +kernel : (u_ws "ReinsuranceDeskModel" rd_T5 30).all goodWord = true) w h)
theorem bw_B {B : List Cond} (hB : B = bw) {w : Cond} (h : w ∈ bw) : w ∈ B := by rw [hB]; exact h
theorem bw_good {B : List Cond} (hB : B = bw) {y : MethodName} {b : ByteArray} {n : Nat} {ret : Option FieldType} {big : List Cond} (hc : Cond.code y b n ret ∈ bw) (hbig : ∀ w ∈ B, w ∈ big) : GoodIn big (Cond.code y b n ret :: B) := fun w hw => by
  rcases List.mem_cons.mp hw with rfl | h
  · exact ⟨hbig _ (bw_B hB hc), good_of_word (bw_gd _ hc)⟩
  · exact ⟨hbig _ h, good_of_word (bw_gd _ (by rw [← hB]; exact h))⟩
abbrev bI (cA : Nat → ClassId) (n : Nat) : va_E := .inl (cA 0, n, .inl (fun _ => Int32.ofInt 0))
abbrev bJ (cA : Nat → ClassId) (n : Nat) : va_E := .inl (cA 1, n, .inr (.inl (fun _ => Int64.ofInt 0)))
abbrev bZ (cA : Nat → ClassId) (n : Nat) : va_E := .inl (cA 2, n, .inl (fun _ => Int32.ofInt 0))
theorem b32 : Int32.ofInt 0 = 0 := by decide
theorem b64 : Int64.ofInt 0 = 0 := by decide
theorem bI_ha (n : Nat) (c : ClassId) : vp_cell c (n, .inl (fun _ => Int32.ofInt 0)) = arrV c n (fun _ => defaultValue .int) := by rw [b32]; rfl
theorem bZ_ha (n : Nat) (c : ClassId) : vp_cell c (n, .inl (fun _ => Int32.ofInt 0)) = arrV c n (fun _ => defaultValue .boolean) := by rw [b32]; rfl
theorem bJ_ha (n : Nat) (c : ClassId) : vp_cell c (n, .inr (.inl (fun _ => Int64.ofInt 0))) = arrV c n (fun _ => defaultValue .long) := by rw [b64]; rfl
theorem b0i : defaultValue .int = rd_i 0 := by unfold rd_i; rw [b32]; rfl
theorem b0l : defaultValue .long = rd_l 0 := by unfold rd_l; rw [b64]; rfl
section BdRows
variable {p : Program} {l : Launch} {e : Env} {R : Room} {s : State} {m : MethodId} {args : Array Value} {below : List Frame} {meth : Method} {c : Code} {H H0 : Heap} {locs : List Loc} {cells slots pc : Nat} {Q : State → Prop} {ls : Array Slot} {rest : List Value} {cc : ByteArray} {D : va_G} {cA : Nat → ClassId} {ws : va_W} {A : Nat → Prop}
/-- a new array: its class is the kind's -/
theorem bd_newa (hexec : p.tables.exec = Jvm.exec) (hb : c.code = cc) {atype : ArrayType} (harr : (Cond.arrayClass (newarray.typeOf atype)).before args s = true) {ty : FieldType} (hty : newarray.typeOf atype = ty) (k : Nat) (hk : (rd_ty cA)[k]? = some (cA k, ty)) (hRA : ∀ c9, va_RA s c9 ty → s.vm.findClass ("[" ++ ty.toString) = some c9) (hK : va_K D rd_CL (rd_ty cA) s) (hP : va_P D rd_CL ws H) (hD : va_D A ws) (hS : va_S A H0 H locs) (hA : ∀ q, H0.size ≤ q → A q)
    {n : Int32} {N' : Nat} {a0 : vp_A} (ha : ∀ cA : ClassId, vp_cell cA a0 = arrV cA N' (fun _ => defaultValue ty)) (hn : ¬ n < 0) (hN : n.toNatClampNeg = N') (hbytes : N' * componentBytes ty ≤ 536870912) (hcells : cells + 1 ≤ R.cells) (hslots : slots + N' ≤ R.slots) (hdg : decode cc pc = .ok (.newarray atype, 2))
    (kk : ∀ (q : Nat) (H1 : Heap), va_P D rd_CL (ws ++ [(q, .inl (cA k, a0))]) H1 → va_D A (ws ++ [(q, .inl (cA k, a0))]) → va_S A H0 H1 locs →
      W p l e R s m args below meth c H1 locs (cells + 1) (slots + N') Q (F0 m (pc + 2) ls (.ref q :: rest))) : W p l e R s m args below meth c H locs cells slots Q (F0 m pc ls (.int n :: rest)) := by
  refine va_newa hexec hb harr hty hK hP hD hS hA ha hn hN hbytes hcells hslots hdg (fun q c9 H1 hK1 hP1 hD1 hS1 => ?_)
  have h1 := hRA _ (hK.2 k _ hk).2
  have h2 := hRA _ (hK1.2 3 (c9, ty) rfl).2
  have e9 : c9 = cA k := Option.some.inj (h2.symm.trans h1)
  subst e9
  exact kk q H1 hP1 hD1 hS1
end BdRows
abbrev c_R_init : ByteArray := prog_4_method_1_code
def y_R_init : MethodName := ⟨"ReinsuranceDesk$Risks", "<init>", "()V"⟩
theorem wc_R_init : Cond.code y_R_init c_R_init 1 none ∈ bw := bw_m (rd_m 26 (by decide +kernel))
theorem d_R_init_0 : decode c_R_init 0 = .ok (.aload_n 0, 1) := by decide +kernel
theorem d_R_init_1 : decode c_R_init 1 = .ok (.invokespecial 3, 3) := by decide +kernel
theorem d_R_init_4 : decode c_R_init 4 = .ok (.aload_n 0, 1) := by decide +kernel
theorem d_R_init_5 : decode c_R_init 5 = .ok (.bipush 12, 2) := by decide +kernel
theorem d_R_init_7 : decode c_R_init 7 = .ok (.newarray .int, 2) := by decide +kernel
theorem d_R_init_9 : decode c_R_init 9 = .ok (.putfield 9, 3) := by decide +kernel
theorem d_R_init_12 : decode c_R_init 12 = .ok (.aload_n 0, 1) := by decide +kernel
theorem d_R_init_13 : decode c_R_init 13 = .ok (.bipush 12, 2) := by decide +kernel
theorem d_R_init_15 : decode c_R_init 15 = .ok (.newarray .int, 2) := by decide +kernel
theorem d_R_init_17 : decode c_R_init 17 = .ok (.putfield 15, 3) := by decide +kernel
theorem d_R_init_20 : decode c_R_init 20 = .ok (.aload_n 0, 1) := by decide +kernel
theorem d_R_init_21 : decode c_R_init 21 = .ok (.bipush 12, 2) := by decide +kernel
theorem d_R_init_23 : decode c_R_init 23 = .ok (.newarray .int, 2) := by decide +kernel
theorem d_R_init_25 : decode c_R_init 25 = .ok (.putfield 18, 3) := by decide +kernel
theorem d_R_init_28 : decode c_R_init 28 = .ok (.return_, 1) := by decide +kernel
abbrev c_C_init : ByteArray := prog_3_method_1_code
def y_C_init : MethodName := ⟨"ReinsuranceDesk$Claims", "<init>", "()V"⟩
theorem wc_C_init : Cond.code y_C_init c_C_init 1 none ∈ bw := bw_m (rd_m 49 (by decide +kernel))
theorem d_C_init_0 : decode c_C_init 0 = .ok (.aload_n 0, 1) := by decide +kernel
theorem d_C_init_1 : decode c_C_init 1 = .ok (.invokespecial 3, 3) := by decide +kernel
theorem d_C_init_4 : decode c_C_init 4 = .ok (.aload_n 0, 1) := by decide +kernel
theorem d_C_init_5 : decode c_C_init 5 = .ok (.bipush 40, 2) := by decide +kernel
theorem d_C_init_7 : decode c_C_init 7 = .ok (.newarray .int, 2) := by decide +kernel
theorem d_C_init_9 : decode c_C_init 9 = .ok (.putfield 9, 3) := by decide +kernel
theorem d_C_init_12 : decode c_C_init 12 = .ok (.aload_n 0, 1) := by decide +kernel
theorem d_C_init_13 : decode c_C_init 13 = .ok (.bipush 40, 2) := by decide +kernel
theorem d_C_init_15 : decode c_C_init 15 = .ok (.newarray .int, 2) := by decide +kernel
theorem d_C_init_17 : decode c_C_init 17 = .ok (.putfield 15, 3) := by decide +kernel
theorem d_C_init_20 : decode c_C_init 20 = .ok (.aload_n 0, 1) := by decide +kernel
theorem d_C_init_21 : decode c_C_init 21 = .ok (.bipush 40, 2) := by decide +kernel
theorem d_C_init_23 : decode c_C_init 23 = .ok (.newarray .int, 2) := by decide +kernel
theorem d_C_init_25 : decode c_C_init 25 = .ok (.putfield 18, 3) := by decide +kernel
theorem d_C_init_28 : decode c_C_init 28 = .ok (.aload_n 0, 1) := by decide +kernel
theorem d_C_init_29 : decode c_C_init 29 = .ok (.bipush 40, 2) := by decide +kernel
theorem d_C_init_31 : decode c_C_init 31 = .ok (.newarray .int, 2) := by decide +kernel
theorem d_C_init_33 : decode c_C_init 33 = .ok (.putfield 21, 3) := by decide +kernel
theorem d_C_init_36 : decode c_C_init 36 = .ok (.aload_n 0, 1) := by decide +kernel
theorem d_C_init_37 : decode c_C_init 37 = .ok (.bipush 40, 2) := by decide +kernel
theorem d_C_init_39 : decode c_C_init 39 = .ok (.newarray .boolean, 2) := by decide +kernel
theorem d_C_init_41 : decode c_C_init 41 = .ok (.putfield 24, 3) := by decide +kernel
theorem d_C_init_44 : decode c_C_init 44 = .ok (.aload_n 0, 1) := by decide +kernel
theorem d_C_init_45 : decode c_C_init 45 = .ok (.bipush 40, 2) := by decide +kernel
theorem d_C_init_47 : decode c_C_init 47 = .ok (.newarray .int, 2) := by decide +kernel
theorem d_C_init_49 : decode c_C_init 49 = .ok (.putfield 28, 3) := by decide +kernel
theorem d_C_init_52 : decode c_C_init 52 = .ok (.return_, 1) := by decide +kernel
abbrev c_T_init : ByteArray := prog_5_method_1_code
def y_T_init : MethodName := ⟨"ReinsuranceDesk$Treaties", "<init>", "()V"⟩
theorem wc_T_init : Cond.code y_T_init c_T_init 1 none ∈ bw := bw_m (rd_m 90 (by decide +kernel))
theorem d_T_init_0 : decode c_T_init 0 = .ok (.aload_n 0, 1) := by decide +kernel
theorem d_T_init_1 : decode c_T_init 1 = .ok (.invokespecial 3, 3) := by decide +kernel
theorem d_T_init_4 : decode c_T_init 4 = .ok (.aload_n 0, 1) := by decide +kernel
theorem d_T_init_5 : decode c_T_init 5 = .ok (.bipush 10, 2) := by decide +kernel
theorem d_T_init_7 : decode c_T_init 7 = .ok (.newarray .int, 2) := by decide +kernel
theorem d_T_init_9 : decode c_T_init 9 = .ok (.putfield 9, 3) := by decide +kernel
theorem d_T_init_12 : decode c_T_init 12 = .ok (.aload_n 0, 1) := by decide +kernel
theorem d_T_init_13 : decode c_T_init 13 = .ok (.bipush 10, 2) := by decide +kernel
theorem d_T_init_15 : decode c_T_init 15 = .ok (.newarray .int, 2) := by decide +kernel
theorem d_T_init_17 : decode c_T_init 17 = .ok (.putfield 15, 3) := by decide +kernel
theorem d_T_init_20 : decode c_T_init 20 = .ok (.aload_n 0, 1) := by decide +kernel
theorem d_T_init_21 : decode c_T_init 21 = .ok (.bipush 10, 2) := by decide +kernel
theorem d_T_init_23 : decode c_T_init 23 = .ok (.newarray .long, 2) := by decide +kernel
theorem d_T_init_25 : decode c_T_init 25 = .ok (.putfield 18, 3) := by decide +kernel
theorem d_T_init_28 : decode c_T_init 28 = .ok (.aload_n 0, 1) := by decide +kernel
theorem d_T_init_29 : decode c_T_init 29 = .ok (.bipush 10, 2) := by decide +kernel
theorem d_T_init_31 : decode c_T_init 31 = .ok (.newarray .long, 2) := by decide +kernel
theorem d_T_init_33 : decode c_T_init 33 = .ok (.putfield 22, 3) := by decide +kernel
theorem d_T_init_36 : decode c_T_init 36 = .ok (.aload_n 0, 1) := by decide +kernel
theorem d_T_init_37 : decode c_T_init 37 = .ok (.bipush 10, 2) := by decide +kernel
theorem d_T_init_39 : decode c_T_init 39 = .ok (.newarray .long, 2) := by decide +kernel
theorem d_T_init_41 : decode c_T_init 41 = .ok (.putfield 25, 3) := by decide +kernel
theorem d_T_init_44 : decode c_T_init 44 = .ok (.aload_n 0, 1) := by decide +kernel
theorem d_T_init_45 : decode c_T_init 45 = .ok (.bipush 10, 2) := by decide +kernel
theorem d_T_init_47 : decode c_T_init 47 = .ok (.newarray .long, 2) := by decide +kernel
theorem d_T_init_49 : decode c_T_init 49 = .ok (.putfield 28, 3) := by decide +kernel
theorem d_T_init_52 : decode c_T_init 52 = .ok (.aload_n 0, 1) := by decide +kernel
theorem d_T_init_53 : decode c_T_init 53 = .ok (.bipush 60, 2) := by decide +kernel
theorem d_T_init_55 : decode c_T_init 55 = .ok (.newarray .int, 2) := by decide +kernel
theorem d_T_init_57 : decode c_T_init 57 = .ok (.putfield 31, 3) := by decide +kernel
theorem d_T_init_60 : decode c_T_init 60 = .ok (.return_, 1) := by decide +kernel
abbrev c_S_init : ByteArray := prog_2_method_1_code
def y_S_init : MethodName := ⟨"ReinsuranceDesk$Cession", "<init>", "(LReinsuranceDesk$Risks;LReinsuranceDesk$Claims;LReinsuranceDesk$Treaties;)V"⟩
theorem wc_S_init : Cond.code y_S_init c_S_init 4 none ∈ bw := bw_m (rd_m 131 (by decide +kernel))
theorem d_S_init_0 : decode c_S_init 0 = .ok (.aload_n 0, 1) := by decide +kernel
theorem d_S_init_1 : decode c_S_init 1 = .ok (.invokespecial 3, 3) := by decide +kernel
theorem d_S_init_4 : decode c_S_init 4 = .ok (.aload_n 0, 1) := by decide +kernel
theorem d_S_init_5 : decode c_S_init 5 = .ok (.aload_n 1, 1) := by decide +kernel
theorem d_S_init_6 : decode c_S_init 6 = .ok (.putfield 9, 3) := by decide +kernel
theorem d_S_init_9 : decode c_S_init 9 = .ok (.aload_n 0, 1) := by decide +kernel
theorem d_S_init_10 : decode c_S_init 10 = .ok (.aload_n 2, 1) := by decide +kernel
theorem d_S_init_11 : decode c_S_init 11 = .ok (.putfield 15, 3) := by decide +kernel
theorem d_S_init_14 : decode c_S_init 14 = .ok (.aload_n 0, 1) := by decide +kernel
theorem d_S_init_15 : decode c_S_init 15 = .ok (.aload_n 3, 1) := by decide +kernel
theorem d_S_init_16 : decode c_S_init 16 = .ok (.putfield 19, 3) := by decide +kernel
theorem d_S_init_19 : decode c_S_init 19 = .ok (.aload_n 0, 1) := by decide +kernel
theorem d_S_init_20 : decode c_S_init 20 = .ok (.bipush 40, 2) := by decide +kernel
theorem d_S_init_22 : decode c_S_init 22 = .ok (.newarray .boolean, 2) := by decide +kernel
theorem d_S_init_24 : decode c_S_init 24 = .ok (.putfield 23, 3) := by decide +kernel
theorem d_S_init_27 : decode c_S_init 27 = .ok (.aload_n 0, 1) := by decide +kernel
theorem d_S_init_28 : decode c_S_init 28 = .ok (.bipush 40, 2) := by decide +kernel
theorem d_S_init_30 : decode c_S_init 30 = .ok (.newarray .int, 2) := by decide +kernel
theorem d_S_init_32 : decode c_S_init 32 = .ok (.putfield 27, 3) := by decide +kernel
theorem d_S_init_35 : decode c_S_init 35 = .ok (.aload_n 0, 1) := by decide +kernel
theorem d_S_init_36 : decode c_S_init 36 = .ok (.sipush 400, 3) := by decide +kernel
theorem d_S_init_39 : decode c_S_init 39 = .ok (.newarray .int, 2) := by decide +kernel
theorem d_S_init_41 : decode c_S_init 41 = .ok (.putfield 31, 3) := by decide +kernel
theorem d_S_init_44 : decode c_S_init 44 = .ok (.aload_n 0, 1) := by decide +kernel
theorem d_S_init_45 : decode c_S_init 45 = .ok (.bipush 10, 2) := by decide +kernel
theorem d_S_init_47 : decode c_S_init 47 = .ok (.newarray .long, 2) := by decide +kernel
theorem d_S_init_49 : decode c_S_init 49 = .ok (.putfield 34, 3) := by decide +kernel
theorem d_S_init_52 : decode c_S_init 52 = .ok (.aload_n 0, 1) := by decide +kernel
theorem d_S_init_53 : decode c_S_init 53 = .ok (.bipush 100, 2) := by decide +kernel
theorem d_S_init_55 : decode c_S_init 55 = .ok (.newarray .int, 2) := by decide +kernel
theorem d_S_init_57 : decode c_S_init 57 = .ok (.putfield 38, 3) := by decide +kernel
theorem d_S_init_60 : decode c_S_init 60 = .ok (.aload_n 0, 1) := by decide +kernel
theorem d_S_init_61 : decode c_S_init 61 = .ok (.bipush 12, 2) := by decide +kernel
theorem d_S_init_63 : decode c_S_init 63 = .ok (.newarray .long, 2) := by decide +kernel
theorem d_S_init_65 : decode c_S_init 65 = .ok (.putfield 41, 3) := by decide +kernel
theorem d_S_init_68 : decode c_S_init 68 = .ok (.aload_n 0, 1) := by decide +kernel
theorem d_S_init_69 : decode c_S_init 69 = .ok (.bipush 10, 2) := by decide +kernel
theorem d_S_init_71 : decode c_S_init 71 = .ok (.newarray .long, 2) := by decide +kernel
theorem d_S_init_73 : decode c_S_init 73 = .ok (.putfield 44, 3) := by decide +kernel
theorem d_S_init_76 : decode c_S_init 76 = .ok (.aload_n 0, 1) := by decide +kernel
theorem d_S_init_77 : decode c_S_init 77 = .ok (.bipush 40, 2) := by decide +kernel
theorem d_S_init_79 : decode c_S_init 79 = .ok (.newarray .int, 2) := by decide +kernel
theorem d_S_init_81 : decode c_S_init 81 = .ok (.putfield 47, 3) := by decide +kernel
theorem d_S_init_84 : decode c_S_init 84 = .ok (.aload_n 0, 1) := by decide +kernel
theorem d_S_init_85 : decode c_S_init 85 = .ok (.bipush 40, 2) := by decide +kernel
theorem d_S_init_87 : decode c_S_init 87 = .ok (.newarray .long, 2) := by decide +kernel
theorem d_S_init_89 : decode c_S_init 89 = .ok (.putfield 50, 3) := by decide +kernel
theorem d_S_init_92 : decode c_S_init 92 = .ok (.return_, 1) := by decide +kernel
abbrev c_D_init : ByteArray := prog_1_method_1_code
def y_D_init : MethodName := ⟨"ReinsuranceDesk", "<init>", "()V"⟩
theorem wc_D_init : Cond.code y_D_init c_D_init 1 none ∈ bw := bw_m (rd_m 18 (by decide +kernel))
theorem d_D_init_0 : decode c_D_init 0 = .ok (.aload_n 0, 1) := by decide +kernel
theorem d_D_init_1 : decode c_D_init 1 = .ok (.invokespecial 1, 3) := by decide +kernel
theorem d_D_init_4 : decode c_D_init 4 = .ok (.aload_n 0, 1) := by decide +kernel
theorem d_D_init_5 : decode c_D_init 5 = .ok (.new 7, 3) := by decide +kernel
theorem d_D_init_8 : decode c_D_init 8 = .ok (.dup, 1) := by decide +kernel
theorem d_D_init_9 : decode c_D_init 9 = .ok (.invokespecial 9, 3) := by decide +kernel
theorem d_D_init_12 : decode c_D_init 12 = .ok (.putfield 10, 3) := by decide +kernel
theorem d_D_init_15 : decode c_D_init 15 = .ok (.aload_n 0, 1) := by decide +kernel
theorem d_D_init_16 : decode c_D_init 16 = .ok (.new 16, 3) := by decide +kernel
theorem d_D_init_19 : decode c_D_init 19 = .ok (.dup, 1) := by decide +kernel
theorem d_D_init_20 : decode c_D_init 20 = .ok (.invokespecial 18, 3) := by decide +kernel
theorem d_D_init_23 : decode c_D_init 23 = .ok (.putfield 19, 3) := by decide +kernel
theorem d_D_init_26 : decode c_D_init 26 = .ok (.aload_n 0, 1) := by decide +kernel
theorem d_D_init_27 : decode c_D_init 27 = .ok (.new 23, 3) := by decide +kernel
theorem d_D_init_30 : decode c_D_init 30 = .ok (.dup, 1) := by decide +kernel
theorem d_D_init_31 : decode c_D_init 31 = .ok (.invokespecial 25, 3) := by decide +kernel
theorem d_D_init_34 : decode c_D_init 34 = .ok (.putfield 26, 3) := by decide +kernel
theorem d_D_init_37 : decode c_D_init 37 = .ok (.aload_n 0, 1) := by decide +kernel
theorem d_D_init_38 : decode c_D_init 38 = .ok (.new 30, 3) := by decide +kernel
theorem d_D_init_41 : decode c_D_init 41 = .ok (.dup, 1) := by decide +kernel
theorem d_D_init_42 : decode c_D_init 42 = .ok (.aload_n 0, 1) := by decide +kernel
theorem d_D_init_43 : decode c_D_init 43 = .ok (.getfield 10, 3) := by decide +kernel
theorem d_D_init_46 : decode c_D_init 46 = .ok (.aload_n 0, 1) := by decide +kernel
theorem d_D_init_47 : decode c_D_init 47 = .ok (.getfield 19, 3) := by decide +kernel
theorem d_D_init_50 : decode c_D_init 50 = .ok (.aload_n 0, 1) := by decide +kernel
theorem d_D_init_51 : decode c_D_init 51 = .ok (.getfield 26, 3) := by decide +kernel
theorem d_D_init_54 : decode c_D_init 54 = .ok (.invokespecial 32, 3) := by decide +kernel
theorem d_D_init_57 : decode c_D_init 57 = .ok (.putfield 35, 3) := by decide +kernel
theorem d_D_init_60 : decode c_D_init 60 = .ok (.aload_n 0, 1) := by decide +kernel
theorem d_D_init_61 : decode c_D_init 61 = .ok (.iconst 4, 1) := by decide +kernel
theorem d_D_init_62 : decode c_D_init 62 = .ok (.newarray .boolean, 2) := by decide +kernel
theorem d_D_init_64 : decode c_D_init 64 = .ok (.putfield 39, 3) := by decide +kernel
theorem d_D_init_67 : decode c_D_init 67 = .ok (.aload_n 0, 1) := by decide +kernel
theorem d_D_init_68 : decode c_D_init 68 = .ok (.bipush 6, 2) := by decide +kernel
theorem d_D_init_70 : decode c_D_init 70 = .ok (.newarray .long, 2) := by decide +kernel
theorem d_D_init_72 : decode c_D_init 72 = .ok (.putfield 43, 3) := by decide +kernel
theorem d_D_init_75 : decode c_D_init 75 = .ok (.return_, 1) := by decide +kernel
abbrev c_M_init : ByteArray := prog_7_method_1_code
def y_M_init : MethodName := ⟨"ReinsuranceDeskModel", "<init>", "()V"⟩
theorem wc_M_init : Cond.code y_M_init c_M_init 1 none ∈ bw := bw_m (rd_m 612 (by decide +kernel))
theorem d_M_init_0 : decode c_M_init 0 = .ok (.aload_n 0, 1) := by decide +kernel
theorem d_M_init_1 : decode c_M_init 1 = .ok (.invokespecial 1, 3) := by decide +kernel
theorem d_M_init_4 : decode c_M_init 4 = .ok (.aload_n 0, 1) := by decide +kernel
theorem d_M_init_5 : decode c_M_init 5 = .ok (.bipush 12, 2) := by decide +kernel
theorem d_M_init_7 : decode c_M_init 7 = .ok (.newarray .int, 2) := by decide +kernel
theorem d_M_init_9 : decode c_M_init 9 = .ok (.putfield 7, 3) := by decide +kernel
theorem d_M_init_12 : decode c_M_init 12 = .ok (.aload_n 0, 1) := by decide +kernel
theorem d_M_init_13 : decode c_M_init 13 = .ok (.bipush 12, 2) := by decide +kernel
theorem d_M_init_15 : decode c_M_init 15 = .ok (.newarray .int, 2) := by decide +kernel
theorem d_M_init_17 : decode c_M_init 17 = .ok (.putfield 13, 3) := by decide +kernel
theorem d_M_init_20 : decode c_M_init 20 = .ok (.aload_n 0, 1) := by decide +kernel
theorem d_M_init_21 : decode c_M_init 21 = .ok (.bipush 12, 2) := by decide +kernel
theorem d_M_init_23 : decode c_M_init 23 = .ok (.newarray .int, 2) := by decide +kernel
theorem d_M_init_25 : decode c_M_init 25 = .ok (.putfield 16, 3) := by decide +kernel
theorem d_M_init_28 : decode c_M_init 28 = .ok (.aload_n 0, 1) := by decide +kernel
theorem d_M_init_29 : decode c_M_init 29 = .ok (.bipush 40, 2) := by decide +kernel
theorem d_M_init_31 : decode c_M_init 31 = .ok (.newarray .int, 2) := by decide +kernel
theorem d_M_init_33 : decode c_M_init 33 = .ok (.putfield 19, 3) := by decide +kernel
theorem d_M_init_36 : decode c_M_init 36 = .ok (.aload_n 0, 1) := by decide +kernel
theorem d_M_init_37 : decode c_M_init 37 = .ok (.bipush 40, 2) := by decide +kernel
theorem d_M_init_39 : decode c_M_init 39 = .ok (.newarray .int, 2) := by decide +kernel
theorem d_M_init_41 : decode c_M_init 41 = .ok (.putfield 22, 3) := by decide +kernel
theorem d_M_init_44 : decode c_M_init 44 = .ok (.aload_n 0, 1) := by decide +kernel
theorem d_M_init_45 : decode c_M_init 45 = .ok (.bipush 40, 2) := by decide +kernel
theorem d_M_init_47 : decode c_M_init 47 = .ok (.newarray .int, 2) := by decide +kernel
theorem d_M_init_49 : decode c_M_init 49 = .ok (.putfield 25, 3) := by decide +kernel
theorem d_M_init_52 : decode c_M_init 52 = .ok (.aload_n 0, 1) := by decide +kernel
theorem d_M_init_53 : decode c_M_init 53 = .ok (.bipush 40, 2) := by decide +kernel
theorem d_M_init_55 : decode c_M_init 55 = .ok (.newarray .int, 2) := by decide +kernel
theorem d_M_init_57 : decode c_M_init 57 = .ok (.putfield 28, 3) := by decide +kernel
theorem d_M_init_60 : decode c_M_init 60 = .ok (.aload_n 0, 1) := by decide +kernel
theorem d_M_init_61 : decode c_M_init 61 = .ok (.bipush 40, 2) := by decide +kernel
theorem d_M_init_63 : decode c_M_init 63 = .ok (.newarray .boolean, 2) := by decide +kernel
theorem d_M_init_65 : decode c_M_init 65 = .ok (.putfield 31, 3) := by decide +kernel
theorem d_M_init_68 : decode c_M_init 68 = .ok (.aload_n 0, 1) := by decide +kernel
theorem d_M_init_69 : decode c_M_init 69 = .ok (.bipush 10, 2) := by decide +kernel
theorem d_M_init_71 : decode c_M_init 71 = .ok (.newarray .int, 2) := by decide +kernel
theorem d_M_init_73 : decode c_M_init 73 = .ok (.putfield 35, 3) := by decide +kernel
theorem d_M_init_76 : decode c_M_init 76 = .ok (.aload_n 0, 1) := by decide +kernel
theorem d_M_init_77 : decode c_M_init 77 = .ok (.bipush 10, 2) := by decide +kernel
theorem d_M_init_79 : decode c_M_init 79 = .ok (.newarray .int, 2) := by decide +kernel
theorem d_M_init_81 : decode c_M_init 81 = .ok (.putfield 38, 3) := by decide +kernel
theorem d_M_init_84 : decode c_M_init 84 = .ok (.aload_n 0, 1) := by decide +kernel
theorem d_M_init_85 : decode c_M_init 85 = .ok (.bipush 10, 2) := by decide +kernel
theorem d_M_init_87 : decode c_M_init 87 = .ok (.newarray .int, 2) := by decide +kernel
theorem d_M_init_89 : decode c_M_init 89 = .ok (.putfield 41, 3) := by decide +kernel
theorem d_M_init_92 : decode c_M_init 92 = .ok (.aload_n 0, 1) := by decide +kernel
theorem d_M_init_93 : decode c_M_init 93 = .ok (.bipush 10, 2) := by decide +kernel
theorem d_M_init_95 : decode c_M_init 95 = .ok (.newarray .int, 2) := by decide +kernel
theorem d_M_init_97 : decode c_M_init 97 = .ok (.putfield 44, 3) := by decide +kernel
theorem d_M_init_100 : decode c_M_init 100 = .ok (.aload_n 0, 1) := by decide +kernel
theorem d_M_init_101 : decode c_M_init 101 = .ok (.bipush 10, 2) := by decide +kernel
theorem d_M_init_103 : decode c_M_init 103 = .ok (.newarray .int, 2) := by decide +kernel
theorem d_M_init_105 : decode c_M_init 105 = .ok (.putfield 47, 3) := by decide +kernel
theorem d_M_init_108 : decode c_M_init 108 = .ok (.aload_n 0, 1) := by decide +kernel
theorem d_M_init_109 : decode c_M_init 109 = .ok (.bipush 60, 2) := by decide +kernel
theorem d_M_init_111 : decode c_M_init 111 = .ok (.newarray .int, 2) := by decide +kernel
theorem d_M_init_113 : decode c_M_init 113 = .ok (.putfield 50, 3) := by decide +kernel
theorem d_M_init_116 : decode c_M_init 116 = .ok (.aload_n 0, 1) := by decide +kernel
theorem d_M_init_117 : decode c_M_init 117 = .ok (.bipush 6, 2) := by decide +kernel
theorem d_M_init_119 : decode c_M_init 119 = .ok (.newarray .long, 2) := by decide +kernel
theorem d_M_init_121 : decode c_M_init 121 = .ok (.putfield 53, 3) := by decide +kernel
theorem d_M_init_124 : decode c_M_init 124 = .ok (.aload_n 0, 1) := by decide +kernel
theorem d_M_init_125 : decode c_M_init 125 = .ok (.iconst 4, 1) := by decide +kernel
theorem d_M_init_126 : decode c_M_init 126 = .ok (.newarray .boolean, 2) := by decide +kernel
theorem d_M_init_128 : decode c_M_init 128 = .ok (.putfield 57, 3) := by decide +kernel
theorem d_M_init_131 : decode c_M_init 131 = .ok (.aload_n 0, 1) := by decide +kernel
theorem d_M_init_132 : decode c_M_init 132 = .ok (.bipush 40, 2) := by decide +kernel
theorem d_M_init_134 : decode c_M_init 134 = .ok (.newarray .long, 2) := by decide +kernel
theorem d_M_init_136 : decode c_M_init 136 = .ok (.putfield 60, 3) := by decide +kernel
theorem d_M_init_139 : decode c_M_init 139 = .ok (.aload_n 0, 1) := by decide +kernel
theorem d_M_init_140 : decode c_M_init 140 = .ok (.sipush 400, 3) := by decide +kernel
theorem d_M_init_143 : decode c_M_init 143 = .ok (.newarray .long, 2) := by decide +kernel
theorem d_M_init_145 : decode c_M_init 145 = .ok (.putfield 63, 3) := by decide +kernel
theorem d_M_init_148 : decode c_M_init 148 = .ok (.aload_n 0, 1) := by decide +kernel
theorem d_M_init_149 : decode c_M_init 149 = .ok (.bipush 10, 2) := by decide +kernel
theorem d_M_init_151 : decode c_M_init 151 = .ok (.newarray .long, 2) := by decide +kernel
theorem d_M_init_153 : decode c_M_init 153 = .ok (.putfield 66, 3) := by decide +kernel
theorem d_M_init_156 : decode c_M_init 156 = .ok (.aload_n 0, 1) := by decide +kernel
theorem d_M_init_157 : decode c_M_init 157 = .ok (.bipush 10, 2) := by decide +kernel
theorem d_M_init_159 : decode c_M_init 159 = .ok (.newarray .long, 2) := by decide +kernel
theorem d_M_init_161 : decode c_M_init 161 = .ok (.putfield 69, 3) := by decide +kernel
theorem d_M_init_164 : decode c_M_init 164 = .ok (.aload_n 0, 1) := by decide +kernel
theorem d_M_init_165 : decode c_M_init 165 = .ok (.bipush 100, 2) := by decide +kernel
theorem d_M_init_167 : decode c_M_init 167 = .ok (.newarray .int, 2) := by decide +kernel
theorem d_M_init_169 : decode c_M_init 169 = .ok (.putfield 72, 3) := by decide +kernel
theorem d_M_init_172 : decode c_M_init 172 = .ok (.aload_n 0, 1) := by decide +kernel
theorem d_M_init_173 : decode c_M_init 173 = .ok (.bipush 12, 2) := by decide +kernel
theorem d_M_init_175 : decode c_M_init 175 = .ok (.newarray .long, 2) := by decide +kernel
theorem d_M_init_177 : decode c_M_init 177 = .ok (.putfield 75, 3) := by decide +kernel
theorem d_M_init_180 : decode c_M_init 180 = .ok (.aload_n 0, 1) := by decide +kernel
theorem d_M_init_181 : decode c_M_init 181 = .ok (.bipush 40, 2) := by decide +kernel
theorem d_M_init_183 : decode c_M_init 183 = .ok (.newarray .boolean, 2) := by decide +kernel
theorem d_M_init_185 : decode c_M_init 185 = .ok (.putfield 78, 3) := by decide +kernel
theorem d_M_init_188 : decode c_M_init 188 = .ok (.aload_n 0, 1) := by decide +kernel
theorem d_M_init_189 : decode c_M_init 189 = .ok (.bipush 40, 2) := by decide +kernel
theorem d_M_init_191 : decode c_M_init 191 = .ok (.newarray .long, 2) := by decide +kernel
theorem d_M_init_193 : decode c_M_init 193 = .ok (.putfield 81, 3) := by decide +kernel
theorem d_M_init_196 : decode c_M_init 196 = .ok (.aload_n 0, 1) := by decide +kernel
theorem d_M_init_197 : decode c_M_init 197 = .ok (.bipush 40, 2) := by decide +kernel
theorem d_M_init_199 : decode c_M_init 199 = .ok (.newarray .int, 2) := by decide +kernel
theorem d_M_init_201 : decode c_M_init 201 = .ok (.putfield 84, 3) := by decide +kernel
theorem d_M_init_204 : decode c_M_init 204 = .ok (.return_, 1) := by decide +kernel
theorem bw_obj : Cond.code objectInit ⟨#[0xb1]⟩ 1 none ∈ bw := bw_m (rd_m 21 (by decide +kernel))
