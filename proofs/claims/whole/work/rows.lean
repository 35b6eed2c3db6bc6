section
-- ===== PART A: goes FIRST, ahead of the names: the tables' words, and 'selects' of the private methods out of them =====
/-- a private method of a class that the tables say can be made, by its rows of tables_1 -/
def lw_okq (q : MethodName × Nat) : Prop := (q.1.cls ≠ "java/lang/invoke/MethodHandle" ∧ q.1.cls ≠ "java/lang/invoke/VarHandle") ∧ Cond.instantiable q.1.cls q.2 ∈ tables_1 ∧ Cond.privateMethod q.1 ∈ tables_1 ∧ Cond.instanceMethod q.1 ∈ tables_1
theorem lw_p0 : lw_okq (⟨"java/lang/Throwable", "fillInStackTrace", "(I)Ljava/lang/Throwable;"⟩, 6) := ⟨⟨by decide +kernel, by decide +kernel⟩, List.mem_of_getElem? (i := 251) (by decide +kernel), List.mem_of_getElem? (i := 249) (by decide +kernel), List.mem_of_getElem? (i := 250) (by decide +kernel)⟩
theorem lw_p1 : lw_okq (⟨"ReinsuranceDesk$Claims", "placeByHour", "(I)V"⟩, 7) := ⟨⟨by decide +kernel, by decide +kernel⟩, List.mem_of_getElem? (i := 46) (by decide +kernel), List.mem_of_getElem? (i := 364) (by decide +kernel), List.mem_of_getElem? (i := 365) (by decide +kernel)⟩
theorem lw_p2 : lw_okq (⟨"ReinsuranceDesk", "yearOfClaim", "(I)I"⟩, 6) := ⟨⟨by decide +kernel, by decide +kernel⟩, List.mem_of_getElem? (i := 15) (by decide +kernel), List.mem_of_getElem? (i := 380) (by decide +kernel), List.mem_of_getElem? (i := 381) (by decide +kernel)⟩
theorem lw_p3 : lw_okq (⟨"ReinsuranceDesk$Cession", "begin", "(I)V"⟩, 13) := ⟨⟨by decide +kernel, by decide +kernel⟩, List.mem_of_getElem? (i := 128) (by decide +kernel), List.mem_of_getElem? (i := 412) (by decide +kernel), List.mem_of_getElem? (i := 413) (by decide +kernel)⟩
theorem lw_p4 : lw_okq (⟨"ReinsuranceDesk$Cession", "cedeYear", "(I)V"⟩, 13) := ⟨⟨by decide +kernel, by decide +kernel⟩, List.mem_of_getElem? (i := 128) (by decide +kernel), List.mem_of_getElem? (i := 422) (by decide +kernel), List.mem_of_getElem? (i := 423) (by decide +kernel)⟩
theorem lw_p5 : lw_okq (⟨"ReinsuranceDesk$Cession", "cedeTo", "(I)V"⟩, 13) := ⟨⟨by decide +kernel, by decide +kernel⟩, List.mem_of_getElem? (i := 128) (by decide +kernel), List.mem_of_getElem? (i := 426) (by decide +kernel), List.mem_of_getElem? (i := 427) (by decide +kernel)⟩
theorem lw_p6 : lw_okq (⟨"ReinsuranceDesk$Cession", "cedePremiums", "(I)V"⟩, 13) := ⟨⟨by decide +kernel, by decide +kernel⟩, List.mem_of_getElem? (i := 128) (by decide +kernel), List.mem_of_getElem? (i := 430) (by decide +kernel), List.mem_of_getElem? (i := 431) (by decide +kernel)⟩
theorem lw_p7 : lw_okq (⟨"ReinsuranceDesk$Cession", "cedePartOfEachClaim", "(I)V"⟩, 13) := ⟨⟨by decide +kernel, by decide +kernel⟩, List.mem_of_getElem? (i := 128) (by decide +kernel), List.mem_of_getElem? (i := 446) (by decide +kernel), List.mem_of_getElem? (i := 447) (by decide +kernel)⟩
theorem lw_p8 : lw_okq (⟨"ReinsuranceDesk$Cession", "take", "(IIJ)V"⟩, 13) := ⟨⟨by decide +kernel, by decide +kernel⟩, List.mem_of_getElem? (i := 128) (by decide +kernel), List.mem_of_getElem? (i := 450) (by decide +kernel), List.mem_of_getElem? (i := 451) (by decide +kernel)⟩
theorem lw_p9 : lw_okq (⟨"ReinsuranceDesk$Cession", "cedeExcessOfEachClaim", "(I)V"⟩, 13) := ⟨⟨by decide +kernel, by decide +kernel⟩, List.mem_of_getElem? (i := 128) (by decide +kernel), List.mem_of_getElem? (i := 454) (by decide +kernel), List.mem_of_getElem? (i := 455) (by decide +kernel)⟩
theorem lw_p10 : lw_okq (⟨"ReinsuranceDesk$Cession", "cedeExcessOfEachEvent", "(I)V"⟩, 13) := ⟨⟨by decide +kernel, by decide +kernel⟩, List.mem_of_getElem? (i := 128) (by decide +kernel), List.mem_of_getElem? (i := 470) (by decide +kernel), List.mem_of_getElem? (i := 471) (by decide +kernel)⟩
theorem lw_p11 : lw_okq (⟨"ReinsuranceDesk$Cession", "gatherEvent", "(I)V"⟩, 13) := ⟨⟨by decide +kernel, by decide +kernel⟩, List.mem_of_getElem? (i := 128) (by decide +kernel), List.mem_of_getElem? (i := 474) (by decide +kernel), List.mem_of_getElem? (i := 475) (by decide +kernel)⟩
theorem lw_p12 : lw_okq (⟨"ReinsuranceDesk$Cession", "startOfWindow", "()I"⟩, 13) := ⟨⟨by decide +kernel, by decide +kernel⟩, List.mem_of_getElem? (i := 128) (by decide +kernel), List.mem_of_getElem? (i := 478) (by decide +kernel), List.mem_of_getElem? (i := 479) (by decide +kernel)⟩
theorem lw_p13 : lw_okq (⟨"ReinsuranceDesk$Cession", "keptFrom", "(I)J"⟩, 13) := ⟨⟨by decide +kernel, by decide +kernel⟩, List.mem_of_getElem? (i := 128) (by decide +kernel), List.mem_of_getElem? (i := 483) (by decide +kernel), List.mem_of_getElem? (i := 484) (by decide +kernel)⟩
theorem lw_p14 : lw_okq (⟨"ReinsuranceDesk$Cession", "dropOutside", "(I)V"⟩, 13) := ⟨⟨by decide +kernel, by decide +kernel⟩, List.mem_of_getElem? (i := 128) (by decide +kernel), List.mem_of_getElem? (i := 487) (by decide +kernel), List.mem_of_getElem? (i := 488) (by decide +kernel)⟩
theorem lw_p15 : lw_okq (⟨"ReinsuranceDesk$Cession", "takeByParts", "(IJJ)V"⟩, 13) := ⟨⟨by decide +kernel, by decide +kernel⟩, List.mem_of_getElem? (i := 128) (by decide +kernel), List.mem_of_getElem? (i := 491) (by decide +kernel), List.mem_of_getElem? (i := 492) (by decide +kernel)⟩
def lw_privs_1 : List (MethodName × Nat) := [(⟨"java/lang/Throwable", "fillInStackTrace", "(I)Ljava/lang/Throwable;"⟩, 6), (⟨"ReinsuranceDesk$Claims", "placeByHour", "(I)V"⟩, 7), (⟨"ReinsuranceDesk", "yearOfClaim", "(I)I"⟩, 6), (⟨"ReinsuranceDesk$Cession", "begin", "(I)V"⟩, 13), (⟨"ReinsuranceDesk$Cession", "cedeYear", "(I)V"⟩, 13), (⟨"ReinsuranceDesk$Cession", "cedeTo", "(I)V"⟩, 13), (⟨"ReinsuranceDesk$Cession", "cedePremiums", "(I)V"⟩, 13), (⟨"ReinsuranceDesk$Cession", "cedePartOfEachClaim", "(I)V"⟩, 13), (⟨"ReinsuranceDesk$Cession", "take", "(IIJ)V"⟩, 13), (⟨"ReinsuranceDesk$Cession", "cedeExcessOfEachClaim", "(I)V"⟩, 13), (⟨"ReinsuranceDesk$Cession", "cedeExcessOfEachEvent", "(I)V"⟩, 13), (⟨"ReinsuranceDesk$Cession", "gatherEvent", "(I)V"⟩, 13), (⟨"ReinsuranceDesk$Cession", "startOfWindow", "()I"⟩, 13), (⟨"ReinsuranceDesk$Cession", "keptFrom", "(I)J"⟩, 13), (⟨"ReinsuranceDesk$Cession", "dropOutside", "(I)V"⟩, 13), (⟨"ReinsuranceDesk$Cession", "takeByParts", "(IJJ)V"⟩, 13)]
theorem lw_r1 : ∀ q ∈ lw_privs_1, lw_okq q := List.forall_mem_cons.mpr ⟨lw_p0, List.forall_mem_cons.mpr ⟨lw_p1, List.forall_mem_cons.mpr ⟨lw_p2, List.forall_mem_cons.mpr ⟨lw_p3, List.forall_mem_cons.mpr ⟨lw_p4, List.forall_mem_cons.mpr ⟨lw_p5, List.forall_mem_cons.mpr ⟨lw_p6, List.forall_mem_cons.mpr ⟨lw_p7, List.forall_mem_cons.mpr ⟨lw_p8, List.forall_mem_cons.mpr ⟨lw_p9, List.forall_mem_cons.mpr ⟨lw_p10, List.forall_mem_cons.mpr ⟨lw_p11, List.forall_mem_cons.mpr ⟨lw_p12, List.forall_mem_cons.mpr ⟨lw_p13, List.forall_mem_cons.mpr ⟨lw_p14, List.forall_mem_cons.mpr ⟨lw_p15, fun _ h => absurd h List.not_mem_nil⟩⟩⟩⟩⟩⟩⟩⟩⟩⟩⟩⟩⟩⟩⟩⟩
theorem lw_p16 : lw_okq (⟨"ReinsuranceDesk$Cession", "greatestRemainder", "()I"⟩, 13) := ⟨⟨by decide +kernel, by decide +kernel⟩, List.mem_of_getElem? (i := 128) (by decide +kernel), List.mem_of_getElem? (i := 495) (by decide +kernel), List.mem_of_getElem? (i := 496) (by decide +kernel)⟩
theorem lw_p17 : lw_okq (⟨"ReinsuranceDesk$Cession", "cedeStopLoss", "(I)V"⟩, 13) := ⟨⟨by decide +kernel, by decide +kernel⟩, List.mem_of_getElem? (i := 128) (by decide +kernel), List.mem_of_getElem? (i := 499) (by decide +kernel), List.mem_of_getElem? (i := 500) (by decide +kernel)⟩
theorem lw_p18 : lw_okq (⟨"ReinsuranceDeskModel", "throwing", "(ZZ)Z"⟩, 30) := ⟨⟨by decide +kernel, by decide +kernel⟩, List.mem_of_getElem? (i := 609) (by decide +kernel), List.mem_of_getElem? (i := 720) (by decide +kernel), List.mem_of_getElem? (i := 721) (by decide +kernel)⟩
theorem lw_p19 : lw_okq (⟨"ReinsuranceDeskModel", "isRisk", "(I)Z"⟩, 30) := ⟨⟨by decide +kernel, by decide +kernel⟩, List.mem_of_getElem? (i := 609) (by decide +kernel), List.mem_of_getElem? (i := 728) (by decide +kernel), List.mem_of_getElem? (i := 729) (by decide +kernel)⟩
theorem lw_p20 : lw_okq (⟨"ReinsuranceDeskModel", "isTreaty", "(I)Z"⟩, 30) := ⟨⟨by decide +kernel, by decide +kernel⟩, List.mem_of_getElem? (i := 609) (by decide +kernel), List.mem_of_getElem? (i := 747) (by decide +kernel), List.mem_of_getElem? (i := 748) (by decide +kernel)⟩
theorem lw_p21 : lw_okq (⟨"ReinsuranceDeskModel", "treatyYear", "(I)I"⟩, 30) := ⟨⟨by decide +kernel, by decide +kernel⟩, List.mem_of_getElem? (i := 609) (by decide +kernel), List.mem_of_getElem? (i := 751) (by decide +kernel), List.mem_of_getElem? (i := 752) (by decide +kernel)⟩
theorem lw_p22 : lw_okq (⟨"ReinsuranceDeskModel", "isClaim", "(I)Z"⟩, 30) := ⟨⟨by decide +kernel, by decide +kernel⟩, List.mem_of_getElem? (i := 609) (by decide +kernel), List.mem_of_getElem? (i := 765) (by decide +kernel), List.mem_of_getElem? (i := 766) (by decide +kernel)⟩
theorem lw_p23 : lw_okq (⟨"ReinsuranceDeskModel", "claimYear", "(I)I"⟩, 30) := ⟨⟨by decide +kernel, by decide +kernel⟩, List.mem_of_getElem? (i := 609) (by decide +kernel), List.mem_of_getElem? (i := 769) (by decide +kernel), List.mem_of_getElem? (i := 770) (by decide +kernel)⟩
theorem lw_p24 : lw_okq (⟨"ReinsuranceDeskModel", "reckon", "()V"⟩, 30) := ⟨⟨by decide +kernel, by decide +kernel⟩, List.mem_of_getElem? (i := 609) (by decide +kernel), List.mem_of_getElem? (i := 789) (by decide +kernel), List.mem_of_getElem? (i := 790) (by decide +kernel)⟩
theorem lw_p25 : lw_okq (⟨"ReinsuranceDeskModel", "kindOf", "(I)I"⟩, 30) := ⟨⟨by decide +kernel, by decide +kernel⟩, List.mem_of_getElem? (i := 609) (by decide +kernel), List.mem_of_getElem? (i := 793) (by decide +kernel), List.mem_of_getElem? (i := 794) (by decide +kernel)⟩
theorem lw_p26 : lw_okq (⟨"ReinsuranceDeskModel", "apply", "(I)V"⟩, 30) := ⟨⟨by decide +kernel, by decide +kernel⟩, List.mem_of_getElem? (i := 609) (by decide +kernel), List.mem_of_getElem? (i := 797) (by decide +kernel), List.mem_of_getElem? (i := 798) (by decide +kernel)⟩
theorem lw_p27 : lw_okq (⟨"ReinsuranceDeskModel", "counts", "(II)Z"⟩, 30) := ⟨⟨by decide +kernel, by decide +kernel⟩, List.mem_of_getElem? (i := 609) (by decide +kernel), List.mem_of_getElem? (i := 801) (by decide +kernel), List.mem_of_getElem? (i := 802) (by decide +kernel)⟩
theorem lw_p28 : lw_okq (⟨"ReinsuranceDeskModel", "partOf", "(II)J"⟩, 30) := ⟨⟨by decide +kernel, by decide +kernel⟩, List.mem_of_getElem? (i := 609) (by decide +kernel), List.mem_of_getElem? (i := 805) (by decide +kernel), List.mem_of_getElem? (i := 806) (by decide +kernel)⟩
theorem lw_p29 : lw_okq (⟨"ReinsuranceDeskModel", "take", "(IIJ)V"⟩, 30) := ⟨⟨by decide +kernel, by decide +kernel⟩, List.mem_of_getElem? (i := 609) (by decide +kernel), List.mem_of_getElem? (i := 809) (by decide +kernel), List.mem_of_getElem? (i := 810) (by decide +kernel)⟩
theorem lw_p30 : lw_okq (⟨"ReinsuranceDeskModel", "excessOfRisks", "(I)V"⟩, 30) := ⟨⟨by decide +kernel, by decide +kernel⟩, List.mem_of_getElem? (i := 609) (by decide +kernel), List.mem_of_getElem? (i := 813) (by decide +kernel), List.mem_of_getElem? (i := 814) (by decide +kernel)⟩
theorem lw_p31 : lw_okq (⟨"ReinsuranceDeskModel", "allowed", "(IJ)J"⟩, 30) := ⟨⟨by decide +kernel, by decide +kernel⟩, List.mem_of_getElem? (i := 609) (by decide +kernel), List.mem_of_getElem? (i := 820) (by decide +kernel), List.mem_of_getElem? (i := 821) (by decide +kernel)⟩
def lw_privs_2 : List (MethodName × Nat) := [(⟨"ReinsuranceDesk$Cession", "greatestRemainder", "()I"⟩, 13), (⟨"ReinsuranceDesk$Cession", "cedeStopLoss", "(I)V"⟩, 13), (⟨"ReinsuranceDeskModel", "throwing", "(ZZ)Z"⟩, 30), (⟨"ReinsuranceDeskModel", "isRisk", "(I)Z"⟩, 30), (⟨"ReinsuranceDeskModel", "isTreaty", "(I)Z"⟩, 30), (⟨"ReinsuranceDeskModel", "treatyYear", "(I)I"⟩, 30), (⟨"ReinsuranceDeskModel", "isClaim", "(I)Z"⟩, 30), (⟨"ReinsuranceDeskModel", "claimYear", "(I)I"⟩, 30), (⟨"ReinsuranceDeskModel", "reckon", "()V"⟩, 30), (⟨"ReinsuranceDeskModel", "kindOf", "(I)I"⟩, 30), (⟨"ReinsuranceDeskModel", "apply", "(I)V"⟩, 30), (⟨"ReinsuranceDeskModel", "counts", "(II)Z"⟩, 30), (⟨"ReinsuranceDeskModel", "partOf", "(II)J"⟩, 30), (⟨"ReinsuranceDeskModel", "take", "(IIJ)V"⟩, 30), (⟨"ReinsuranceDeskModel", "excessOfRisks", "(I)V"⟩, 30), (⟨"ReinsuranceDeskModel", "allowed", "(IJ)J"⟩, 30)]
theorem lw_r2 : ∀ q ∈ lw_privs_2, lw_okq q := List.forall_mem_cons.mpr ⟨lw_p16, List.forall_mem_cons.mpr ⟨lw_p17, List.forall_mem_cons.mpr ⟨lw_p18, List.forall_mem_cons.mpr ⟨lw_p19, List.forall_mem_cons.mpr ⟨lw_p20, List.forall_mem_cons.mpr ⟨lw_p21, List.forall_mem_cons.mpr ⟨lw_p22, List.forall_mem_cons.mpr ⟨lw_p23, List.forall_mem_cons.mpr ⟨lw_p24, List.forall_mem_cons.mpr ⟨lw_p25, List.forall_mem_cons.mpr ⟨lw_p26, List.forall_mem_cons.mpr ⟨lw_p27, List.forall_mem_cons.mpr ⟨lw_p28, List.forall_mem_cons.mpr ⟨lw_p29, List.forall_mem_cons.mpr ⟨lw_p30, List.forall_mem_cons.mpr ⟨lw_p31, fun _ h => absurd h List.not_mem_nil⟩⟩⟩⟩⟩⟩⟩⟩⟩⟩⟩⟩⟩⟩⟩⟩
theorem lw_p32 : lw_okq (⟨"ReinsuranceDeskModel", "excessOfEvents", "(I)V"⟩, 30) := ⟨⟨by decide +kernel, by decide +kernel⟩, List.mem_of_getElem? (i := 609) (by decide +kernel), List.mem_of_getElem? (i := 824) (by decide +kernel), List.mem_of_getElem? (i := 825) (by decide +kernel)⟩
theorem lw_p33 : lw_okq (⟨"ReinsuranceDeskModel", "inWindow", "(III)J"⟩, 30) := ⟨⟨by decide +kernel, by decide +kernel⟩, List.mem_of_getElem? (i := 609) (by decide +kernel), List.mem_of_getElem? (i := 828) (by decide +kernel), List.mem_of_getElem? (i := 829) (by decide +kernel)⟩
theorem lw_p34 : lw_okq (⟨"ReinsuranceDeskModel", "spread", "(IJJ)V"⟩, 30) := ⟨⟨by decide +kernel, by decide +kernel⟩, List.mem_of_getElem? (i := 609) (by decide +kernel), List.mem_of_getElem? (i := 832) (by decide +kernel), List.mem_of_getElem? (i := 833) (by decide +kernel)⟩
theorem lw_p35 : lw_okq (⟨"ReinsuranceDeskModel", "ratio", "(I)J"⟩, 30) := ⟨⟨by decide +kernel, by decide +kernel⟩, List.mem_of_getElem? (i := 609) (by decide +kernel), List.mem_of_getElem? (i := 853) (by decide +kernel), List.mem_of_getElem? (i := 854) (by decide +kernel)⟩
theorem lw_p36 : lw_okq (⟨"ReinsuranceDeskModel", "commission", "(I)J"⟩, 30) := ⟨⟨by decide +kernel, by decide +kernel⟩, List.mem_of_getElem? (i := 609) (by decide +kernel), List.mem_of_getElem? (i := 858) (by decide +kernel), List.mem_of_getElem? (i := 859) (by decide +kernel)⟩
theorem lw_p37 : lw_okq (⟨"ReinsuranceDeskModel", "shareOf", "(IIJ)J"⟩, 30) := ⟨⟨by decide +kernel, by decide +kernel⟩, List.mem_of_getElem? (i := 609) (by decide +kernel), List.mem_of_getElem? (i := 868) (by decide +kernel), List.mem_of_getElem? (i := 869) (by decide +kernel)⟩
theorem lw_p38 : lw_okq (⟨"ReinsuranceDeskModel", "reinstatement", "(II)J"⟩, 30) := ⟨⟨by decide +kernel, by decide +kernel⟩, List.mem_of_getElem? (i := 609) (by decide +kernel), List.mem_of_getElem? (i := 872) (by decide +kernel), List.mem_of_getElem? (i := 873) (by decide +kernel)⟩
def lw_privs_3 : List (MethodName × Nat) := [(⟨"ReinsuranceDeskModel", "excessOfEvents", "(I)V"⟩, 30), (⟨"ReinsuranceDeskModel", "inWindow", "(III)J"⟩, 30), (⟨"ReinsuranceDeskModel", "spread", "(IJJ)V"⟩, 30), (⟨"ReinsuranceDeskModel", "ratio", "(I)J"⟩, 30), (⟨"ReinsuranceDeskModel", "commission", "(I)J"⟩, 30), (⟨"ReinsuranceDeskModel", "shareOf", "(IIJ)J"⟩, 30), (⟨"ReinsuranceDeskModel", "reinstatement", "(II)J"⟩, 30)]
theorem lw_r3 : ∀ q ∈ lw_privs_3, lw_okq q := List.forall_mem_cons.mpr ⟨lw_p32, List.forall_mem_cons.mpr ⟨lw_p33, List.forall_mem_cons.mpr ⟨lw_p34, List.forall_mem_cons.mpr ⟨lw_p35, List.forall_mem_cons.mpr ⟨lw_p36, List.forall_mem_cons.mpr ⟨lw_p37, List.forall_mem_cons.mpr ⟨lw_p38, fun _ h => absurd h List.not_mem_nil⟩⟩⟩⟩⟩⟩⟩
def lw_privs : List (MethodName × Nat) := lw_privs_1 ++ (lw_privs_2 ++ (lw_privs_3))
def lw_tbl : List Cond := k2_sels lw_privs ++ tables_1
theorem lw_privs_ok : ∀ q ∈ lw_privs, lw_okq q := by
  show ∀ q ∈ lw_privs_1 ++ (lw_privs_2 ++ (lw_privs_3)), lw_okq q
  exact List.forall_mem_append.mpr ⟨lw_r1, List.forall_mem_append.mpr ⟨lw_r2, lw_r3⟩⟩
end
section
/-! names: classes and their fields, the world's shape, methods -/
def rd_T0 : u_T := fun k => match k with
  | 0 => ("ReinsuranceDesk$Cession", "risks", "LReinsuranceDesk$Risks;", true)
  | 1 => ("ReinsuranceDesk$Cession", "claims", "LReinsuranceDesk$Claims;", true)
  | 2 => ("ReinsuranceDesk$Cession", "treaties", "LReinsuranceDesk$Treaties;", true)
  | 3 => ("ReinsuranceDesk$Cession", "counts", "[Z", true)
  | 4 => ("ReinsuranceDesk$Cession", "keptOf", "[I", true)
  | 5 => ("ReinsuranceDesk$Cession", "cededOf", "[I", true)
  | 6 => ("ReinsuranceDesk$Cession", "taken", "[J", true)
  | 7 => ("ReinsuranceDesk$Cession", "windowOf", "[I", true)
  | 8 => ("ReinsuranceDesk$Cession", "premiumLeft", "[J", true)
  | 9 => ("ReinsuranceDesk$Cession", "premiumTo", "[J", true)
  | 10 => ("ReinsuranceDesk$Cession", "group", "[I", true)
  | 11 => ("ReinsuranceDesk$Cession", "groupSize", "I", false)
  | _ => ("ReinsuranceDesk$Cession", "remainder", "[J", true)
def rd_t0 : Nat → FieldType := fun k => match k with
  | 0 => .object "ReinsuranceDesk$Risks"
  | 1 => .object "ReinsuranceDesk$Claims"
  | 2 => .object "ReinsuranceDesk$Treaties"
  | 3 => .array .boolean
  | 4 => .array .int
  | 5 => .array .int
  | 6 => .array .long
  | 7 => .array .int
  | 8 => .array .long
  | 9 => .array .long
  | 10 => .array .int
  | 11 => .int
  | _ => .array .long
theorem rd_nn0 : ∀ a, a < 13 → ∀ b, b < 13 → a ≠ b → (rd_T0 a).2.1 ≠ (rd_T0 b).2.1 := by decide +kernel
theorem rd_tt0 : ∀ k, k < 13 → parseFieldDescriptor (rd_T0 k).2.2.1 = some (rd_t0 k) := by decide +kernel
def rd_T1 : u_T := fun k => match k with
  | 0 => ("ReinsuranceDesk$Claims", "count", "I", false)
  | 1 => ("ReinsuranceDesk$Claims", "riskOf", "[I", true)
  | 2 => ("ReinsuranceDesk$Claims", "event", "[I", true)
  | 3 => ("ReinsuranceDesk$Claims", "hour", "[I", true)
  | 4 => ("ReinsuranceDesk$Claims", "amount", "[I", true)
  | 5 => ("ReinsuranceDesk$Claims", "struck", "[Z", true)
  | _ => ("ReinsuranceDesk$Claims", "byHour", "[I", true)
def rd_t1 : Nat → FieldType := fun k => match k with
  | 0 => .int
  | 1 => .array .int
  | 2 => .array .int
  | 3 => .array .int
  | 4 => .array .int
  | 5 => .array .boolean
  | _ => .array .int
theorem rd_nn1 : ∀ a, a < 7 → ∀ b, b < 7 → a ≠ b → (rd_T1 a).2.1 ≠ (rd_T1 b).2.1 := by decide +kernel
theorem rd_tt1 : ∀ k, k < 7 → parseFieldDescriptor (rd_T1 k).2.2.1 = some (rd_t1 k) := by decide +kernel
def rd_T2 : u_T := fun k => match k with
  | 0 => ("ReinsuranceDesk$Risks", "sum", "[I", true)
  | 1 => ("ReinsuranceDesk$Risks", "premiumOf", "[I", true)
  | _ => ("ReinsuranceDesk$Risks", "yearOf", "[I", true)
def rd_t2 : Nat → FieldType := fun k => match k with
  | 0 => .array .int
  | 1 => .array .int
  | _ => .array .int
theorem rd_nn2 : ∀ a, a < 3 → ∀ b, b < 3 → a ≠ b → (rd_T2 a).2.1 ≠ (rd_T2 b).2.1 := by decide +kernel
theorem rd_tt2 : ∀ k, k < 3 → parseFieldDescriptor (rd_T2 k).2.2.1 = some (rd_t2 k) := by decide +kernel
def rd_T3 : u_T := fun k => match k with
  | 0 => ("ReinsuranceDesk$Treaties", "count", "I", false)
  | 1 => ("ReinsuranceDesk$Treaties", "kind", "[I", true)
  | 2 => ("ReinsuranceDesk$Treaties", "yearOf", "[I", true)
  | 3 => ("ReinsuranceDesk$Treaties", "a", "[J", true)
  | 4 => ("ReinsuranceDesk$Treaties", "b", "[J", true)
  | 5 => ("ReinsuranceDesk$Treaties", "c", "[J", true)
  | 6 => ("ReinsuranceDesk$Treaties", "d", "[J", true)
  | _ => ("ReinsuranceDesk$Treaties", "part", "[I", true)
def rd_t3 : Nat → FieldType := fun k => match k with
  | 0 => .int
  | 1 => .array .int
  | 2 => .array .int
  | 3 => .array .long
  | 4 => .array .long
  | 5 => .array .long
  | 6 => .array .long
  | _ => .array .int
theorem rd_nn3 : ∀ a, a < 8 → ∀ b, b < 8 → a ≠ b → (rd_T3 a).2.1 ≠ (rd_T3 b).2.1 := by decide +kernel
theorem rd_tt3 : ∀ k, k < 8 → parseFieldDescriptor (rd_T3 k).2.2.1 = some (rd_t3 k) := by decide +kernel
def rd_T4 : u_T := fun k => match k with
  | 0 => ("ReinsuranceDesk", "risks", "LReinsuranceDesk$Risks;", true)
  | 1 => ("ReinsuranceDesk", "claims", "LReinsuranceDesk$Claims;", true)
  | 2 => ("ReinsuranceDesk", "treaties", "LReinsuranceDesk$Treaties;", true)
  | 3 => ("ReinsuranceDesk", "cession", "LReinsuranceDesk$Cession;", true)
  | 4 => ("ReinsuranceDesk", "closed", "[Z", true)
  | _ => ("ReinsuranceDesk", "billed", "[J", true)
def rd_t4 : Nat → FieldType := fun k => match k with
  | 0 => .object "ReinsuranceDesk$Risks"
  | 1 => .object "ReinsuranceDesk$Claims"
  | 2 => .object "ReinsuranceDesk$Treaties"
  | 3 => .object "ReinsuranceDesk$Cession"
  | 4 => .array .boolean
  | _ => .array .long
theorem rd_nn4 : ∀ a, a < 6 → ∀ b, b < 6 → a ≠ b → (rd_T4 a).2.1 ≠ (rd_T4 b).2.1 := by decide +kernel
theorem rd_tt4 : ∀ k, k < 6 → parseFieldDescriptor (rd_T4 k).2.2.1 = some (rd_t4 k) := by decide +kernel
def rd_T5 : u_T := fun k => match k with
  | 0 => ("ReinsuranceDeskModel", "thrown", "I", false)
  | 1 => ("ReinsuranceDeskModel", "sum", "[I", true)
  | 2 => ("ReinsuranceDeskModel", "premium", "[I", true)
  | 3 => ("ReinsuranceDeskModel", "yearOf", "[I", true)
  | 4 => ("ReinsuranceDeskModel", "risk", "[I", true)
  | 5 => ("ReinsuranceDeskModel", "event", "[I", true)
  | 6 => ("ReinsuranceDeskModel", "hour", "[I", true)
  | 7 => ("ReinsuranceDeskModel", "estimate", "[I", true)
  | 8 => ("ReinsuranceDeskModel", "struck", "[Z", true)
  | 9 => ("ReinsuranceDeskModel", "claims", "I", false)
  | 10 => ("ReinsuranceDeskModel", "shape", "[I", true)
  | 11 => ("ReinsuranceDeskModel", "a", "[I", true)
  | 12 => ("ReinsuranceDeskModel", "b", "[I", true)
  | 13 => ("ReinsuranceDeskModel", "c", "[I", true)
  | 14 => ("ReinsuranceDeskModel", "d", "[I", true)
  | 15 => ("ReinsuranceDeskModel", "treaties", "I", false)
  | 16 => ("ReinsuranceDeskModel", "shares", "[I", true)
  | 17 => ("ReinsuranceDeskModel", "billed", "[J", true)
  | 18 => ("ReinsuranceDeskModel", "closed", "[Z", true)
  | 19 => ("ReinsuranceDeskModel", "kept", "[J", true)
  | 20 => ("ReinsuranceDeskModel", "taken", "[J", true)
  | 21 => ("ReinsuranceDeskModel", "total", "[J", true)
  | 22 => ("ReinsuranceDeskModel", "earned", "[J", true)
  | 23 => ("ReinsuranceDeskModel", "window", "[I", true)
  | 24 => ("ReinsuranceDeskModel", "left", "[J", true)
  | 25 => ("ReinsuranceDeskModel", "inside", "[Z", true)
  | 26 => ("ReinsuranceDeskModel", "rest", "[J", true)
  | 27 => ("ReinsuranceDeskModel", "more", "[I", true)
  | 28 => ("ReinsuranceDeskModel", "passed", "J", false)
  | _ => ("ReinsuranceDeskModel", "used", "J", false)
def rd_t5 : Nat → FieldType := fun k => match k with
  | 0 => .int
  | 1 => .array .int
  | 2 => .array .int
  | 3 => .array .int
  | 4 => .array .int
  | 5 => .array .int
  | 6 => .array .int
  | 7 => .array .int
  | 8 => .array .boolean
  | 9 => .int
  | 10 => .array .int
  | 11 => .array .int
  | 12 => .array .int
  | 13 => .array .int
  | 14 => .array .int
  | 15 => .int
  | 16 => .array .int
  | 17 => .array .long
  | 18 => .array .boolean
  | 19 => .array .long
  | 20 => .array .long
  | 21 => .array .long
  | 22 => .array .long
  | 23 => .array .int
  | 24 => .array .long
  | 25 => .array .boolean
  | 26 => .array .long
  | 27 => .array .int
  | 28 => .long
  | _ => .long
theorem rd_nn5 : ∀ a, a < 30 → ∀ b, b < 30 → a ≠ b → (rd_T5 a).2.1 ≠ (rd_T5 b).2.1 := by decide +kernel
theorem rd_tt5 : ∀ k, k < 30 → parseFieldDescriptor (rd_T5 k).2.2.1 = some (rd_t5 k) := by decide +kernel
abbrev rd_CL : List vw_C := [("ReinsuranceDesk$Cession", rd_T0, 13), ("ReinsuranceDesk$Claims", rd_T1, 7), ("ReinsuranceDesk$Risks", rd_T2, 3), ("ReinsuranceDesk$Treaties", rd_T3, 8), ("ReinsuranceDesk", rd_T4, 6), ("ReinsuranceDeskModel", rd_T5, 30)]
/-- the world: arrays (kind of element, length), objects (class, fields: a place, or a number) -/
def rd_SH : List ((Nat × Nat) ⊕ (Nat × List (Nat ⊕ Nat))) := [
  .inr (4, [.inl 1, .inl 2, .inl 3, .inl 4, .inl 5, .inl 6]),
  .inr (2, [.inl 7, .inl 8, .inl 9]),
  .inr (1, [.inr 0, .inl 10, .inl 11, .inl 12, .inl 13, .inl 14, .inl 15]),
  .inr (3, [.inr 0, .inl 16, .inl 17, .inl 18, .inl 19, .inl 20, .inl 21, .inl 22]),
  .inr (0, [.inl 1, .inl 2, .inl 3, .inl 23, .inl 24, .inl 25, .inl 26, .inl 27, .inl 28, .inl 29, .inl 30, .inr 0, .inl 31]),
  .inl (2, 4),
  .inl (1, 6),
  .inl (0, 12),
  .inl (0, 12),
  .inl (0, 12),
  .inl (0, 40),
  .inl (0, 40),
  .inl (0, 40),
  .inl (0, 40),
  .inl (2, 40),
  .inl (0, 40),
  .inl (0, 10),
  .inl (0, 10),
  .inl (1, 10),
  .inl (1, 10),
  .inl (1, 10),
  .inl (1, 10),
  .inl (0, 60),
  .inl (2, 40),
  .inl (0, 40),
  .inl (0, 400),
  .inl (1, 10),
  .inl (0, 100),
  .inl (1, 12),
  .inl (1, 10),
  .inl (0, 40),
  .inl (1, 40),
  .inr (5, [.inr 0, .inl 33, .inl 34, .inl 35, .inl 36, .inl 37, .inl 38, .inl 39, .inl 40, .inr 0, .inl 41, .inl 42, .inl 43, .inl 44, .inl 45, .inr 0, .inl 46, .inl 47, .inl 48, .inl 49, .inl 50, .inl 51, .inl 52, .inl 53, .inl 54, .inl 55, .inl 56, .inl 57, .inr 1, .inr 1]),
  .inl (0, 12),
  .inl (0, 12),
  .inl (0, 12),
  .inl (0, 40),
  .inl (0, 40),
  .inl (0, 40),
  .inl (0, 40),
  .inl (2, 40),
  .inl (0, 10),
  .inl (0, 10),
  .inl (0, 10),
  .inl (0, 10),
  .inl (0, 10),
  .inl (0, 60),
  .inl (1, 6),
  .inl (2, 4),
  .inl (1, 40),
  .inl (1, 400),
  .inl (1, 10),
  .inl (1, 10),
  .inl (0, 100),
  .inl (1, 12),
  .inl (2, 40),
  .inl (1, 40),
  .inl (0, 40),
  .inl (1, 1)]
/-- words that stay when the tables warm -/
def rd_gd (w : Cond) : Bool := goodWord w || (match w with | .castable _ _ => true | .declares _ => true | _ => false)
theorem rd_w_at {args a9 : Array Value} {s U : State} {w : Cond} (hW : s.WarmedH U.vm) (hok : w.warmOk s) (hon : w.onTables = true) (h : w.before args s = true) : w.before a9 U = true := by
  have h1 := Cond.before_warmed (args := args) hW w hok h
  rw [Cond.onTables_vm (A' := a9) (U' := U) U.vm w hon] at h1
  rwa [State.setVm_self] at h1
theorem rd_gd_at {args a9 : Array Value} {s U : State} {w : Cond} (hW : s.WarmedH U.vm) (hg : rd_gd w = true) (h : w.before args s = true) : w.before a9 U = true := by
  unfold rd_gd at hg
  rw [Bool.or_eq_true] at hg
  rcases hg with hg | hg
  · exact word_at hW (good_of_word hg) h
  · cases w with
    | castable a b => exact rd_w_at hW trivial rfl h
    | declares y => exact rd_w_at hW trivial rfl h
    | _ => simp at hg
def rd_ws : List Cond := lw_tbl.filter rd_gd
def rd_KC : Nat := 1
def rd_KS : Nat := 6
def rd_xn (k : Nat) : String := match k with
  | 0 => "java/lang/IllegalArgumentException"
  | _ => "java/lang/IllegalStateException"
theorem rd_m {w : Cond} (i : Nat) (h : tables_1[i]? = some w) (g : rd_gd w = true := by rfl) : w ∈ rd_ws := List.mem_filter.mpr ⟨List.mem_append_right _ (List.mem_of_getElem? h), g⟩
theorem rd_ms {w : Cond} (h : w ∈ k2_sels lw_privs) (g : rd_gd w = true := by rfl) : w ∈ rd_ws := List.mem_filter.mpr ⟨List.mem_append_left _ h, g⟩
set_option maxRecDepth 100000 in
theorem rd_good : ∀ w ∈ rd_ws, rd_gd w = true := fun w h => (List.mem_filter.mp h).2
set_option maxRecDepth 100000 in
theorem rd_u0 : ∀ w ∈ u_ws "ReinsuranceDesk$Cession" rd_T0 13, w ∈ rd_ws := fun w h => of_decide_eq_true (List.all_eq_true.mp (by decide +kernel : (u_ws "ReinsuranceDesk$Cession" rd_T0 13).all (fun w => decide (w ∈ rd_ws)) = true) w h)
set_option maxRecDepth 100000 in
theorem rd_u1 : ∀ w ∈ u_ws "ReinsuranceDesk$Claims" rd_T1 7, w ∈ rd_ws := fun w h => of_decide_eq_true (List.all_eq_true.mp (by decide +kernel : (u_ws "ReinsuranceDesk$Claims" rd_T1 7).all (fun w => decide (w ∈ rd_ws)) = true) w h)
set_option maxRecDepth 100000 in
theorem rd_u2 : ∀ w ∈ u_ws "ReinsuranceDesk$Risks" rd_T2 3, w ∈ rd_ws := fun w h => of_decide_eq_true (List.all_eq_true.mp (by decide +kernel : (u_ws "ReinsuranceDesk$Risks" rd_T2 3).all (fun w => decide (w ∈ rd_ws)) = true) w h)
set_option maxRecDepth 100000 in
theorem rd_u3 : ∀ w ∈ u_ws "ReinsuranceDesk$Treaties" rd_T3 8, w ∈ rd_ws := fun w h => of_decide_eq_true (List.all_eq_true.mp (by decide +kernel : (u_ws "ReinsuranceDesk$Treaties" rd_T3 8).all (fun w => decide (w ∈ rd_ws)) = true) w h)
set_option maxRecDepth 100000 in
theorem rd_u4 : ∀ w ∈ u_ws "ReinsuranceDesk" rd_T4 6, w ∈ rd_ws := fun w h => of_decide_eq_true (List.all_eq_true.mp (by decide +kernel : (u_ws "ReinsuranceDesk" rd_T4 6).all (fun w => decide (w ∈ rd_ws)) = true) w h)
set_option maxRecDepth 100000 in
theorem rd_u5 : ∀ w ∈ u_ws "ReinsuranceDeskModel" rd_T5 30, w ∈ rd_ws := fun w h => of_decide_eq_true (List.all_eq_true.mp (by decide +kernel : (u_ws "ReinsuranceDeskModel" rd_T5 30).all (fun w => decide (w ∈ rd_ws)) = true) w h)
end
section
/-! numbers: a machine word as an integer -/
abbrev rd_I (x : Int) : Prop := -2147483648 ≤ x ∧ x ≤ 2147483647
abbrev rd_J (x : Int) : Prop := -9223372036854775808 ≤ x ∧ x ≤ 9223372036854775807
theorem rd_i32 {x : Int} (h : rd_I x) : (Int32.ofInt x).toInt = x := Int32.toInt_ofInt_of_le (by have := h.1; omega) (by have := h.2; omega)
theorem rd_i64 {x : Int} (h : rd_J x) : (Int64.ofInt x).toInt = x := Int64.toInt_ofInt_of_le (by have := h.1; omega) (by have := h.2; omega)
theorem rd_lt32 {x y : Int} (hx : rd_I x) (hy : rd_I y) : Int32.ofInt x < Int32.ofInt y ↔ x < y := by rw [Int32.lt_iff_toInt_lt, rd_i32 hx, rd_i32 hy]
theorem rd_le32 {x y : Int} (hx : rd_I x) (hy : rd_I y) : Int32.ofInt x ≤ Int32.ofInt y ↔ x ≤ y := by rw [Int32.le_iff_toInt_le, rd_i32 hx, rd_i32 hy]
theorem rd_eq32 {x y : Int} (hx : rd_I x) (hy : rd_I y) : Int32.ofInt x = Int32.ofInt y ↔ x = y := by rw [← Int32.toInt_inj, rd_i32 hx, rd_i32 hy]
theorem rd_lt64 {x y : Int} (hx : rd_J x) (hy : rd_J y) : Int64.ofInt x < Int64.ofInt y ↔ x < y := by rw [Int64.lt_iff_toInt_lt, rd_i64 hx, rd_i64 hy]
theorem rd_eq64 {x y : Int} (hx : rd_J x) (hy : rd_J y) : Int64.ofInt x = Int64.ofInt y ↔ x = y := by rw [← Int64.toInt_inj, rd_i64 hx, rd_i64 hy]
theorem rd_I0 : rd_I 0 := by constructor <;> decide
theorem rd_zero32 : (0 : Int32) = Int32.ofInt 0 := lit0.symm
theorem rd_ne0_32 {y : Int} (hy : rd_I y) (h : y ≠ 0) : ¬ Int32.ofInt y = 0 := by rw [rd_zero32, rd_eq32 hy rd_I0]; exact h
theorem rd_ne0_64 {y : Int} (hy : rd_J y) (h : y ≠ 0) : ¬ Int64.ofInt y = 0 := by
  rw [← Int64.toInt_inj, rd_i64 hy]; simpa using h
theorem rd_div32 {x y : Int} (hx : rd_I x) (hy : rd_I y) : Int32.ofInt x / Int32.ofInt y = Int32.ofInt (x.tdiv y) := (Int32.ofInt_tdiv hx.1 hx.2 hy.1 hy.2).symm
theorem rd_mod32 {x y : Int} (hx : rd_I x) (hy : rd_I y) : Int32.ofInt x % Int32.ofInt y = Int32.ofInt (x.tmod y) := (Int32.ofInt_tmod hx.1 hx.2 hy.1 hy.2).symm
theorem rd_div64 {x y : Int} (hx : rd_J x) (hy : rd_J y) : Int64.ofInt x / Int64.ofInt y = Int64.ofInt (x.tdiv y) := (Int64.ofInt_tdiv hx.1 hx.2 hy.1 hy.2).symm
theorem rd_mod64 {x y : Int} (hx : rd_J x) (hy : rd_J y) : Int64.ofInt x % Int64.ofInt y = Int64.ofInt (x.tmod y) := (Int64.ofInt_tmod hx.1 hx.2 hy.1 hy.2).symm
theorem rd_ci2l {x : Int} (hx : rd_I x) : (Int32.ofInt x).toInt64 = Int64.ofInt x := Int32.toInt64_ofInt hx.1 hx.2
theorem rd_cl2i {x : Int} : (Int64.ofInt x).toInt32 = Int32.ofInt x := Int64.toInt32_ofInt
theorem rd_clamp {i : Int} (h0 : 0 ≤ i) (h1 : i ≤ 2147483647) : (Int32.ofInt i).toNatClampNeg = i.toNat := Int32.toNatClampNeg_ofInt_of_le (by omega) (by omega)
theorem rd_in {i : Int} {n : Nat} (h0 : 0 ≤ i) (h1 : i < n) (hn : n ≤ 2147483647) : vp_in (Int32.ofInt i) n := by
  have hi : rd_I i := ⟨by omega, by omega⟩
  intro h
  rcases h with h | h
  · rw [rd_zero32, rd_lt32 hi rd_I0] at h; omega
  · rw [rd_clamp h0 (by omega)] at h; omega
/-! the memory: a place's contents at an index; a method; the shape of the world -/
abbrev rd_M : Type := Nat → Int → Int
abbrev rd_i (x : Int) : Value := .int (Int32.ofInt x)
abbrev rd_l (x : Int) : Value := .long (Int64.ofInt x)
/-- name, code, locals, answer's type, handlers, depth of its calls, words that they take, exceptions that it may make, the script if it reads one -/
abbrev rd_X : Type := MethodName × ByteArray × Nat × Option FieldType × List (Nat × Nat × Nat × Nat) × Nat × Nat × Nat × Option (Nat × (Int → Int))
abbrev rd_nm (x : rd_X) : MethodName := x.1
abbrev rd_cd (x : rd_X) : ByteArray := x.2.1
abbrev rd_ml (x : rd_X) : Nat := x.2.2.1
abbrev rd_rt (x : rd_X) : Option FieldType := x.2.2.2.1
abbrev rd_hs (x : rd_X) : List (Nat × Nat × Nat × Nat) := x.2.2.2.2.1
abbrev rd_dp (x : rd_X) : Nat := x.2.2.2.2.2.1
abbrev rd_lb (x : rd_X) : Nat := x.2.2.2.2.2.2.1
abbrev rd_cp (x : rd_X) : Nat := x.2.2.2.2.2.2.2.1
abbrev rd_sc (x : rd_X) : Option (Nat × (Int → Int)) := x.2.2.2.2.2.2.2.2
/-- an answer, or which exception -/
abbrev rd_R : Type := Option Value ⊕ Nat
def rd_pv (σ : Nat → Nat) : Value → Value
  | .ref q => .ref (σ q)
  | v => v
def rd_fv (σ : Nat → Nat) (m : Int → Int) (k : Nat) : Nat ⊕ Nat → Value
  | .inl q => .ref (σ q)
  | .inr 0 => rd_i (m k)
  | .inr _ => rd_l (m k)
def rd_cell (σ : Nat → Nat) (cA : Nat → ClassId) (m : Int → Int) : (Nat × Nat) ⊕ (Nat × List (Nat ⊕ Nat)) → va_E
  | .inl (0, n) => .inl (cA 0, n, .inl (fun j => Int32.ofInt (m j)))
  | .inl (1, n) => .inl (cA 1, n, .inr (.inl (fun j => Int64.ofInt (m j))))
  | .inl (_, n) => .inl (cA 2, n, .inl (fun j => Int32.ofInt (m j)))
  | .inr (k, fs) => .inr (k, fs.mapIdx (fun j f => rd_fv σ m j f))
def rd_wd (σ : Nat → Nat) (cA : Nat → ClassId) (M : rd_M) : va_W := rd_SH.mapIdx (fun i c => (σ i, rd_cell σ cA (M i) c))
abbrev rd_ty (cA : Nat → ClassId) : List (ClassId × FieldType) := [(cA 0, .int), (cA 1, .long), (cA 2, .boolean)]
def rd_up (M : rd_M) (p : Nat) (i v : Int) : rd_M := fun q j => if q = p ∧ j = i then v else M q j
theorem rd_up_ne {M : rd_M} {p q : Nat} {i v : Int} (h : q ≠ p) : rd_up M p i v q = M q := by
  funext j; simp [rd_up, h]
theorem rd_up_same {M : rd_M} {p : Nat} {i v j : Int} : rd_up M p i v p j = if j = i then v else M p j := by simp [rd_up]
theorem rd_wd_at {σ : Nat → Nat} {cA : Nat → ClassId} {M : rd_M} {p : Nat} {c : (Nat × Nat) ⊕ (Nat × List (Nat ⊕ Nat))} (h : rd_SH[p]? = some c) : (rd_wd σ cA M)[p]? = some (σ p, rd_cell σ cA (M p) c) := by
  simp [rd_wd, List.getElem?_mapIdx, h]
theorem rd_wd_set {σ : Nat → Nat} {cA : Nat → ClassId} {M : rd_M} {p : Nat} {c : (Nat × Nat) ⊕ (Nat × List (Nat ⊕ Nat))} {i v : Int} {e : va_E} (h : rd_SH[p]? = some c) (he : rd_cell σ cA (rd_up M p i v p) c = e) : (rd_wd σ cA M).set p (σ p, e) = rd_wd σ cA (rd_up M p i v) := by
  apply List.ext_getElem?
  intro k
  by_cases hk : k = p
  · subst hk
    have hl : k < (rd_wd σ cA M).length := (List.getElem?_eq_some_iff.mp (rd_wd_at (M := M) h)).1
    rw [List.getElem?_set_self hl, rd_wd_at h, he]
  · rw [List.getElem?_set_ne (Ne.symm hk)]
    simp only [rd_wd, List.getElem?_mapIdx, rd_up_ne hk]
def rd_inj (σ : Nat → Nat) : Prop := ∀ i j, i < rd_SH.length → j < rd_SH.length → σ i = σ j → i = j
theorem rd_wd_len {σ : Nat → Nat} {cA : Nat → ClassId} {M : rd_M} : (rd_wd σ cA M).length = rd_SH.length := by simp [rd_wd]
theorem rd_wd_ad {σ : Nat → Nat} {cA : Nat → ClassId} {M : rd_M} {k : Nat} {q : Nat × va_E} (h : (rd_wd σ cA M)[k]? = some q) : k < rd_SH.length ∧ q.1 = σ k := by
  have hl := (List.getElem?_eq_some_iff.mp h).1
  rw [rd_wd_len] at hl
  refine ⟨hl, ?_⟩
  simp only [rd_wd, List.getElem?_mapIdx] at h
  cases hc : rd_SH[k]? with
  | none => rw [hc] at h; cases h
  | some c => rw [hc] at h; cases h; rfl
theorem rd_D {σ : Nat → Nat} {cA : Nat → ClassId} {M : rd_M} {A : Nat → Prop} (hj : rd_inj σ) (hA : ∀ i, i < rd_SH.length → A (σ i)) : va_D A (rd_wd σ cA M) := by
  refine ⟨fun i j p q hi hj' he => ?_, fun k q hk => ?_⟩
  · obtain ⟨a1, a2⟩ := rd_wd_ad hi
    obtain ⟨b1, b2⟩ := rd_wd_ad hj'
    exact hj i j a1 b1 (by rw [← a2, ← b2]; exact he)
  · obtain ⟨a1, a2⟩ := rd_wd_ad hk
    rw [a2]; exact hA k a1
/-- the locals: what is known of them -/
def rd_L (σ : Nat → Nat) (ls : Array Slot) (nL : Nat) (L : List (Option Value)) : Prop := ls.size = nL ∧ lv_wf ls ∧ L.length ≤ nL ∧ ∀ (i : Nat) (v : Value), L[i]? = some (some v) → ls[i]? = some (.val (rd_pv σ v))
def rd_al (σ : Nat → Nat) : Nat → List (Option Value) → List (Nat × Value)
  | _, [] => []
  | i, none :: r => rd_al σ (i + 1) r
  | i, some v :: r => (i, rd_pv σ v) :: rd_al σ (i + 1) r
theorem rd_al_mem {σ : Nat → Nat} : ∀ (L : List (Option Value)) (i j : Nat) (w : Value), L[j]? = some (some w) → (i + j, rd_pv σ w) ∈ rd_al σ i L
  | [], i, j, w, h => by simp at h
  | o :: r, i, 0, w, h => by
    have h : o = some w := by simpa using h
    subst h
    exact List.mem_cons_self
  | o :: r, i, j + 1, w, h => by
    have h : r[j]? = some (some w) := by simpa using h
    have h1 := rd_al_mem (σ := σ) r (i + 1) j w h
    rw [show i + 1 + j = i + (j + 1) by omega] at h1
    cases o with
    | none => exact h1
    | some v => exact List.mem_cons_of_mem _ h1
theorem rd_al_of {σ : Nat → Nat} : ∀ (L : List (Option Value)) (i : Nat) (q : Nat × Value), q ∈ rd_al σ i L → ∃ (j : Nat) (w : Value), L[j]? = some (some w) ∧ q = (i + j, rd_pv σ w)
  | [], i, q, h => by simp [rd_al] at h
  | none :: r, i, q, h => by
    obtain ⟨j, w, h1, h2⟩ := rd_al_of r (i + 1) q h
    exact ⟨j + 1, w, by simpa using h1, by rw [h2]; congr 1; omega⟩
  | some v :: r, i, q, h => by
    rcases List.mem_cons.mp h with rfl | h
    · exact ⟨0, v, by simp, rfl⟩
    · obtain ⟨j, w, h1, h2⟩ := rd_al_of r (i + 1) q h
      exact ⟨j + 1, w, by simpa using h1, by rw [h2]; congr 1; omega⟩
theorem rd_L.al {σ : Nat → Nat} {ls : Array Slot} {nL : Nat} {L : List (Option Value)} (h : rd_L σ ls nL L) : lv_has ls nL (rd_al σ 0 L) :=
  ⟨h.1, h.2.1, fun q hq => by
    obtain ⟨j, w, h1, rfl⟩ := rd_al_of L 0 q hq
    show ls[0 + j]? = _
    rw [Nat.zero_add]
    exact h.2.2.2 j w h1⟩
/-- whether a value takes two locals -/
def rd_two : Option Value → Bool
  | some (.long _) => true
  | some (.double _) => true
  | _ => false
def rd_okp (pre : List (Option Value)) : Bool := match pre.getLast? with
  | some o => !rd_two o
  | none => true
theorem rd_cat {σ : Nat → Nat} {v : Value} : (rd_pv σ v).category = v.category := by cases v <;> rfl
theorem rd_okp_last {pre : List (Option Value)} {j : Nat} {w : Value} (hp : rd_okp pre = true) (hj : pre[j]? = some (some w)) (h1 : j + 1 = pre.length) (h2 : w.category = 2) : False := by
  have h3 : pre.getLast? = some (some w) := by rw [List.getLast?_eq_getElem?, show pre.length - 1 = j by omega]; exact hj
  unfold rd_okp at hp
  rw [h3] at hp
  cases w <;> simp [Value.category] at h2 <;> simp [rd_two] at hp
theorem rd_L.st1 {σ : Nat → Nat} {ls ls' : Array Slot} {nL : Nat} {pre r : List (Option Value)} {old : Option Value} {v : Value} (h : rd_L σ ls nL (pre ++ old :: r)) (hp : rd_okp pre = true)
    (h' : lv_has ls' nL ((pre.length, rd_pv σ v) :: (rd_al σ 0 (pre ++ old :: r)).filter (fun q => !(q.1 == pre.length) && !(q.1 + 1 == pre.length && q.2.category == 2)))) : rd_L σ ls' nL (pre ++ some v :: r) := by
  refine ⟨h'.1, h'.2.1, by simpa using h.2.2.1, fun j w hj => h'.2.2 (j, rd_pv σ w) ?_⟩
  rcases Nat.lt_trichotomy j pre.length with hlt | heq | hgt
  · rw [List.getElem?_append_left hlt] at hj
    have hL : (pre ++ old :: r)[j]? = some (some w) := by rw [List.getElem?_append_left hlt]; exact hj
    have hm := rd_al_mem (σ := σ) _ 0 j w hL
    rw [Nat.zero_add] at hm
    refine List.mem_cons_of_mem _ (List.mem_filter.mpr ⟨hm, ?_⟩)
    have hne : ¬ j = pre.length := by omega
    by_cases hz : j + 1 = pre.length
    · have hc : ¬ w.category = 2 := fun q => rd_okp_last hp hj hz q
      simp [hne, rd_cat, hc]
    · simp [hne, hz]
  · subst heq
    rw [List.getElem?_append_right (Nat.le_refl _), Nat.sub_self] at hj
    cases hj
    exact List.mem_cons_self
  · rw [List.getElem?_append_right (by omega)] at hj
    obtain ⟨d, hd⟩ : ∃ d, j - pre.length = d + 1 := ⟨j - pre.length - 1, by omega⟩
    rw [hd, List.getElem?_cons_succ] at hj
    have hL : (pre ++ old :: r)[j]? = some (some w) := by rw [List.getElem?_append_right (by omega), hd, List.getElem?_cons_succ]; exact hj
    have hm := rd_al_mem (σ := σ) _ 0 j w hL
    rw [Nat.zero_add] at hm
    refine List.mem_cons_of_mem _ (List.mem_filter.mpr ⟨hm, ?_⟩)
    have hne : ¬ j = pre.length := by omega
    have hz : ¬ j + 1 = pre.length := by omega
    simp [hne, hz]
theorem rd_L.st2 {σ : Nat → Nat} {ls ls' : Array Slot} {nL : Nat} {pre r : List (Option Value)} {old old2 : Option Value} {v : Value} (h : rd_L σ ls nL (pre ++ old :: old2 :: r)) (hp : rd_okp pre = true)
    (h' : lv_has ls' nL ((pre.length, rd_pv σ v) :: (rd_al σ 0 (pre ++ old :: old2 :: r)).filter (fun q => !(q.1 == pre.length) && (!(q.1 == pre.length + 1) && !(q.1 + 1 == pre.length && q.2.category == 2))))) : rd_L σ ls' nL (pre ++ some v :: none :: r) := by
  refine ⟨h'.1, h'.2.1, by simpa using h.2.2.1, fun j w hj => h'.2.2 (j, rd_pv σ w) ?_⟩
  rcases Nat.lt_trichotomy j pre.length with hlt | heq | hgt
  · rw [List.getElem?_append_left hlt] at hj
    have hL : (pre ++ old :: old2 :: r)[j]? = some (some w) := by rw [List.getElem?_append_left hlt]; exact hj
    have hm := rd_al_mem (σ := σ) _ 0 j w hL
    rw [Nat.zero_add] at hm
    refine List.mem_cons_of_mem _ (List.mem_filter.mpr ⟨hm, ?_⟩)
    have hne : ¬ j = pre.length := by omega
    have hne2 : ¬ j = pre.length + 1 := by omega
    by_cases hz : j + 1 = pre.length
    · have hc : ¬ w.category = 2 := fun q => rd_okp_last hp hj hz q
      simp [hne, hne2, rd_cat, hc]
    · simp [hne, hne2, hz]
  · subst heq
    rw [List.getElem?_append_right (Nat.le_refl _), Nat.sub_self] at hj
    cases hj
    exact List.mem_cons_self
  · rw [List.getElem?_append_right (by omega)] at hj
    obtain ⟨d, hd⟩ : ∃ d, j - pre.length = d + 1 := ⟨j - pre.length - 1, by omega⟩
    rw [hd, List.getElem?_cons_succ] at hj
    cases d with
    | zero => simp at hj
    | succ d =>
      rw [List.getElem?_cons_succ] at hj
      have hL : (pre ++ old :: old2 :: r)[j]? = some (some w) := by rw [List.getElem?_append_right (by omega), hd, List.getElem?_cons_succ, List.getElem?_cons_succ]; exact hj
      have hm := rd_al_mem (σ := σ) _ 0 j w hL
      rw [Nat.zero_add] at hm
      refine List.mem_cons_of_mem _ (List.mem_filter.mpr ⟨hm, ?_⟩)
      have hne : ¬ j = pre.length := by omega
      have hne2 : ¬ j = pre.length + 1 := by omega
      have hz : ¬ j + 1 = pre.length := by omega
      simp [hne, hne2, hz]
/-- fewer known -/
def rd_le : List (Option Value) → List (Option Value) → Prop
  | [], _ => True
  | none :: r, _ :: r' => rd_le r r'
  | some v :: r, some w :: r' => v = w ∧ rd_le r r'
  | _, _ => False
theorem rd_le_at : ∀ (L L' : List (Option Value)), rd_le L L' → L.length ≤ L'.length ∧ ∀ (i : Nat) (v : Value), L[i]? = some (some v) → L'[i]? = some (some v)
  | [], L', _ => ⟨Nat.zero_le _, fun i v h => by simp at h⟩
  | none :: r, [], h => h.elim
  | some v :: r, [], h => h.elim
  | some v :: r, none :: r', h => h.elim
  | none :: r, o :: r', h => by
    obtain ⟨h1, h2⟩ := rd_le_at r r' h
    refine ⟨by simpa using h1, fun i v hi => ?_⟩
    cases i with
    | zero => simp at hi
    | succ i => simpa using h2 i v (by simpa using hi)
  | some v :: r, some w :: r', h => by
    obtain ⟨h1, h2⟩ := rd_le_at r r' h.2
    refine ⟨by simpa using h1, fun i u hi => ?_⟩
    cases i with
    | zero =>
      have hz : v = u := by simpa using hi
      rw [← hz, h.1]; simp
    | succ i => simpa using h2 i u (by simpa using hi)
theorem rd_L.le {σ : Nat → Nat} {ls : Array Slot} {nL : Nat} {L L' : List (Option Value)} (h : rd_L σ ls nL L') (hl : rd_le L L') : rd_L σ ls nL L :=
  ⟨h.1, h.2.1, Nat.le_trans (rd_le_at L L' hl).1 h.2.2.1, fun i v hi => h.2.2.2 i v ((rd_le_at L L' hl).2 i v hi)⟩
end
section
/-- where a method has thrown q: the class by its name, the cell, what was written, the world -/
def vx_T (XC : String → State → State → Prop) (st : State) (q : Addr) (t : State) (mc ms : Nat) (free : Addr → Prop) : Prop :=
  ∃ (E : String) (ce : Cell) (L : List Loc), XC E st t ∧ t.heap[q]? = some ce ∧ ce.vm = .none ∧ st.vm.findClass E = some ce.cls ∧ st.WarmedH t.vm ∧ st.sameButNew ({ t with vm := st.vm } : State) L mc ms ∧ ∀ z ∈ L, free z.base
def vx_Q (Qc : Array Value → State → Outcome → State → Prop) (XC : String → State → State → Prop) (mc ms : Nat) (free : Addr → Prop) : Array Value → State → Outcome → State → Prop := fun a st o t =>
  (Qc a st o t ∧ ∃ L, FrameEnd st o t L mc ms ∧ ∀ q ∈ L, free q.base) ∨ ∃ q, o = .threw q ∧ vx_T XC st q t mc ms free
/-- the method's frame g, with q thrown over it -/
def vx_W (p : Program) (l : Launch) (e : Env) (R : Room) (s : State) (m : MethodId) (args : Array Value) (below : List Frame) (meth : Method) (c : Code) (H : Heap) (locs : List Loc) (cells slots : Nat) (Q : State → Prop) (g : JFrame) (q : Addr) : Prop :=
  ∀ T : State, T.heap = H → Stand p l e R s m args below meth c T locs cells slots → ∃ t, Steps p.tables e below ((T.setTop g).pushFrame (.throwing q)) t ∧ Q t
section Rows
variable {p : Program} {l : Launch} {e : Env} {R : Room} {s : State} {m : MethodId} {args : Array Value} {below : List Frame} {meth : Method} {c : Code} {H : Heap} {locs : List Loc} {cells slots : Nat} {Q : State → Prop}
variable {mc ms : Nat} {free : Addr → Prop} {A0 A1 : Nat → Prop} {H0 : Heap} {a : Array Value} {pc : Nat} {ls : Array Slot} {st0 rest : List Value}
/-- caught by the row x of this method's table; the rows ahead don't take it -/
theorem vx_catch {own name : String} {E : String} {ce : Cell} {q : Addr} (hown : s.vm.findClass own = some m.cls) (pre : List ExceptionTableEntry) (x : ExceptionTableEntry) (suf : List ExceptionTableEntry) (hsplit : c.exceptionTable.toList = pre ++ x :: suf)
    (hpass : ∀ z ∈ pre, covers z pc = false ∨ (z.catchType ≠ 0 ∧ ∃ nm : String, (Cond.classLink own z.catchType nm).before args s = true ∧ va_Nc E nm s)) (hx : covers x pc = true) (h0 : x.catchType ≠ 0)
    (hlink : (Cond.classLink own x.catchType name).before args s = true) (hcast : (Cond.castable E name).before args s = true) (hcell : H[q]? = some ce) (hv : ce.vm = .none) (hcl : s.vm.findClass E = some ce.cls)
    (kk : W p l e R s m args below meth c H locs cells slots Q (F0 m x.handlerPc ls [.ref q])) : vx_W p l e R s m args below meth c H locs cells slots Q (F0 m pc ls rest) q := by
  intro T hT X
  have hpl : e.platform.magicAccessors = ({} : Platform).magicAccessors := by rw [X.admits.platform]
  obtain ⟨c3, c4, hc3, hc4, hasg⟩ := Cond.castable_spec hcast
  cases Option.some.inj (hc3.symm.trans hcl)
  obtain ⟨c5, hc5, hcl5⟩ := Cond.classLink_spec hown hlink e.platform hpl
  cases Option.some.inj (hc4.symm.trans hc5)
  obtain ⟨vm', X', st⟩ := X.thenCaughtThrough q (g := F0 m pc ls rest) rfl (Steps.refl _) (by rw [hT]; exact hcell) (by rw [hv]; rfl) (by obtain ⟨k9, h9, -⟩ := Vm.findClass_spec hcl; exact ⟨k9, h9⟩) pre x suf hsplit
    (fun z hz => by
      rcases hpass z hz with h | ⟨hz0, nm, hl1, hn1⟩
      · exact Or.inl h
      · obtain ⟨c6, hc6, hcl6⟩ := Cond.classLink_spec hown hl1 e.platform hpl
        obtain ⟨a8, b8, h1, h2, h3⟩ := hn1
        cases Option.some.inj (h1.symm.trans hcl)
        cases Option.some.inj (h2.symm.trans hc6)
        exact Or.inr ⟨hz0, _, hcl6, h3⟩) hx (Or.inr ⟨h0, c4, hcl5, hasg⟩)
  obtain ⟨t, a1, b1⟩ := kk (T.setVm vm') hT X'
  exact ⟨t, st.trans a1, b1⟩
end Rows
section Ends
variable {p : Program} {l : Launch} {e : Env} {R : Room} {s : State} {m : MethodId} {args : Array Value} {below : List Frame} {meth : Method} {c : Code} {H : Heap} {locs : List Loc} {cells slots : Nat} {Q : State → Prop}
variable {mc ms : Nat} {free : Addr → Prop} {A0 A1 : Nat → Prop} {H0 : Heap} {a : Array Value} {ls : Array Slot} {st0 rest : List Value}
variable {Qc : Array Value → State → Outcome → State → Prop} {XC : String → State → State → Prop}
/-- what a body that may throw owes at its end -/
def vx_MQ (below : List Frame) (Qc : Array Value → State → Outcome → State → Prop) (XC : String → State → State → Prop) (a : Array Value) (s : State) (mc ms : Nat) (free : Addr → Prop) : State → Prop := fun t =>
  ∃ o, t.status = .running ∧ Ended t below o ∧ vx_Q Qc XC mc ms free a s o t
theorem vx_frame {U : State} {k n : Nat} (h : s.sameButNew ({ U with vm := s.vm } : State) locs k n) : s.heap.size ≤ U.heap.size ∧ ∀ q : Nat, q < s.heap.size → (∀ z ∈ locs, z.base ≠ q) → U.heap[q]? = s.heap[q]? := by
  obtain ⟨-, h2, -, -, -, h6⟩ := h
  refine ⟨h2, fun q hq hz => ?_⟩
  obtain ⟨c9, e1, e2, e3, e4⟩ := h6 q _ (Array.getElem?_eq_getElem hq)
  have hs : c9.slots = (s.heap[q]).slots := Array.ext_getElem? fun i => e4 i fun hm => hz _ hm rfl
  have h9 : c9 = s.heap[q] := by
    rw [hs] at e2
    exact e2
  have e5 : U.heap[q]? = some c9 := e1
  rw [e5, h9, Array.getElem?_eq_getElem hq]
/-- the words of a throw but the four that speak of the heap -/
def vx_no (w : Cond) : Bool := decide (w ≠ .isRef (.static Bundle.tN "UNASSIGNED_STACK" Bundle.steD)) && decide (w ≠ .isRef (.static Bundle.tN "SUPPRESSED_SENTINEL" Bundle.listD)) && decide (w ≠ .laysStatic Bundle.tN "UNASSIGNED_STACK" Bundle.steD) && decide (w ≠ .laysStatic Bundle.tN "SUPPRESSED_SENTINEL" Bundle.listD)
def vx_atS (own : String) (ic : Nat) (X : String) (names : List String) : List Cond := (Bundle.ownAtoms own ic X names).filter vx_no
/-- a word that the tables alone decide, or a good one -/
def vx_ot (w : Cond) : Bool := w.onTables || goodWord w
theorem vx_ot_at {args a' : Array Value} {s U : State} {w : Cond} (hW : s.WarmedH U.vm) (hvm : s.vm = U.vm) (hg : vx_ot w = true) (h : w.before args s = true) : w.before a' U = true := by
  simp only [vx_ot, Bool.or_eq_true] at hg
  rcases hg with hg | hg
  · exact va_tabs hg hvm h
  · exact word_at hW (good_of_word hg) h
theorem vx_own {args : Array Value} {s : State} {L : List Cond} (h1 : ∀ w ∈ L.filter vx_no, w.before args s = true)
    (hU : (Cond.isRef (.static Bundle.tN "UNASSIGNED_STACK" Bundle.steD)).before args s = true) (hN : (Cond.isRef (.static Bundle.tN "SUPPRESSED_SENTINEL" Bundle.listD)).before args s = true)
    (lU : (Cond.laysStatic Bundle.tN "UNASSIGNED_STACK" Bundle.steD).before args s = true) (lN : (Cond.laysStatic Bundle.tN "SUPPRESSED_SENTINEL" Bundle.listD).before args s = true) : ∀ w ∈ L, w.before args s = true := by
  intro w hw
  by_cases e1 : w = .isRef (.static Bundle.tN "UNASSIGNED_STACK" Bundle.steD)
  · rw [e1]; exact hU
  · by_cases e2 : w = .isRef (.static Bundle.tN "SUPPRESSED_SENTINEL" Bundle.listD)
    · rw [e2]; exact hN
    · by_cases e3 : w = .laysStatic Bundle.tN "UNASSIGNED_STACK" Bundle.steD
      · rw [e3]; exact lU
      · by_cases e4 : w = .laysStatic Bundle.tN "SUPPRESSED_SENTINEL" Bundle.listD
        · rw [e4]; exact lN
        · exact h1 w (List.mem_filter.mpr ⟨hw, by unfold vx_no; rw [decide_eq_true e1, decide_eq_true e2, decide_eq_true e3, decide_eq_true e4]; rfl⟩)
/-- where a static field lies, its class's statics cell in H -/
def vx_L (C n d : String) (A : Nat → Prop) (U : State) (H : Heap) : Prop := ∃ (c : ClassId) (k : Class) (i : Nat) (f : Field) (a : Nat) (cell : Cell), U.vm.findClass C = some c ∧ U.fieldFound? C n d = some (c, k, i, f) ∧ f.isStatic = true ∧ k.statics = some a ∧ H[a]? = some cell ∧ cell.vm.isStatics = true ∧ cell.cls = c ∧ f.slot < cell.slots.size ∧ k.staticTypes[f.slot]? = some f.type ∧ ¬ A a
theorem vx_L.moved {C n d : String} {A : Nat → Prop} {u U : State} {H : Heap} (hvm : u.vm.Alike U.vm) (h : vx_L C n d A u H) : vx_L C n d A U H := by
  obtain ⟨c, k, i, f, a, cell, h1, h2, h3, h4, h5, h6, h7, h8, h9, h10⟩ := h
  obtain ⟨k', hi', he⟩ := State.fieldFound?_setVm hvm h2
  exact ⟨c, k', i, f, a, cell, by rw [hvm.findClass]; exact h1, hi', h3, by rw [he]; exact h4, h5, h6, h7, h8, by rw [he]; exact h9, h10⟩
theorem vx_L.kept {C n d : String} {A : Nat → Prop} {U : State} {H H1 : Heap} (h : vx_L C n d A U H) (hq : ∀ a : Nat, a < H.size → ¬ A a → H1[a]? = H[a]?) : vx_L C n d A U H1 := by
  obtain ⟨c, k, i, f, a, cell, h1, h2, h3, h4, h5, h6, h7, h8, h9, h10⟩ := h
  exact ⟨c, k, i, f, a, cell, h1, h2, h3, h4, by rw [hq a (Array.getElem?_eq_some_iff.mp h5).1 h10]; exact h5, h6, h7, h8, h9, h10⟩
theorem vx_L.narrow {C n d : String} {A B : Nat → Prop} {U : State} {H : Heap} (h : vx_L C n d A U H) (hAB : ∀ q, B q → A q) : vx_L C n d B U H := by
  obtain ⟨c, k, i, f, a, cell, h1, h2, h3, h4, h5, h6, h7, h8, h9, h10⟩ := h
  exact ⟨c, k, i, f, a, cell, h1, h2, h3, h4, h5, h6, h7, h8, h9, fun z => h10 (hAB _ z)⟩
theorem vx_L.word {C n d : String} {A : Nat → Prop} {s : State} {args : Array Value} (h : vx_L C n d A s s.heap) : (Cond.laysStatic C n d).before args s = true := by
  obtain ⟨c, k, i, f, a, cell, h1, h2, h3, h4, h5, h6, h7, h8, h9, -⟩ := h
  show (Cond.laysStatic C n d).holds args s none s [] = true
  exact Cond.laysStatic_of h1 h2 h3 h4 h5 h6 h7 h8 h9
/-- .. and what it holds: null or some reference -/
def vx_Zq (C n d : String) (A : Nat → Prop) (U : State) (H : Heap) : Prop := va_Zq C n d A U H ∧ vx_L C n d A U H
theorem vx_Zq.moved {C n d : String} {A : Nat → Prop} {u U : State} {H : Heap} (hvm : u.vm.Alike U.vm) (h : vx_Zq C n d A u H) : vx_Zq C n d A U H := ⟨va_Zq.moved hvm h.1, vx_L.moved hvm h.2⟩
theorem vx_Zq.kept {C n d : String} {A : Nat → Prop} {U : State} {H H1 : Heap} (h : vx_Zq C n d A U H) (hq : ∀ a : Nat, a < H.size → ¬ A a → H1[a]? = H[a]?) : vx_Zq C n d A U H1 := ⟨va_Zq.kept h.1 hq, vx_L.kept h.2 hq⟩
theorem vx_Zq.narrow {C n d : String} {A B : Nat → Prop} {U : State} {H : Heap} (h : vx_Zq C n d A U H) (hAB : ∀ q, B q → A q) : vx_Zq C n d B U H := ⟨va_Zq.narrow h.1 hAB, vx_L.narrow h.2 hAB⟩
theorem vx_Zqof {args : Array Value} {s : State} {C n d : String} {A : Nat → Prop} (hl : (Cond.laysStatic C n d).before args s = true) (hini : (Cond.initialized C).before args s = true) (h : (Cond.isRef (.static C n d)).before args s = true) (hA : ∀ a : Nat, a < s.heap.size → ¬ A a) : vx_Zq C n d A s s.heap := by
  refine ⟨va_Zqof hl hini h hA, ?_⟩
  obtain ⟨c, k, i, f, a, cell, h1, h2, h3, h4, h5, h6, h7, h8, h9⟩ := Cond.laysStatic_spec hl
  exact ⟨c, k, i, f, a, cell, h1, h2, h3, h4, h5, h6, h7, h8, h9, hA a (Array.getElem?_eq_some_iff.mp h5).1⟩
theorem vx_isRef {C n d : String} {v : Value} {A : Nat → Prop} {s : State} {args : Array Value} (h : va_Z C n d v A s s.heap) (hv : v.isRef = true) : (Cond.isRef (.static C n d)).before args s = true := by
  obtain ⟨cf, kf, fi, f, a, cell, h1, h2, h3, h4, h5, h6, h7, -⟩ := h
  have he : (Term.static C n d).eval args s none [] s = some v := by
    simp [Term.eval, State.fieldNamed?, h1, h2, h4, h5, h6, h7]
  simp only [Cond.before, Cond.holds, Cond.value, he]
  cases v <;> simp_all [Value.isRef]
theorem vx_isRefq {C n d : String} {A : Nat → Prop} {s : State} {args : Array Value} (h : va_Zq C n d A s s.heap) : (Cond.isRef (.static C n d)).before args s = true := by
  rcases h with h | ⟨t, h⟩
  · exact vx_isRef h rfl
  · exact vx_isRef h rfl
/-- the same frame, seen from here: as if the method were called anew in this heap -/
theorem vx_rebase {T : State} (X : Stand p l e R s m args below meth c T locs cells slots) {R' : Room} (hf : R'.frames ≤ R.frames) (hl : R'.locals ≤ R.locals) (hc : cells + R'.cells ≤ R.cells) (hs : slots + R'.slots ≤ R.slots) :
    Stand p l e R' ((T.setVm s.vm).setFrames (.invoking m args :: below)) m args below meth c T [] 0 0 := by
  have htop : (T.setVm s.vm).topJava?.isSome := X.here.top
  have hF : ((T.setVm s.vm).setFrames (.invoking m args :: below)).frames = .invoking m args :: below := State.frames_setFrames _ (State.cur_lt_of_top htop)
  obtain ⟨g₀, hg0⟩ := Option.isSome_iff_exists.mp htop
  obtain ⟨r, hr⟩ := State.topJava?_eq_some.mp hg0
  have hl9 : e.platform.stackLimits (T.setVm s.vm).me = e.platform.stackLimits s.me := X.limits
  have hb9 : (T.setVm s.vm).me.stackBytes = s.me.stackBytes := X.bytes
  refine ⟨X.admits, X.cas, X.clock, hF, ?_, X.hears, X.method, X.code, X.here, X.tail, X.warmed, ?_, ?_, ?_⟩
  · have h := X.room
    have hU : ((T.setVm s.vm).setFrames (.invoking m args :: below)).localsInUse = s.localsInUse := by
      rw [State.localsInUse_invoking hF (meth := meth) (c := c) X.method X.code, State.localsInUse_invoking X.frames X.method X.code]
    simp only [State.hasRoom, Bool.and_eq_true, decide_eq_true_eq] at h ⊢
    obtain ⟨⟨⟨⟨h1, h2, h3, h4, h5, h6⟩, h7⟩, h8⟩, h9⟩ := h
    rw [X.frames, List.length_cons] at h2 h3
    have q1 := X.heapSize
    have q2 := X.used
    simp only [hF, hU, List.length_cons, State.stackLimits_setFrames, State.stackBytes_setFrames, hl9, hb9]
    refine ⟨⟨⟨⟨by omega, by omega, by omega, by omega, by omega, h6⟩, ?_⟩, ?_⟩, X.book⟩
    · show T.heap.size + R'.cells ≤ e.platform.maxCells
      omega
    · show T.slotsUsed + R'.slots ≤ e.platform.maxSlots
      omega
  · rw [State.stackLimits_setFrames]; rfl
  · rw [State.stackBytes_setFrames]; rfl
  · refine ⟨?_, Nat.le_refl _, Nat.le_refl _, ?_, ?_, fun a c9 h9 => ⟨c9, h9, rfl, rfl, fun _ _ => rfl⟩⟩
    · obtain ⟨t, ht, -⟩ := State.frames_cons hr
      show T.setVm s.vm = { ((T.setVm s.vm).setFrames (.invoking m args :: below)).setFrames (T.setVm s.vm).frames with heap := T.heap, slotsUsed := T.slotsUsed }
      rw [State.setFrames_setFrames, State.setFrames_self ht]
      rfl
    · show T.slotsUsed = T.slotsUsed + ((T.heap.toList.drop T.heap.size).map (·.slots.size)).sum
      rw [List.drop_eq_nil_of_le (Nat.le_of_eq Array.length_toList)]
      rfl
    · show ((T.heap.toList.drop T.heap.size).map (·.slots.size)).sum ≤ 0
      rw [List.drop_eq_nil_of_le (Nat.le_of_eq Array.length_toList)]
      exact Nat.le_refl _
/-- 'throw new E("text")': new; dup; ldc; invokespecial; athrow -/
theorem vx_throwS {cc : ByteArray} {pc : Nat} (hexec : p.tables.exec = Jvm.exec) (hb : c.code = cc) (hl : l.stackTraces = false) {own cls text : String} {names : List String} {ik is ic mc ms sa : Nat} {A : Nat → Prop}
    (hown : s.vm.findClass own = some m.cls) (hcls : Bundle.fit cls = true) (hnames : ∀ n ∈ names, Bundle.fit n = true)
    (hk : (Cond.classLink own ik cls).before args s = true) (hini : (Cond.initialized cls).before args s = true) (hstr : vk_R own is text sa s) (hat : ∀ w ∈ vx_atS own ic cls names, w.before args s = true)
    (hgood : ∀ w ∈ Cond.classLink own ik cls :: Cond.initialized cls :: vx_atS own ic cls names, vx_ot w = true)
    (hU : vx_Zq Bundle.tN "UNASSIGNED_STACK" Bundle.steD A s s.heap) (hN : vx_Zq Bundle.tN "SUPPRESSED_SENTINEL" Bundle.listD A s s.heap) (hS : va_S A s.heap H locs) (hsize : ls.size = c.maxLocals)
    (d0 : decode cc pc = .ok (.new ik, 3)) (d3 : decode cc (pc + 3) = .ok (.dup, 1)) (d4 : decode cc (pc + 4) = .ok (.ldc is, 2)) (d6 : decode cc (pc + 6) = .ok (.invokespecial ic, 3)) (d9 : decode cc (pc + 9) = .ok (.athrow, 1))
    (hout : ∀ x ∈ c.exceptionTable.toList, covers x (pc + 9) = false)
    (hRframes : names.length + 3 < R.frames) (hRlocals : (rest.map fun v => v.category).sum + (13 * (names.length + 1) + 43) ≤ R.locals) (hRcells : cells + 1 ≤ R.cells) (hRslots : slots + 6 ≤ R.slots) (hlocks : meth.locks = false)
    (hx : ∀ t : State, s.vm.Alike t.vm → H.size ≤ t.heap.size → (∀ q : Nat, q < H.size → t.heap[q]? = H[q]?) → XC cls s t)
    (hf : ∀ z ∈ locs, free z.base) (hc : cells + 1 ≤ mc) (hs : slots + 6 ≤ ms) :
    W p l e R s m args below meth c H locs cells slots (vx_MQ below Qc XC args s mc ms free) (F0 m pc ls rest) := by
  intro T hT X
  have htr : e.platform.stackTraces = false := (show e.platform.stackTraces = l.stackTraces by rw [X.admits.platform]).trans hl
  have Y := vx_rebase X (R' := { frames := R.frames, locals := R.locals, cells := 1, slots := 6 }) (Nat.le_refl _) (Nat.le_refl _) hRcells hRslots
  obtain ⟨s', hA⟩ : ∃ z, z = (T.setVm s.vm).setFrames (.invoking m args :: below) := ⟨_, rfl⟩
  rw [← hA] at Y
  have hvm : s'.vm = s.vm := by rw [hA]; rfl
  have hhp : s'.heap = H := by rw [hA]; exact hT
  have hW0 : s.WarmedH s'.vm := by rw [hvm]; exact State.WarmedH.refl s
  have hat' : ∀ w ∈ vx_atS own ic cls names, w.before args s' = true := fun w hw => vx_ot_at hW0 hvm.symm (hgood w (List.mem_cons_of_mem _ (List.mem_cons_of_mem _ hw))) (hat w hw)
  have hk' : (Cond.classLink own ik cls).before args s' = true := vx_ot_at hW0 hvm.symm (hgood _ List.mem_cons_self) hk
  have hini' : (Cond.initialized cls).before args s' = true := vx_ot_at hW0 hvm.symm (hgood _ (List.mem_cons_of_mem _ List.mem_cons_self)) hini
  have hU' : vx_Zq Bundle.tN "UNASSIGNED_STACK" Bundle.steD A s' s'.heap := by rw [hhp]; exact vx_Zq.moved hW0.alike (hU.kept hS.2.1)
  have hN' : vx_Zq Bundle.tN "SUPPRESSED_SENTINEL" Bundle.listD A s' s'.heap := by rw [hhp]; exact vx_Zq.moved hW0.alike (hN.kept hS.2.1)
  have h : ∀ w ∈ Bundle.ownAtoms own ic cls names, w.before args s' = true := vx_own hat' (vx_isRefq hU'.1) (vx_isRefq hN'.1) hU'.2.word hN'.2.word
  have hown' : s'.vm.findClass own = some m.cls := by rw [hvm]; exact hown
  have hins : (Cond.instantiable cls 6).before args s' = true := h _ (by simp [Bundle.ownAtoms])
  obtain ⟨vm₁, cX, kX, hfX, hkX, -, -, X₁, st1⟩ := Y.newCold hexec (own := own) (C := cls) (index := ik) (n := 6) hown' hk' hins hini'
    (g := F0 m pc ls rest) rfl (by rw [hb]; exact d0) (Nat.le_refl _) (Nat.le_refl _)
  generalize hT1 : (T.setVm vm₁).pushCell { cls := cX, slots := kX.instanceTypes.map defaultValue, vm := .none } = T1 at X₁ st1
  have hcat : (Value.ref T.heap.size).category = 1 := rfl
  have hcellA : T1.heap[T.heap.size]? = some (freshCell cX kX) := by rw [← hT1]; exact State.heap_pushCell_size _ _
  have d3' : decode c.code (pc + 3) = .ok (.dup, 1) := by rw [hb]; exact d3
  have d4' : decode c.code (pc + 4) = .ok (.ldc is, 2) := by rw [hb]; exact d4
  have hstr' : vk_R own is text sa s' := vk_R.warm hW0 hstr
  obtain ⟨U, hsteps, hrun, hend, hW, hsame, ce, hce, hO⟩ := X₁.ctorThrowS hexec htr (own := own) (cls := cls) (names := names) (ic := ic) hown' hcls hnames h (fun x hx => nomatch hx) hfX hkX hcellA (by rw [hhp, hT]; exact Nat.le_refl _) (msg := .ref sa) rfl
    (g := { method := m, pc := pc + 6, locals := ls, stack := .ref sa :: .ref T.heap.size :: .ref T.heap.size :: rest, locked := none }) rfl hsize rfl rfl (rest := rest) rfl
    (by rw [hb]; exact d6) (by rw [hb]; exact d9) hout hRframes (by simp only [List.map_cons, List.sum_cons, hcat]; omega) hlocks
  obtain ⟨f1, f2⟩ := vx_frame hsame
  rw [hhp] at f1 f2
  have hWs : s.WarmedH U.vm := State.WarmedH.trans hW0 hW
  have hcl : s.vm.findClass cls = some ce.cls := by
    have h9 := hO.cls
    rw [hvm] at h9
    exact h9
  have hall : s.sameButNew ({ U with vm := s.vm } : State) locs mc ms := by
    subst hA
    obtain ⟨e1, e2⟩ := hsame
    rw [State.setFrames_setFrames] at e1
    have h2 : (T.setVm s.vm).sameButNew ({ U with vm := s.vm } : State) [] (0 + 1) (0 + 6) := ⟨e1, e2⟩
    have h3 := X.same.trans h2
    rw [List.append_nil] at h3
    exact h3.mono hc hs
  refine ⟨U, ?_, .threw T.heap.size, hrun, hend, Or.inr ⟨T.heap.size, rfl, cls, ce, locs, hx U hWs.alike f1 (fun q hq => f2 q hq (fun z hz => nomatch hz)), hce, hO.vm, hcl, hWs, hall, hf⟩⟩
  refine st1 _ ?_
  show Steps p.tables e below (T1.setTop { method := m, pc := pc + 3, locals := ls, stack := .ref T.heap.size :: rest, locked := none }) _
  jvm_step X₁.here [X₁.here.top, hexec, d3', Value.category]
  exact X₁.ldcString hexec (own := own) (text := text) (index := is) (a := sa) hown' hstr'.1 hstr'.2
    (g := { method := m, pc := pc + 4, locals := ls, stack := .ref T.heap.size :: .ref T.heap.size :: rest, locked := none }) rfl d4' _ hsteps
end Ends
/-- the texts of exceptions -/
def rd_ss : List (String × Nat × String) := [("ReinsuranceDesk", 57, "no such risk, sum or year"), ("ReinsuranceDesk", 68, "the risk is told, or the year is closed"), ("ReinsuranceDesk", 81, "no such risk or amount"), ("ReinsuranceDesk", 83, "the year is closed"), ("ReinsuranceDesk", 95, "no such treaty"), ("ReinsuranceDesk", 101, "there are no more treaties, or the year is closed"), ("ReinsuranceDesk", 111, "no such treaty, reinsurer or part"), ("ReinsuranceDesk", 118, "the shares would be too much, or the year is closed"), ("ReinsuranceDesk", 124, "no such risk, event or hour"), ("ReinsuranceDesk", 127, "there are no more claims, or the year is closed"), ("ReinsuranceDesk", 133, "no such claim or amount"), ("ReinsuranceDesk", 142, "the claim is struck, or the year is closed"), ("ReinsuranceDesk", 147, "no such claim"), ("ReinsuranceDesk", 149, "no such event or year"), ("ReinsuranceDesk", 161, "no such claim or treaty"), ("ReinsuranceDesk", 169, "no such excess"), ("ReinsuranceDesk", 181, "no such excess or event"), ("ReinsuranceDesk", 186, "no such treaty or what"), ("ReinsuranceDesk", 197, "no such treaty, reinsurer or what"), ("ReinsuranceDesk", 206, "no such claim, amount or treaty"), ("ReinsuranceDesk", 208, "the claim is struck"), ("ReinsuranceDesk", 214, "no such reinsurer"), ("ReinsuranceDesk", 220, "no such year"), ("ReinsuranceDesk", 222, "the year is so")]
/-- what throwing stands on: a launch without stack traces; two static fields; texts; no cell that may be changed is a holder of static fields -/
def rd_XF (l : Launch) (s : State) (A : Nat → Prop) : Prop :=
  l.stackTraces = false ∧ vx_Zq Bundle.tN "UNASSIGNED_STACK" Bundle.steD A s s.heap ∧ vx_Zq Bundle.tN "SUPPRESSED_SENTINEL" Bundle.listD A s s.heap ∧ (∀ (a : Nat) (ce : Cell), s.heap[a]? = some ce → ce.vm.isStatics = true → ¬ A a) ∧ (∀ q ∈ rd_ss, ∃ sa, vk_R q.1 q.2.1 q.2.2 sa s) ∧ va_Nc (rd_xn 1) (rd_xn 0) s
end
