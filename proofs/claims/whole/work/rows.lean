section
-- ===== PART A: goes FIRST, ahead of the names: the tables' words, and 'selects' of the private methods out of them =====
/-- a private method of a class that the tables say can be made, by its rows of tables_1 -/
def lw_okq (q : MethodName × Nat) : Prop := (q.1.cls ≠ "java/lang/invoke/MethodHandle" ∧ q.1.cls ≠ "java/lang/invoke/VarHandle") ∧ Cond.instantiable q.1.cls q.2 ∈ tables_1 ∧ Cond.privateMethod q.1 ∈ tables_1 ∧ Cond.instanceMethod q.1 ∈ tables_1
theorem lw_p0 : lw_okq (⟨"java/lang/Throwable", "fillInStackTrace", "(I)Ljava/lang/Throwable;"⟩, 6) := ⟨⟨by decide +kernel, by decide +kernel⟩, List.mem_of_getElem? (i := 251) (by decide +kernel), List.mem_of_getElem? (i := 249) (by decide +kernel), List.mem_of_getElem? (i := 250) (by decide +kernel)⟩
theorem lw_p1 : lw_okq (⟨"ReinsuranceDesk$Claims", "placeByHour", "(I)V"⟩, 7) := ⟨⟨by decide +kernel, by decide +kernel⟩, List.mem_of_getElem? (i := 46) (by decide +kernel), List.mem_of_getElem? (i := 364) (by decide +kernel), List.mem_of_getElem? (i := 365) (by decide +kernel)⟩
theorem lw_p2 : lw_okq (⟨"ReinsuranceDesk", "yearOfClaim", "(I)I"⟩, 6) := ⟨⟨by decide +kernel, by decide +kernel⟩, List.mem_of_getElem? (i := 15) (by decide +kernel), List.mem_of_getElem? (i := 380) (by decide +kernel), List.mem_of_getElem? (i := 381) (by decide +kernel)⟩
theorem lw_p3 : lw_okq (⟨"ReinsuranceDesk$Cession", "begin", "(I)V"⟩, 13) := ⟨⟨by decide +kernel, by decide +kernel⟩, List.mem_of_getElem? (i := 128) (by decide +kernel), List.mem_of_getElem? (i := 412) (by decide +kernel), List.mem_of_getElem? (i := 413) (by decide +kernel)⟩
theorem lw_p4 : lw_okq (⟨"ReinsuranceDesk$Cession", "cedeYear", "(I)V"⟩, 13) := ⟨⟨by decide +kernel, by decide +kernel⟩, List.mem_of_getElem? (i := 128) (by decide +kernel), List.mem_of_getElem? (i := 422) (by decide +kernel), List.mem_of_getElem? (i := 423) (by decide +kernel)⟩
theorem lw_p5 : lw_okq (⟨"ReinsuranceDesk$Cession", "cedeTo", "(I)V"⟩, 13) := ⟨⟨by decide +kernel, by decide +kernel⟩, List.mem_of_getElem? (i := 128) (by decide +kernel), List.mem_of_getElem? (i := 426) (by decide +kernel), List.mem_of_getElem? (i := 427) (by decide +kernel)⟩
theorem lw_p6 : lw_okq (⟨"ReinsuranceDesk$Cession", "cedePremiums", "(I)V"⟩, 13) := ⟨⟨by decide +kernel, by decide +kernel⟩, List.mem_of_getElem? (i := 128) (by decide +kernel), List.mem_of_getElem? (i := 430) (by decide +kernel), List.mem_of_getElem? (i := 431) (by decide +kernel)⟩
theorem lw_p7 : lw_okq (⟨"ReinsuranceDesk$Cession", "cedePartOfEachClaim", "(I)V"⟩, 13) := ⟨⟨by decide +kernel, by decide +kernel⟩, List.mem_of_getElem? (i := 128) (by decide +kernel), List.mem_of_getElem? (i := 446) (by decide +kernel), List.mem_of_getElem? (i := 447) (by decide +kernel)⟩
theorem lw_p8 : lw_okq (⟨"ReinsuranceDesk$Cession", "take", "(IIJ)V"⟩, 13) := ⟨⟨by decide +kernel, by decide +kernel⟩, List.mem_of_getElem? (i := 128) (by decide +kernel), List.mem_of_getElem? (i := 450) (by decide +kernel), List.mem_of_getElem? (i := 451) (by decide +kernel)⟩
theorem lw_p9 : lw_okq (⟨"ReinsuranceDesk$Cession", "cedeExcessOfEachClaim", "(I)V"⟩, 13) := ⟨⟨by decide +kernel, by decide +kernel⟩, List.mem_of_getElem? (i := 128) (by decide +kernel), List.mem_of_getElem? (i := 454) (by decide +kernel), List.mem_of_getElem? (i := 455) (by decide +kernel)⟩
theorem lw_p10 : lw_okq (⟨"ReinsuranceDesk$Cession", "cedeExcessOfEachEvent", "(I)V"⟩, 13) := ⟨⟨by decide +kernel, by decide +kernel⟩, List.mem_of_getElem? (i := 128) (by decide +kernel), List.mem_of_getElem? (i := 470) (by decide +kernel), List.mem_of_getElem? (i := 471) (by decide +kernel)⟩
theorem lw_p11 : lw_okq (⟨"ReinsuranceDesk$Cession", "gatherEvent", "(I)V"⟩, 13) := ⟨⟨by decide +kernel, by decide +kernel⟩, List.mem_of_getElem? (i := 128) (by decide +kernel), List.mem_of_getElem? (i := 474) (by decide +kernel), List.mem_of_getElem? (i := 475) (by decide +kernel)⟩
theorem lw_p12 : lw_okq (⟨"ReinsuranceDesk$Cession", "startOfWindow", "()I"⟩, 13) := ⟨⟨by decide +kernel, by decide +kernel⟩, List.mem_of_getElem? (i := 128) (by decide +kernel), List.mem_of_getElem? (i := 478) (by decide +kernel), List.mem_of_getElem? (i := 479) (by decide +kernel)⟩
theorem lw_p13 : lw_okq (⟨"ReinsuranceDesk$Cession", "keptFrom", "(I)J"⟩, 13) := ⟨⟨by decide +kernel, by decide +kernel⟩, List.mem_of_getElem? (i := 128) (by decide +kernel), List.mem_of_getElem? (i := 483) (by decide +kernel), List.mem_of_getElem? (i := 484) (by decide +kernel)⟩
theorem lw_p14 : lw_okq (⟨"ReinsuranceDesk$Cession", "dropOutside", "(I)V"⟩, 13) := ⟨⟨by decide +kernel, by decide +kernel⟩, List.mem_of_getElem? (i := 128) (by decide +kernel), List.mem_of_getElem? (i := 487) (by decide +kernel), List.mem_of_getElem? (i := 488) (by decide +kernel)⟩
theorem lw_p15 : lw_okq (⟨"ReinsuranceDesk$Cession", "takeByParts", "(IJJ)V"⟩, 13) := ⟨⟨by decide +kernel, by decide +kernel⟩, List.mem_of_getElem? (i := 128) (by decide +kernel), List.mem_of_getElem? (i := 491) (by decide +kernel), List.mem_of_getElem? (i := 492) (by decide +kernel)⟩
def lw_privs_1 : List (MethodName × Nat) := [(⟨"java/lang/Throwable", "fillInStackTrace", "(I)Ljava/lang/Throwable;"⟩, 6), (⟨"ReinsuranceDesk$Claims", "placeByHour", "(I)V"⟩, 7), (⟨"ReinsuranceDesk", "yearOfClaim", "(I)I"⟩, 6), (⟨"ReinsuranceDesk$Cession", "begin", "(I)V"⟩, 13), (⟨"ReinsuranceDesk$Cession", "cedeYear", "(I)V"⟩, 13), (⟨"ReinsuranceDesk$Cession", "cedeTo", "(I)V"⟩, 13), (⟨"ReinsuranceDesk$Cession", "cedePremiums", "(I)V"⟩, 13), (⟨"ReinsuranceDesk$Cession", "cedePartOfEachClaim", "(I)V"⟩, 13), (⟨"ReinsuranceDesk$Cession", "take", "(IIJ)V"⟩, 13), (⟨"ReinsuranceDesk$Cession", "cedeExcessOfEachClaim", "(I)V"⟩, 13), (⟨"ReinsuranceDesk$Cession", "cedeExcessOfEachEvent", "(I)V"⟩, 13), (⟨"ReinsuranceDesk$Cession", "gatherEvent", "(I)V"⟩, 13), (⟨"ReinsuranceDesk$Cession", "startOfWindow", "()I"⟩, 13), (⟨"ReinsuranceDesk$Cession", "keptFrom", "(I)J"⟩, 13), (⟨"ReinsuranceDesk$Cession", "dropOutside", "(I)V"⟩, 13), (⟨"ReinsuranceDesk$Cession", "takeByParts", "(IJJ)V"⟩, 13)]
theorem lw_r1 : ∀ q ∈ lw_privs_1, lw_okq q := List.forall_mem_cons.mpr ⟨lw_p0, List.forall_mem_cons.mpr ⟨lw_p1, List.forall_mem_cons.mpr ⟨lw_p2, List.forall_mem_cons.mpr ⟨lw_p3, List.forall_mem_cons.mpr ⟨lw_p4, List.forall_mem_cons.mpr ⟨lw_p5, List.forall_mem_cons.mpr ⟨lw_p6, List.forall_mem_cons.mpr ⟨lw_p7, List.forall_mem_cons.mpr ⟨lw_p8, List.forall_mem_cons.mpr ⟨lw_p9, List.forall_mem_cons.mpr ⟨lw_p10, List.forall_mem_cons.mpr ⟨lw_p11, List.forall_mem_cons.mpr ⟨lw_p12, List.forall_mem_cons.mpr ⟨lw_p13, List.forall_mem_cons.mpr ⟨lw_p14, List.forall_mem_cons.mpr ⟨lw_p15, fun _ h => absurd h List.not_mem_nil⟩⟩⟩⟩⟩⟩⟩⟩⟩⟩⟩⟩⟩⟩⟩⟩
theorem lw_p16 : lw_okq (⟨"ReinsuranceDesk$Cession", "greatestRemainder", "()I"⟩, 13) := ⟨⟨by decide +kernel, by decide +kernel⟩, List.mem_of_getElem? (i := 128) (by decide +kernel), List.mem_of_getElem? (i := 495) (by decide +kernel), List.mem_of_getElem? (i := 496) (by decide +kernel)⟩
theorem lw_p17 : lw_okq (⟨"ReinsuranceDesk$Cession", "cedeStopLoss", "(I)V"⟩, 13) := ⟨⟨by decide +kernel, by decide +kernel⟩, List.mem_of_getElem? (i := 128) (by decide +kernel), List.mem_of_getElem? (i := 499) (by decide +kernel), List.mem_of_getElem? (i := 500) (by decide +kernel)⟩
theorem lw_p18 : lw_okq (⟨"ReinsuranceDeskModel", "throwing", "(ZZ)Z"⟩, 30) := ⟨⟨by decide +kernel, by decide +kernel⟩, List.mem_of_getElem? (i := 609) (by decide +kernel), List.mem_of_getElem? (i := 720) (by decide +kernel), List.mem_of_getElem? (i := 721) (by decide +kernel)⟩
theorem lw_p19 : lw_okq (⟨"ReinsuranceDeskModel", "isRisk", "(I)Z"⟩, 30) := ⟨⟨by decide +kernel, by decide +kernel⟩, List.mem_of_getElem? (i := 609) (by decide +kernel), List.mem_of_getElem? (i := 728) (by decide +kernel), List.mem_of_getElem? (i := 729) (by decide +kernel)⟩
theorem lw_p20 : lw_okq (⟨"ReinsuranceDeskModel", "isTreaty", "(I)Z"⟩, 30) := ⟨⟨by decide +kernel, by decide +kernel⟩, List.mem_of_getElem? (i := 609) (by decide +kernel), List.mem_of_getElem? (i := 747) (by decide +kernel), List.mem_of_getElem? (i := 748) (by decide +kernel)⟩
theorem lw_p21 : lw_okq (⟨"ReinsuranceDeskModel", "treatyYear", "(I)I"⟩, 30) := ⟨⟨by decide +kernel, by decide +kernel⟩, List.mem_of_getElem? (i := 609) (by decide +kernel), List.mem_of_getElem? (i := 751) (by decide +kernel), List.mem_of_getElem? (i := 752) (by decide +kernel)⟩
theorem lw_p22 : lw_okq (⟨"ReinsuranceDeskModel", "isClaim", "(I)Z"⟩, 30) := ⟨⟨by decide +kernel, by decide +kernel⟩, List.mem_of_getElem? (i := 609) (by decide +kernel), List.mem_of_getElem? (i := 765) (by decide +kernel), List.mem_of_getElem? (i := 766) (by decide +kernel)⟩
theorem lw_p23 : lw_okq (⟨"ReinsuranceDeskModel", "claimYear", "(I)I"⟩, 30) := ⟨⟨by decide +kernel, by decide +kernel⟩, List.mem_of_getElem? (i := 609) (by decide +kernel), List.mem_of_getElem? (i := 769) (by decide +kernel), List.mem_of_getElem? (i := 770) (by decide +kernel)⟩
theorem lw_p24 : lw_okq (⟨"ReinsuranceDeskModel", "reckon", "()V"⟩, 30) := ⟨⟨by decide +kernel, by decide +kernel⟩, List.mem_of_getElem? (i := 609) (by decide +kernel), List.mem_of_getElem? (i := 789) (by decide +kernel), List.mem_of_getElem? (i := 790) (by decide +kernel)⟩
theorem lw_p25 : lw_okq (⟨"ReinsuranceDeskModel", "kindOf", "(I)I"⟩, 30) := ⟨⟨by decide +kernel, by decide +kernel⟩, List.mem_of_getElem? (i := 609) (by decide +kernel), List.mem_of_getElem? (i := 793) (by decide +kernel), List.mem_of_getElem? (i := 794) (by decide +kernel)⟩
theorem lw_p26 : lw_okq (⟨"ReinsuranceDeskModel", "apply", "(I)V"⟩, 30) := ⟨⟨by decide +kernel, by decide +kernel⟩, List.mem_of_getElem? (i := 609) (by decide +kernel), List.mem_of_getElem? (i := 797) (by decide +kernel), List.mem_of_getElem? (i := 798) (by decide +kernel)⟩
theorem lw_p27 : lw_okq (⟨"ReinsuranceDeskModel", "counts", "(II)Z"⟩, 30) := ⟨⟨by decide +kernel, by decide +kernel⟩, List.mem_of_getElem? (i := 609) (by decide +kernel), List.mem_of_getElem? (i := 801) (by decide +kernel), List.mem_of_getElem? (i := 802) (by decide +kernel)⟩
theorem lw_p28 : lw_okq (⟨"ReinsuranceDeskModel", "partOf", "(II)J"⟩, 30) := ⟨⟨by decide +kernel, by decide +kernel⟩, List.mem_of_getElem? (i := 609) (by decide +kernel), List.mem_of_getElem? (i := 805) (by decide +kernel), List.mem_of_getElem? (i := 806) (by decide +kernel)⟩
theorem lw_p29 : lw_okq (⟨"ReinsuranceDeskModel", "take", "(IIJ)V"⟩, 30) := ⟨⟨by decide +kernel, by decide +kernel⟩, List.mem_of_getElem? (i := 609) (by decide +kernel), List.mem_of_getElem? (i := 809) (by decide +kernel), List.mem_of_getElem? (i := 810) (by decide +kernel)⟩
theorem lw_p30 : lw_okq (⟨"ReinsuranceDeskModel", "excessOfRisks", "(I)V"⟩, 30) := ⟨⟨by decide +kernel, by decide +kernel⟩, List.mem_of_getElem? (i := 609) (by decide +kernel), List.mem_of_getElem? (i := 813) (by decide +kernel), List.mem_of_getElem? (i := 814) (by decide +kernel)⟩
theorem lw_p31 : lw_okq (⟨"ReinsuranceDeskModel", "allowed", "(IJ)J"⟩, 30) := ⟨⟨by decide +kernel, by decide +kernel⟩, List.mem_of_getElem? (i := 609) (by decide +kernel), List.mem_of_getElem? (i := 820) (by decide +kernel), List.mem_of_getElem? (i := 821) (by decide +kernel)⟩
def lw_privs_2 : List (MethodName × Nat) := [(⟨"ReinsuranceDesk$Cession", "greatestRemainder", "()I"⟩, 13), (⟨"ReinsuranceDesk$Cession", "cedeStopLoss", "(I)V"⟩, 13), (⟨"ReinsuranceDeskModel", "throwing", "(ZZ)Z"⟩, 30), (⟨"ReinsuranceDeskModel", "isRisk", "(I)Z"⟩, 30), (⟨"ReinsuranceDeskModel", "isTreaty", "(I)Z"⟩, 30), (⟨"ReinsuranceDeskModel", "treatyYear", "(I)I"⟩, 30), (⟨"ReinsuranceDeskModel", "isClaim", "(I)Z"⟩, 30), (⟨"ReinsuranceDeskModel", "claimYear", "(I)I"⟩, 30), (⟨"ReinsuranceDeskModel", "reckon", "()V"⟩, 30), (⟨"ReinsuranceDeskModel", "kindOf", "(I)I"⟩, 30), (⟨"ReinsuranceDeskModel", "apply", "(I)V"⟩, 30), (⟨"ReinsuranceDeskModel", "counts", "(II)Z"⟩, 30), (⟨"ReinsuranceDeskModel", "partOf", "(II)J"⟩, 30), (⟨"ReinsuranceDeskModel", "take", "(IIJ)V"⟩, 30), (⟨"ReinsuranceDeskModel", "excessOfRisks", "(I)V"⟩, 30), (⟨"ReinsuranceDeskModel", "allowed", "(IJ)J"⟩, 30)]
theorem lw_r2 : ∀ q ∈ lw_privs_2, lw_okq q := List.forall_mem_cons.mpr ⟨lw_p16, List.forall_mem_cons.mpr ⟨lw_p17, List.forall_mem_cons.mpr ⟨lw_p18, List.forall_mem_cons.mpr ⟨lw_p19, List.forall_mem_cons.mpr ⟨lw_p20, List.forall_mem_cons.mpr ⟨lw_p21, List.forall_mem_cons.mpr ⟨lw_p22, List.forall_mem_cons.mpr ⟨lw_p23, List.forall_mem_cons.mpr ⟨lw_p24, List.forall_mem_cons.mpr ⟨lw_p25, List.forall_mem_cons.mpr ⟨lw_p26, List.forall_mem_cons.mpr ⟨lw_p27, List.forall_mem_cons.mpr ⟨lw_p28, List.forall_mem_cons.mpr ⟨lw_p29, List.forall_mem_cons.mpr ⟨lw_p30, List.forall_mem_cons.mpr ⟨lw_p31, fun _ h => absurd h List.not_mem_nil⟩⟩⟩⟩⟩⟩⟩⟩⟩⟩⟩⟩⟩⟩⟩⟩
theorem lw_p32 : lw_okq (⟨"ReinsuranceDeskModel", "excessOfEvents", "(I)V"⟩, 30) := ⟨⟨by decide +kernel, by decide +kernel⟩, List.mem_of_getElem? (i := 609) (by decide +kernel), List.mem_of_getElem? (i := 824) (by decide +kernel), List.mem_of_getElem? (i := 825) (by decide +kernel)⟩
theorem lw_p33 : lw_okq (⟨"ReinsuranceDeskModel", "inWindow", "(III)J"⟩, 30) := ⟨⟨by decide +kernel, by decide +kernel⟩, List.mem_of_getElem? (i := 609) (by decide +kernel), List.mem_of_getElem? (i := 828) (by decide +kernel), List.mem_of_getElem? (i := 829) (by decide +kernel)⟩
theorem lw_p34 : lw_okq (⟨"ReinsuranceDeskModel", "spread", "(IJJ)V"⟩, 30) := ⟨⟨by decide +kernel, by decide +kernel⟩, List.mem_of_getElem? (i := 609) (by decide +kernel), List.mem_of_getElem? (i := 832) (by decide +kernel), List.mem_of_getElem? (i := 833) (by decide +kernel)⟩
theorem lw_p35 : lw_okq (⟨"ReinsuranceDeskModel", "ratio", "(I)J"⟩, 30) := ⟨⟨by decide +kernel, by decide +kernel⟩, List.mem_of_getElem? (i := 609) (by decide +kernel), List.mem_of_getElem? (i := 853) (by decide +kernel), List.mem_of_getElem? (i := 854) (by decide +kernel)⟩
theorem lw_p36 : lw_okq (⟨"ReinsuranceDeskModel", "commission", "(I)J"⟩, 30) := ⟨⟨by decide +kernel, by decide +kernel⟩, List.mem_of_getElem? (i := 609) (by decide +kernel), List.mem_of_getElem? (i := 858) (by decide +kernel), List.mem_of_getElem? (i := 859) (by decide +kernel)⟩
theorem lw_p37 : lw_okq (⟨"ReinsuranceDeskModel", "shareOf", "(IIJ)J"⟩, 30) := ⟨⟨by decide +kernel, by decide +kernel⟩, List.mem_of_getElem? (i := 609) (by decide +kernel), List.mem_of_getElem? (i := 868) (by decide +kernel), List.mem_of_getElem? (i := 869) (by decide +kernel)⟩
theorem lw_p38 : lw_okq (⟨"ReinsuranceDeskModel", "reinstatement", "(II)J"⟩, 30) := ⟨⟨by decide +kernel, by decide +kernel⟩, List.mem_of_getElem? (i := 609) (by decide +kernel), List.mem_of_getElem? (i := 872) (by decide +kernel), List.mem_of_getElem? (i := 873) (by decide +kernel)⟩
def lw_privs_3 : List (MethodName × Nat) := [(⟨"ReinsuranceDeskModel", "excessOfEvents", "(I)V"⟩, 30), (⟨"ReinsuranceDeskModel", "inWindow", "(III)J"⟩, 30), (⟨"ReinsuranceDeskModel", "spread", "(IJJ)V"⟩, 30), (⟨"ReinsuranceDeskModel", "ratio", "(I)J"⟩, 30), (⟨"ReinsuranceDeskModel", "commission", "(I)J"⟩, 30), (⟨"ReinsuranceDeskModel", "shareOf", "(IIJ)J"⟩, 30), (⟨"ReinsuranceDeskModel", "reinstatement", "(II)J"⟩, 30)]
theorem lw_r3 : ∀ q ∈ lw_privs_3, lw_okq q := List.forall_mem_cons.mpr ⟨lw_p32, List.forall_mem_cons.mpr ⟨lw_p33, List.forall_mem_cons.mpr ⟨lw_p34, List.forall_mem_cons.mpr ⟨lw_p35, List.forall_mem_cons.mpr ⟨lw_p36, List.forall_mem_cons.mpr ⟨lw_p37, List.forall_mem_cons.mpr ⟨lw_p38, fun _ h => absurd h List.not_mem_nil⟩⟩⟩⟩⟩⟩⟩
def lw_privs : List (MethodName × Nat) := lw_privs_1 ++ (lw_privs_2 ++ (lw_privs_3))
def lw_tbl : List Cond := k2_sels lw_privs ++ tables_1
theorem lw_privs_ok : ∀ q ∈ lw_privs, lw_okq q := by
  show ∀ q ∈ lw_privs_1 ++ (lw_privs_2 ++ (lw_privs_3)), lw_okq q
  exact List.forall_mem_append.mpr ⟨lw_r1, List.forall_mem_append.mpr ⟨lw_r2, lw_r3⟩⟩
end
section
/-! names: classes and their fields, the world's shape, methods -/
def rd_T0 : u_T := fun k => match k with
  | 0 => ("ReinsuranceDesk$Cession", "risks", "LReinsuranceDesk$Risks;", true)
  | 1 => ("ReinsuranceDesk$Cession", "claims", "LReinsuranceDesk$Claims;", true)
  | 2 => ("ReinsuranceDesk$Cession", "treaties", "LReinsuranceDesk$Treaties;", true)
  | 3 => ("ReinsuranceDesk$Cession", "counts", "[Z", true)
  | 4 => ("ReinsuranceDesk$Cession", "keptOf", "[I", true)
  | 5 => ("ReinsuranceDesk$Cession", "cededOf", "[I", true)
  | 6 => ("ReinsuranceDesk$Cession", "taken", "[J", true)
  | 7 => ("ReinsuranceDesk$Cession", "windowOf", "[I", true)
  | 8 => ("ReinsuranceDesk$Cession", "premiumLeft", "[J", true)
  | 9 => ("ReinsuranceDesk$Cession", "premiumTo", "[J", true)
  | 10 => ("ReinsuranceDesk$Cession", "group", "[I", true)
  | 11 => ("ReinsuranceDesk$Cession", "groupSize", "I", false)
  | _ => ("ReinsuranceDesk$Cession", "remainder", "[J", true)
def rd_t0 : Nat → FieldType := fun k => match k with
  | 0 => .object "ReinsuranceDesk$Risks"
  | 1 => .object "ReinsuranceDesk$Claims"
  | 2 => .object "ReinsuranceDesk$Treaties"
  | 3 => .array .boolean
  | 4 => .array .int
  | 5 => .array .int
  | 6 => .array .long
  | 7 => .array .int
  | 8 => .array .long
  | 9 => .array .long
  | 10 => .array .int
  | 11 => .int
  | _ => .array .long
theorem rd_nn0 : ∀ a, a < 13 → ∀ b, b < 13 → a ≠ b → (rd_T0 a).2.1 ≠ (rd_T0 b).2.1 := by decide +kernel
theorem rd_tt0 : ∀ k, k < 13 → parseFieldDescriptor (rd_T0 k).2.2.1 = some (rd_t0 k) := by decide +kernel
def rd_T1 : u_T := fun k => match k with
  | 0 => ("ReinsuranceDesk$Claims", "count", "I", false)
  | 1 => ("ReinsuranceDesk$Claims", "riskOf", "[I", true)
  | 2 => ("ReinsuranceDesk$Claims", "event", "[I", true)
  | 3 => ("ReinsuranceDesk$Claims", "hour", "[I", true)
  | 4 => ("ReinsuranceDesk$Claims", "amount", "[I", true)
  | 5 => ("ReinsuranceDesk$Claims", "struck", "[Z", true)
  | _ => ("ReinsuranceDesk$Claims", "byHour", "[I", true)
def rd_t1 : Nat → FieldType := fun k => match k with
  | 0 => .int
  | 1 => .array .int
  | 2 => .array .int
  | 3 => .array .int
  | 4 => .array .int
  | 5 => .array .boolean
  | _ => .array .int
theorem rd_nn1 : ∀ a, a < 7 → ∀ b, b < 7 → a ≠ b → (rd_T1 a).2.1 ≠ (rd_T1 b).2.1 := by decide +kernel
theorem rd_tt1 : ∀ k, k < 7 → parseFieldDescriptor (rd_T1 k).2.2.1 = some (rd_t1 k) := by decide +kernel
def rd_T2 : u_T := fun k => match k with
  | 0 => ("ReinsuranceDesk$Risks", "sum", "[I", true)
  | 1 => ("ReinsuranceDesk$Risks", "premiumOf", "[I", true)
  | _ => ("ReinsuranceDesk$Risks", "yearOf", "[I", true)
def rd_t2 : Nat → FieldType := fun k => match k with
  | 0 => .array .int
  | 1 => .array .int
  | _ => .array .int
theorem rd_nn2 : ∀ a, a < 3 → ∀ b, b < 3 → a ≠ b → (rd_T2 a).2.1 ≠ (rd_T2 b).2.1 := by decide +kernel
theorem rd_tt2 : ∀ k, k < 3 → parseFieldDescriptor (rd_T2 k).2.2.1 = some (rd_t2 k) := by decide +kernel
def rd_T3 : u_T := fun k => match k with
  | 0 => ("ReinsuranceDesk$Treaties", "count", "I", false)
  | 1 => ("ReinsuranceDesk$Treaties", "kind", "[I", true)
  | 2 => ("ReinsuranceDesk$Treaties", "yearOf", "[I", true)
  | 3 => ("ReinsuranceDesk$Treaties", "a", "[J", true)
  | 4 => ("ReinsuranceDesk$Treaties", "b", "[J", true)
  | 5 => ("ReinsuranceDesk$Treaties", "c", "[J", true)
  | 6 => ("ReinsuranceDesk$Treaties", "d", "[J", true)
  | _ => ("ReinsuranceDesk$Treaties", "part", "[I", true)
def rd_t3 : Nat → FieldType := fun k => match k with
  | 0 => .int
  | 1 => .array .int
  | 2 => .array .int
  | 3 => .array .long
  | 4 => .array .long
  | 5 => .array .long
  | 6 => .array .long
  | _ => .array .int
theorem rd_nn3 : ∀ a, a < 8 → ∀ b, b < 8 → a ≠ b → (rd_T3 a).2.1 ≠ (rd_T3 b).2.1 := by decide +kernel
theorem rd_tt3 : ∀ k, k < 8 → parseFieldDescriptor (rd_T3 k).2.2.1 = some (rd_t3 k) := by decide +kernel
def rd_T4 : u_T := fun k => match k with
  | 0 => ("ReinsuranceDesk", "risks", "LReinsuranceDesk$Risks;", true)
  | 1 => ("ReinsuranceDesk", "claims", "LReinsuranceDesk$Claims;", true)
  | 2 => ("ReinsuranceDesk", "treaties", "LReinsuranceDesk$Treaties;", true)
  | 3 => ("ReinsuranceDesk", "cession", "LReinsuranceDesk$Cession;", true)
  | 4 => ("ReinsuranceDesk", "closed", "[Z", true)
  | _ => ("ReinsuranceDesk", "billed", "[J", true)
def rd_t4 : Nat → FieldType := fun k => match k with
  | 0 => .object "ReinsuranceDesk$Risks"
  | 1 => .object "ReinsuranceDesk$Claims"
  | 2 => .object "ReinsuranceDesk$Treaties"
  | 3 => .object "ReinsuranceDesk$Cession"
  | 4 => .array .boolean
  | _ => .array .long
theorem rd_nn4 : ∀ a, a < 6 → ∀ b, b < 6 → a ≠ b → (rd_T4 a).2.1 ≠ (rd_T4 b).2.1 := by decide +kernel
theorem rd_tt4 : ∀ k, k < 6 → parseFieldDescriptor (rd_T4 k).2.2.1 = some (rd_t4 k) := by decide +kernel
def rd_T5 : u_T := fun k => match k with
  | 0 => ("ReinsuranceDeskModel", "thrown", "I", false)
  | 1 => ("ReinsuranceDeskModel", "sum", "[I", true)
  | 2 => ("ReinsuranceDeskModel", "premium", "[I", true)
  | 3 => ("ReinsuranceDeskModel", "yearOf", "[I", true)
  | 4 => ("ReinsuranceDeskModel", "risk", "[I", true)
  | 5 => ("ReinsuranceDeskModel", "event", "[I", true)
  | 6 => ("ReinsuranceDeskModel", "hour", "[I", true)
  | 7 => ("ReinsuranceDeskModel", "estimate", "[I", true)
  | 8 => ("ReinsuranceDeskModel", "struck", "[Z", true)
  | 9 => ("ReinsuranceDeskModel", "claims", "I", false)
  | 10 => ("ReinsuranceDeskModel", "shape", "[I", true)
  | 11 => ("ReinsuranceDeskModel", "a", "[I", true)
  | 12 => ("ReinsuranceDeskModel", "b", "[I", true)
  | 13 => ("ReinsuranceDeskModel", "c", "[I", true)
  | 14 => ("ReinsuranceDeskModel", "d", "[I", true)
  | 15 => ("ReinsuranceDeskModel", "treaties", "I", false)
  | 16 => ("ReinsuranceDeskModel", "shares", "[I", true)
  | 17 => ("ReinsuranceDeskModel", "billed", "[J", true)
  | 18 => ("ReinsuranceDeskModel", "closed", "[Z", true)
  | 19 => ("ReinsuranceDeskModel", "kept", "[J", true)
  | 20 => ("ReinsuranceDeskModel", "taken", "[J", true)
  | 21 => ("ReinsuranceDeskModel", "total", "[J", true)
  | 22 => ("ReinsuranceDeskModel", "earned", "[J", true)
  | 23 => ("ReinsuranceDeskModel", "window", "[I", true)
  | 24 => ("ReinsuranceDeskModel", "left", "[J", true)
  | 25 => ("ReinsuranceDeskModel", "inside", "[Z", true)
  | 26 => ("ReinsuranceDeskModel", "rest", "[J", true)
  | 27 => ("ReinsuranceDeskModel", "more", "[I", true)
  | 28 => ("ReinsuranceDeskModel", "passed", "J", false)
  | _ => ("ReinsuranceDeskModel", "used", "J", false)
def rd_t5 : Nat → FieldType := fun k => match k with
  | 0 => .int
  | 1 => .array .int
  | 2 => .array .int
  | 3 => .array .int
  | 4 => .array .int
  | 5 => .array .int
  | 6 => .array .int
  | 7 => .array .int
  | 8 => .array .boolean
  | 9 => .int
  | 10 => .array .int
  | 11 => .array .int
  | 12 => .array .int
  | 13 => .array .int
  | 14 => .array .int
  | 15 => .int
  | 16 => .array .int
  | 17 => .array .long
  | 18 => .array .boolean
  | 19 => .array .long
  | 20 => .array .long
  | 21 => .array .long
  | 22 => .array .long
  | 23 => .array .int
  | 24 => .array .long
  | 25 => .array .boolean
  | 26 => .array .long
  | 27 => .array .int
  | 28 => .long
  | _ => .long
theorem rd_nn5 : ∀ a, a < 30 → ∀ b, b < 30 → a ≠ b → (rd_T5 a).2.1 ≠ (rd_T5 b).2.1 := by decide +kernel
theorem rd_tt5 : ∀ k, k < 30 → parseFieldDescriptor (rd_T5 k).2.2.1 = some (rd_t5 k) := by decide +kernel
abbrev rd_CL : List vw_C := [("ReinsuranceDesk$Cession", rd_T0, 13), ("ReinsuranceDesk$Claims", rd_T1, 7), ("ReinsuranceDesk$Risks", rd_T2, 3), ("ReinsuranceDesk$Treaties", rd_T3, 8), ("ReinsuranceDesk", rd_T4, 6), ("ReinsuranceDeskModel", rd_T5, 30)]
/-- the world: arrays (kind of element, length), objects (class, fields: a place, or a number) -/
def rd_SH : List ((Nat × Nat) ⊕ (Nat × List (Nat ⊕ Nat))) := [
  .inr (4, [.inl 1, .inl 2, .inl 3, .inl 4, .inl 5, .inl 6]),
  .inr (2, [.inl 7, .inl 8, .inl 9]),
  .inr (1, [.inr 0, .inl 10, .inl 11, .inl 12, .inl 13, .inl 14, .inl 15]),
  .inr (3, [.inr 0, .inl 16, .inl 17, .inl 18, .inl 19, .inl 20, .inl 21, .inl 22]),
  .inr (0, [.inl 1, .inl 2, .inl 3, .inl 23, .inl 24, .inl 25, .inl 26, .inl 27, .inl 28, .inl 29, .inl 30, .inr 0, .inl 31]),
  .inl (2, 4),
  .inl (1, 6),
  .inl (0, 12),
  .inl (0, 12),
  .inl (0, 12),
  .inl (0, 40),
  .inl (0, 40),
  .inl (0, 40),
  .inl (0, 40),
  .inl (2, 40),
  .inl (0, 40),
  .inl (0, 10),
  .inl (0, 10),
  .inl (1, 10),
  .inl (1, 10),
  .inl (1, 10),
  .inl (1, 10),
  .inl (0, 60),
  .inl (2, 40),
  .inl (0, 40),
  .inl (0, 400),
  .inl (1, 10),
  .inl (0, 100),
  .inl (1, 12),
  .inl (1, 10),
  .inl (0, 40),
  .inl (1, 40),
  .inr (5, [.inr 0, .inl 33, .inl 34, .inl 35, .inl 36, .inl 37, .inl 38, .inl 39, .inl 40, .inr 0, .inl 41, .inl 42, .inl 43, .inl 44, .inl 45, .inr 0, .inl 46, .inl 47, .inl 48, .inl 49, .inl 50, .inl 51, .inl 52, .inl 53, .inl 54, .inl 55, .inl 56, .inl 57, .inr 1, .inr 1]),
  .inl (0, 12),
  .inl (0, 12),
  .inl (0, 12),
  .inl (0, 40),
  .inl (0, 40),
  .inl (0, 40),
  .inl (0, 40),
  .inl (2, 40),
  .inl (0, 10),
  .inl (0, 10),
  .inl (0, 10),
  .inl (0, 10),
  .inl (0, 10),
  .inl (0, 60),
  .inl (1, 6),
  .inl (2, 4),
  .inl (1, 40),
  .inl (1, 400),
  .inl (1, 10),
  .inl (1, 10),
  .inl (0, 100),
  .inl (1, 12),
  .inl (2, 40),
  .inl (1, 40),
  .inl (0, 40),
  .inl (1, 1)]
def rd_ws : List Cond := lw_tbl.filter goodWord
def rd_KC : Nat := 1
def rd_KS : Nat := 6
def rd_xn (k : Nat) : String := match k with
  | 0 => "java/lang/IllegalArgumentException"
  | _ => "java/lang/IllegalStateException"
theorem rd_m {w : Cond} (i : Nat) (h : tables_1[i]? = some w) (g : goodWord w = true := by rfl) : w ∈ rd_ws := List.mem_filter.mpr ⟨List.mem_append_right _ (List.mem_of_getElem? h), g⟩
theorem rd_ms {w : Cond} (h : w ∈ k2_sels lw_privs) (g : goodWord w = true := by rfl) : w ∈ rd_ws := List.mem_filter.mpr ⟨List.mem_append_left _ h, g⟩
set_option maxRecDepth 100000 in
theorem rd_good : ∀ w ∈ rd_ws, goodWord w = true := fun w h => (List.mem_filter.mp h).2
set_option maxRecDepth 100000 in
theorem rd_u0 : ∀ w ∈ u_ws "ReinsuranceDesk$Cession" rd_T0 13, w ∈ rd_ws := fun w h => of_decide_eq_true (List.all_eq_true.mp (by decide +kernel : (u_ws "ReinsuranceDesk$Cession" rd_T0 13).all (fun w => decide (w ∈ rd_ws)) = true) w h)
set_option maxRecDepth 100000 in
theorem rd_u1 : ∀ w ∈ u_ws "ReinsuranceDesk$Claims" rd_T1 7, w ∈ rd_ws := fun w h => of_decide_eq_true (List.all_eq_true.mp (by decide +kernel : (u_ws "ReinsuranceDesk$Claims" rd_T1 7).all (fun w => decide (w ∈ rd_ws)) = true) w h)
set_option maxRecDepth 100000 in
theorem rd_u2 : ∀ w ∈ u_ws "ReinsuranceDesk$Risks" rd_T2 3, w ∈ rd_ws := fun w h => of_decide_eq_true (List.all_eq_true.mp (by decide +kernel : (u_ws "ReinsuranceDesk$Risks" rd_T2 3).all (fun w => decide (w ∈ rd_ws)) = true) w h)
set_option maxRecDepth 100000 in
theorem rd_u3 : ∀ w ∈ u_ws "ReinsuranceDesk$Treaties" rd_T3 8, w ∈ rd_ws := fun w h => of_decide_eq_true (List.all_eq_true.mp (by decide +kernel : (u_ws "ReinsuranceDesk$Treaties" rd_T3 8).all (fun w => decide (w ∈ rd_ws)) = true) w h)
set_option maxRecDepth 100000 in
theorem rd_u4 : ∀ w ∈ u_ws "ReinsuranceDesk" rd_T4 6, w ∈ rd_ws := fun w h => of_decide_eq_true (List.all_eq_true.mp (by decide +kernel : (u_ws "ReinsuranceDesk" rd_T4 6).all (fun w => decide (w ∈ rd_ws)) = true) w h)
set_option maxRecDepth 100000 in
theorem rd_u5 : ∀ w ∈ u_ws "ReinsuranceDeskModel" rd_T5 30, w ∈ rd_ws := fun w h => of_decide_eq_true (List.all_eq_true.mp (by decide +kernel : (u_ws "ReinsuranceDeskModel" rd_T5 30).all (fun w => decide (w ∈ rd_ws)) = true) w h)
end
section
/-! numbers: a machine word as an integer -/
abbrev rd_I (x : Int) : Prop := -2147483648 ≤ x ∧ x ≤ 2147483647
abbrev rd_J (x : Int) : Prop := -9223372036854775808 ≤ x ∧ x ≤ 9223372036854775807
theorem rd_i32 {x : Int} (h : rd_I x) : (Int32.ofInt x).toInt = x := Int32.toInt_ofInt_of_le (by have := h.1; omega) (by have := h.2; omega)
theorem rd_i64 {x : Int} (h : rd_J x) : (Int64.ofInt x).toInt = x := Int64.toInt_ofInt_of_le (by have := h.1; omega) (by have := h.2; omega)
theorem rd_lt32 {x y : Int} (hx : rd_I x) (hy : rd_I y) : Int32.ofInt x < Int32.ofInt y ↔ x < y := by rw [Int32.lt_iff_toInt_lt, rd_i32 hx, rd_i32 hy]
theorem rd_le32 {x y : Int} (hx : rd_I x) (hy : rd_I y) : Int32.ofInt x ≤ Int32.ofInt y ↔ x ≤ y := by rw [Int32.le_iff_toInt_le, rd_i32 hx, rd_i32 hy]
theorem rd_eq32 {x y : Int} (hx : rd_I x) (hy : rd_I y) : Int32.ofInt x = Int32.ofInt y ↔ x = y := by rw [← Int32.toInt_inj, rd_i32 hx, rd_i32 hy]
theorem rd_lt64 {x y : Int} (hx : rd_J x) (hy : rd_J y) : Int64.ofInt x < Int64.ofInt y ↔ x < y := by rw [Int64.lt_iff_toInt_lt, rd_i64 hx, rd_i64 hy]
theorem rd_eq64 {x y : Int} (hx : rd_J x) (hy : rd_J y) : Int64.ofInt x = Int64.ofInt y ↔ x = y := by rw [← Int64.toInt_inj, rd_i64 hx, rd_i64 hy]
theorem rd_I0 : rd_I 0 := by constructor <;> decide
theorem rd_zero32 : (0 : Int32) = Int32.ofInt 0 := lit0.symm
theorem rd_ne0_32 {y : Int} (hy : rd_I y) (h : y ≠ 0) : ¬ Int32.ofInt y = 0 := by rw [rd_zero32, rd_eq32 hy rd_I0]; exact h
theorem rd_ne0_64 {y : Int} (hy : rd_J y) (h : y ≠ 0) : ¬ Int64.ofInt y = 0 := by
  rw [← Int64.toInt_inj, rd_i64 hy]; simpa using h
theorem rd_div32 {x y : Int} (hx : rd_I x) (hy : rd_I y) : Int32.ofInt x / Int32.ofInt y = Int32.ofInt (x.tdiv y) := (Int32.ofInt_tdiv hx.1 hx.2 hy.1 hy.2).symm
theorem rd_mod32 {x y : Int} (hx : rd_I x) (hy : rd_I y) : Int32.ofInt x % Int32.ofInt y = Int32.ofInt (x.tmod y) := (Int32.ofInt_tmod hx.1 hx.2 hy.1 hy.2).symm
theorem rd_div64 {x y : Int} (hx : rd_J x) (hy : rd_J y) : Int64.ofInt x / Int64.ofInt y = Int64.ofInt (x.tdiv y) := (Int64.ofInt_tdiv hx.1 hx.2 hy.1 hy.2).symm
theorem rd_mod64 {x y : Int} (hx : rd_J x) (hy : rd_J y) : Int64.ofInt x % Int64.ofInt y = Int64.ofInt (x.tmod y) := (Int64.ofInt_tmod hx.1 hx.2 hy.1 hy.2).symm
theorem rd_ci2l {x : Int} (hx : rd_I x) : (Int32.ofInt x).toInt64 = Int64.ofInt x := Int32.toInt64_ofInt hx.1 hx.2
theorem rd_cl2i {x : Int} : (Int64.ofInt x).toInt32 = Int32.ofInt x := Int64.toInt32_ofInt
theorem rd_clamp {i : Int} (h0 : 0 ≤ i) (h1 : i ≤ 2147483647) : (Int32.ofInt i).toNatClampNeg = i.toNat := Int32.toNatClampNeg_ofInt_of_le (by omega) (by omega)
theorem rd_in {i : Int} {n : Nat} (h0 : 0 ≤ i) (h1 : i < n) (hn : n ≤ 2147483647) : vp_in (Int32.ofInt i) n := by
  have hi : rd_I i := ⟨by omega, by omega⟩
  intro h
  rcases h with h | h
  · rw [rd_zero32, rd_lt32 hi rd_I0] at h; omega
  · rw [rd_clamp h0 (by omega)] at h; omega
/-! the memory: a place's contents at an index; a method; the shape of the world -/
abbrev rd_M : Type := Nat → Int → Int
abbrev rd_i (x : Int) : Value := .int (Int32.ofInt x)
abbrev rd_l (x : Int) : Value := .long (Int64.ofInt x)
/-- name, code, locals, answer's type, handlers, depth of its calls, words that they take, exceptions that it may make, the script if it reads one -/
abbrev rd_X : Type := MethodName × ByteArray × Nat × Option FieldType × List (Nat × Nat × Nat × Nat) × Nat × Nat × Nat × Option (Nat × (Int → Int))
abbrev rd_nm (x : rd_X) : MethodName := x.1
abbrev rd_cd (x : rd_X) : ByteArray := x.2.1
abbrev rd_ml (x : rd_X) : Nat := x.2.2.1
abbrev rd_rt (x : rd_X) : Option FieldType := x.2.2.2.1
abbrev rd_hs (x : rd_X) : List (Nat × Nat × Nat × Nat) := x.2.2.2.2.1
abbrev rd_dp (x : rd_X) : Nat := x.2.2.2.2.2.1
abbrev rd_lb (x : rd_X) : Nat := x.2.2.2.2.2.2.1
abbrev rd_cp (x : rd_X) : Nat := x.2.2.2.2.2.2.2.1
abbrev rd_sc (x : rd_X) : Option (Nat × (Int → Int)) := x.2.2.2.2.2.2.2.2
/-- an answer, or which exception -/
abbrev rd_R : Type := Option Value ⊕ Nat
def rd_pv (σ : Nat → Nat) : Value → Value
  | .ref q => .ref (σ q)
  | v => v
def rd_fv (σ : Nat → Nat) (m : Int → Int) (k : Nat) : Nat ⊕ Nat → Value
  | .inl q => .ref (σ q)
  | .inr 0 => rd_i (m k)
  | .inr _ => rd_l (m k)
def rd_cell (σ : Nat → Nat) (cA : Nat → ClassId) (m : Int → Int) : (Nat × Nat) ⊕ (Nat × List (Nat ⊕ Nat)) → va_E
  | .inl (0, n) => .inl (cA 0, n, .inl (fun j => Int32.ofInt (m j)))
  | .inl (1, n) => .inl (cA 1, n, .inr (.inl (fun j => Int64.ofInt (m j))))
  | .inl (_, n) => .inl (cA 2, n, .inl (fun j => Int32.ofInt (m j)))
  | .inr (k, fs) => .inr (k, fs.mapIdx (fun j f => rd_fv σ m j f))
def rd_wd (σ : Nat → Nat) (cA : Nat → ClassId) (M : rd_M) : va_W := rd_SH.mapIdx (fun i c => (σ i, rd_cell σ cA (M i) c))
abbrev rd_ty (cA : Nat → ClassId) : List (ClassId × FieldType) := [(cA 0, .int), (cA 1, .long), (cA 2, .boolean)]
def rd_up (M : rd_M) (p : Nat) (i v : Int) : rd_M := fun q j => if q = p ∧ j = i then v else M q j
theorem rd_up_ne {M : rd_M} {p q : Nat} {i v : Int} (h : q ≠ p) : rd_up M p i v q = M q := by
  funext j; simp [rd_up, h]
theorem rd_up_same {M : rd_M} {p : Nat} {i v j : Int} : rd_up M p i v p j = if j = i then v else M p j := by simp [rd_up]
theorem rd_wd_at {σ : Nat → Nat} {cA : Nat → ClassId} {M : rd_M} {p : Nat} {c : (Nat × Nat) ⊕ (Nat × List (Nat ⊕ Nat))} (h : rd_SH[p]? = some c) : (rd_wd σ cA M)[p]? = some (σ p, rd_cell σ cA (M p) c) := by
  simp [rd_wd, List.getElem?_mapIdx, h]
theorem rd_wd_set {σ : Nat → Nat} {cA : Nat → ClassId} {M : rd_M} {p : Nat} {c : (Nat × Nat) ⊕ (Nat × List (Nat ⊕ Nat))} {i v : Int} {e : va_E} (h : rd_SH[p]? = some c) (he : rd_cell σ cA (rd_up M p i v p) c = e) : (rd_wd σ cA M).set p (σ p, e) = rd_wd σ cA (rd_up M p i v) := by
  apply List.ext_getElem?
  intro k
  by_cases hk : k = p
  · subst hk
    have hl : k < (rd_wd σ cA M).length := (List.getElem?_eq_some_iff.mp (rd_wd_at (M := M) h)).1
    rw [List.getElem?_set_self hl, rd_wd_at h, he]
  · rw [List.getElem?_set_ne (Ne.symm hk)]
    simp only [rd_wd, List.getElem?_mapIdx, rd_up_ne hk]
def rd_inj (σ : Nat → Nat) : Prop := ∀ i j, i < rd_SH.length → j < rd_SH.length → σ i = σ j → i = j
theorem rd_wd_len {σ : Nat → Nat} {cA : Nat → ClassId} {M : rd_M} : (rd_wd σ cA M).length = rd_SH.length := by simp [rd_wd]
theorem rd_wd_ad {σ : Nat → Nat} {cA : Nat → ClassId} {M : rd_M} {k : Nat} {q : Nat × va_E} (h : (rd_wd σ cA M)[k]? = some q) : k < rd_SH.length ∧ q.1 = σ k := by
  have hl := (List.getElem?_eq_some_iff.mp h).1
  rw [rd_wd_len] at hl
  refine ⟨hl, ?_⟩
  simp only [rd_wd, List.getElem?_mapIdx] at h
  cases hc : rd_SH[k]? with
  | none => rw [hc] at h; cases h
  | some c => rw [hc] at h; cases h; rfl
theorem rd_D {σ : Nat → Nat} {cA : Nat → ClassId} {M : rd_M} {A : Nat → Prop} (hj : rd_inj σ) (hA : ∀ i, i < rd_SH.length → A (σ i)) : va_D A (rd_wd σ cA M) := by
  refine ⟨fun i j p q hi hj' he => ?_, fun k q hk => ?_⟩
  · obtain ⟨a1, a2⟩ := rd_wd_ad hi
    obtain ⟨b1, b2⟩ := rd_wd_ad hj'
    exact hj i j a1 b1 (by rw [← a2, ← b2]; exact he)
  · obtain ⟨a1, a2⟩ := rd_wd_ad hk
    rw [a2]; exact hA k a1
/-- the locals: what is known of them -/
def rd_L (σ : Nat → Nat) (ls : Array Slot) (nL : Nat) (L : List (Option Value)) : Prop := ls.size = nL ∧ lv_wf ls ∧ L.length ≤ nL ∧ ∀ (i : Nat) (v : Value), L[i]? = some (some v) → ls[i]? = some (.val (rd_pv σ v))
def rd_al (σ : Nat → Nat) : Nat → List (Option Value) → List (Nat × Value)
  | _, [] => []
  | i, none :: r => rd_al σ (i + 1) r
  | i, some v :: r => (i, rd_pv σ v) :: rd_al σ (i + 1) r
theorem rd_al_mem {σ : Nat → Nat} : ∀ (L : List (Option Value)) (i j : Nat) (w : Value), L[j]? = some (some w) → (i + j, rd_pv σ w) ∈ rd_al σ i L
  | [], i, j, w, h => by simp at h
  | o :: r, i, 0, w, h => by
    have h : o = some w := by simpa using h
    subst h
    exact List.mem_cons_self
  | o :: r, i, j + 1, w, h => by
    have h : r[j]? = some (some w) := by simpa using h
    have h1 := rd_al_mem (σ := σ) r (i + 1) j w h
    rw [show i + 1 + j = i + (j + 1) by omega] at h1
    cases o with
    | none => exact h1
    | some v => exact List.mem_cons_of_mem _ h1
theorem rd_al_of {σ : Nat → Nat} : ∀ (L : List (Option Value)) (i : Nat) (q : Nat × Value), q ∈ rd_al σ i L → ∃ (j : Nat) (w : Value), L[j]? = some (some w) ∧ q = (i + j, rd_pv σ w)
  | [], i, q, h => by simp [rd_al] at h
  | none :: r, i, q, h => by
    obtain ⟨j, w, h1, h2⟩ := rd_al_of r (i + 1) q h
    exact ⟨j + 1, w, by simpa using h1, by rw [h2]; congr 1; omega⟩
  | some v :: r, i, q, h => by
    rcases List.mem_cons.mp h with rfl | h
    · exact ⟨0, v, by simp, rfl⟩
    · obtain ⟨j, w, h1, h2⟩ := rd_al_of r (i + 1) q h
      exact ⟨j + 1, w, by simpa using h1, by rw [h2]; congr 1; omega⟩
theorem rd_L.al {σ : Nat → Nat} {ls : Array Slot} {nL : Nat} {L : List (Option Value)} (h : rd_L σ ls nL L) : lv_has ls nL (rd_al σ 0 L) :=
  ⟨h.1, h.2.1, fun q hq => by
    obtain ⟨j, w, h1, rfl⟩ := rd_al_of L 0 q hq
    show ls[0 + j]? = _
    rw [Nat.zero_add]
    exact h.2.2.2 j w h1⟩
/-- whether a value takes two locals -/
def rd_two : Option Value → Bool
  | some (.long _) => true
  | some (.double _) => true
  | _ => false
def rd_okp (pre : List (Option Value)) : Bool := match pre.getLast? with
  | some o => !rd_two o
  | none => true
theorem rd_cat {σ : Nat → Nat} {v : Value} : (rd_pv σ v).category = v.category := by cases v <;> rfl
theorem rd_okp_last {pre : List (Option Value)} {j : Nat} {w : Value} (hp : rd_okp pre = true) (hj : pre[j]? = some (some w)) (h1 : j + 1 = pre.length) (h2 : w.category = 2) : False := by
  have h3 : pre.getLast? = some (some w) := by rw [List.getLast?_eq_getElem?, show pre.length - 1 = j by omega]; exact hj
  unfold rd_okp at hp
  rw [h3] at hp
  cases w <;> simp [Value.category] at h2 <;> simp [rd_two] at hp
theorem rd_L.st1 {σ : Nat → Nat} {ls ls' : Array Slot} {nL : Nat} {pre r : List (Option Value)} {old : Option Value} {v : Value} (h : rd_L σ ls nL (pre ++ old :: r)) (hp : rd_okp pre = true)
    (h' : lv_has ls' nL ((pre.length, rd_pv σ v) :: (rd_al σ 0 (pre ++ old :: r)).filter (fun q => !(q.1 == pre.length) && !(q.1 + 1 == pre.length && q.2.category == 2)))) : rd_L σ ls' nL (pre ++ some v :: r) := by
  refine ⟨h'.1, h'.2.1, by simpa using h.2.2.1, fun j w hj => h'.2.2 (j, rd_pv σ w) ?_⟩
  rcases Nat.lt_trichotomy j pre.length with hlt | heq | hgt
  · rw [List.getElem?_append_left hlt] at hj
    have hL : (pre ++ old :: r)[j]? = some (some w) := by rw [List.getElem?_append_left hlt]; exact hj
    have hm := rd_al_mem (σ := σ) _ 0 j w hL
    rw [Nat.zero_add] at hm
    refine List.mem_cons_of_mem _ (List.mem_filter.mpr ⟨hm, ?_⟩)
    have hne : ¬ j = pre.length := by omega
    by_cases hz : j + 1 = pre.length
    · have hc : ¬ w.category = 2 := fun q => rd_okp_last hp hj hz q
      simp [hne, rd_cat, hc]
    · simp [hne, hz]
  · subst heq
    rw [List.getElem?_append_right (Nat.le_refl _), Nat.sub_self] at hj
    cases hj
    exact List.mem_cons_self
  · rw [List.getElem?_append_right (by omega)] at hj
    obtain ⟨d, hd⟩ : ∃ d, j - pre.length = d + 1 := ⟨j - pre.length - 1, by omega⟩
    rw [hd, List.getElem?_cons_succ] at hj
    have hL : (pre ++ old :: r)[j]? = some (some w) := by rw [List.getElem?_append_right (by omega), hd, List.getElem?_cons_succ]; exact hj
    have hm := rd_al_mem (σ := σ) _ 0 j w hL
    rw [Nat.zero_add] at hm
    refine List.mem_cons_of_mem _ (List.mem_filter.mpr ⟨hm, ?_⟩)
    have hne : ¬ j = pre.length := by omega
    have hz : ¬ j + 1 = pre.length := by omega
    simp [hne, hz]
theorem rd_L.st2 {σ : Nat → Nat} {ls ls' : Array Slot} {nL : Nat} {pre r : List (Option Value)} {old old2 : Option Value} {v : Value} (h : rd_L σ ls nL (pre ++ old :: old2 :: r)) (hp : rd_okp pre = true)
    (h' : lv_has ls' nL ((pre.length, rd_pv σ v) :: (rd_al σ 0 (pre ++ old :: old2 :: r)).filter (fun q => !(q.1 == pre.length) && (!(q.1 == pre.length + 1) && !(q.1 + 1 == pre.length && q.2.category == 2))))) : rd_L σ ls' nL (pre ++ some v :: none :: r) := by
  refine ⟨h'.1, h'.2.1, by simpa using h.2.2.1, fun j w hj => h'.2.2 (j, rd_pv σ w) ?_⟩
  rcases Nat.lt_trichotomy j pre.length with hlt | heq | hgt
  · rw [List.getElem?_append_left hlt] at hj
    have hL : (pre ++ old :: old2 :: r)[j]? = some (some w) := by rw [List.getElem?_append_left hlt]; exact hj
    have hm := rd_al_mem (σ := σ) _ 0 j w hL
    rw [Nat.zero_add] at hm
    refine List.mem_cons_of_mem _ (List.mem_filter.mpr ⟨hm, ?_⟩)
    have hne : ¬ j = pre.length := by omega
    have hne2 : ¬ j = pre.length + 1 := by omega
    by_cases hz : j + 1 = pre.length
    · have hc : ¬ w.category = 2 := fun q => rd_okp_last hp hj hz q
      simp [hne, hne2, rd_cat, hc]
    · simp [hne, hne2, hz]
  · subst heq
    rw [List.getElem?_append_right (Nat.le_refl _), Nat.sub_self] at hj
    cases hj
    exact List.mem_cons_self
  · rw [List.getElem?_append_right (by omega)] at hj
    obtain ⟨d, hd⟩ : ∃ d, j - pre.length = d + 1 := ⟨j - pre.length - 1, by omega⟩
    rw [hd, List.getElem?_cons_succ] at hj
    cases d with
    | zero => simp at hj
    | succ d =>
      rw [List.getElem?_cons_succ] at hj
      have hL : (pre ++ old :: old2 :: r)[j]? = some (some w) := by rw [List.getElem?_append_right (by omega), hd, List.getElem?_cons_succ, List.getElem?_cons_succ]; exact hj
      have hm := rd_al_mem (σ := σ) _ 0 j w hL
      rw [Nat.zero_add] at hm
      refine List.mem_cons_of_mem _ (List.mem_filter.mpr ⟨hm, ?_⟩)
      have hne : ¬ j = pre.length := by omega
      have hne2 : ¬ j = pre.length + 1 := by omega
      have hz : ¬ j + 1 = pre.length := by omega
      simp [hne, hne2, hz]
/-- fewer known -/
def rd_le : List (Option Value) → List (Option Value) → Prop
  | [], _ => True
  | none :: r, _ :: r' => rd_le r r'
  | some v :: r, some w :: r' => v = w ∧ rd_le r r'
  | _, _ => False
theorem rd_le_at : ∀ (L L' : List (Option Value)), rd_le L L' → L.length ≤ L'.length ∧ ∀ (i : Nat) (v : Value), L[i]? = some (some v) → L'[i]? = some (some v)
  | [], L', _ => ⟨Nat.zero_le _, fun i v h => by simp at h⟩
  | none :: r, [], h => h.elim
  | some v :: r, [], h => h.elim
  | some v :: r, none :: r', h => h.elim
  | none :: r, o :: r', h => by
    obtain ⟨h1, h2⟩ := rd_le_at r r' h
    refine ⟨by simpa using h1, fun i v hi => ?_⟩
    cases i with
    | zero => simp at hi
    | succ i => simpa using h2 i v (by simpa using hi)
  | some v :: r, some w :: r', h => by
    obtain ⟨h1, h2⟩ := rd_le_at r r' h.2
    refine ⟨by simpa using h1, fun i u hi => ?_⟩
    cases i with
    | zero =>
      have hz : v = u := by simpa using hi
      rw [← hz, h.1]; simp
    | succ i => simpa using h2 i u (by simpa using hi)
theorem rd_L.le {σ : Nat → Nat} {ls : Array Slot} {nL : Nat} {L L' : List (Option Value)} (h : rd_L σ ls nL L') (hl : rd_le L L') : rd_L σ ls nL L :=
  ⟨h.1, h.2.1, Nat.le_trans (rd_le_at L L' hl).1 h.2.2.1, fun i v hi => h.2.2.2 i v ((rd_le_at L L' hl).2 i v hi)⟩
end
section
/-- where a static field lies, its class's statics cell in H -/
def vx_L (C n d : String) (A : Nat → Prop) (U : State) (H : Heap) : Prop := ∃ (c : ClassId) (k : Class) (i : Nat) (f : Field) (a : Nat) (cell : Cell), U.vm.findClass C = some c ∧ U.fieldFound? C n d = some (c, k, i, f) ∧ f.isStatic = true ∧ k.statics = some a ∧ H[a]? = some cell ∧ cell.vm.isStatics = true ∧ cell.cls = c ∧ f.slot < cell.slots.size ∧ k.staticTypes[f.slot]? = some f.type ∧ ¬ A a
theorem vx_L.moved {C n d : String} {A : Nat → Prop} {u U : State} {H : Heap} (hvm : u.vm.Alike U.vm) (h : vx_L C n d A u H) : vx_L C n d A U H := by
  obtain ⟨c, k, i, f, a, cell, h1, h2, h3, h4, h5, h6, h7, h8, h9, h10⟩ := h
  obtain ⟨k', hi', he⟩ := State.fieldFound?_setVm hvm h2
  exact ⟨c, k', i, f, a, cell, by rw [hvm.findClass]; exact h1, hi', h3, by rw [he]; exact h4, h5, h6, h7, h8, by rw [he]; exact h9, h10⟩
theorem vx_L.kept {C n d : String} {A : Nat → Prop} {U : State} {H H1 : Heap} (h : vx_L C n d A U H) (hq : ∀ a : Nat, a < H.size → ¬ A a → H1[a]? = H[a]?) : vx_L C n d A U H1 := by
  obtain ⟨c, k, i, f, a, cell, h1, h2, h3, h4, h5, h6, h7, h8, h9, h10⟩ := h
  exact ⟨c, k, i, f, a, cell, h1, h2, h3, h4, by rw [hq a (Array.getElem?_eq_some_iff.mp h5).1 h10]; exact h5, h6, h7, h8, h9, h10⟩
theorem vx_L.narrow {C n d : String} {A B : Nat → Prop} {U : State} {H : Heap} (h : vx_L C n d A U H) (hAB : ∀ q, B q → A q) : vx_L C n d B U H := by
  obtain ⟨c, k, i, f, a, cell, h1, h2, h3, h4, h5, h6, h7, h8, h9, h10⟩ := h
  exact ⟨c, k, i, f, a, cell, h1, h2, h3, h4, h5, h6, h7, h8, h9, fun z => h10 (hAB _ z)⟩
theorem vx_L.word {C n d : String} {A : Nat → Prop} {s : State} {args : Array Value} (h : vx_L C n d A s s.heap) : (Cond.laysStatic C n d).before args s = true := by
  obtain ⟨c, k, i, f, a, cell, h1, h2, h3, h4, h5, h6, h7, h8, h9, -⟩ := h
  show (Cond.laysStatic C n d).holds args s none s [] = true
  exact Cond.laysStatic_of h1 h2 h3 h4 h5 h6 h7 h8 h9
/-- .. and what it holds: null or some reference -/
def vx_Zq (C n d : String) (A : Nat → Prop) (U : State) (H : Heap) : Prop := va_Zq C n d A U H ∧ vx_L C n d A U H
theorem vx_Zq.moved {C n d : String} {A : Nat → Prop} {u U : State} {H : Heap} (hvm : u.vm.Alike U.vm) (h : vx_Zq C n d A u H) : vx_Zq C n d A U H := ⟨va_Zq.moved hvm h.1, vx_L.moved hvm h.2⟩
theorem vx_Zq.kept {C n d : String} {A : Nat → Prop} {U : State} {H H1 : Heap} (h : vx_Zq C n d A U H) (hq : ∀ a : Nat, a < H.size → ¬ A a → H1[a]? = H[a]?) : vx_Zq C n d A U H1 := ⟨va_Zq.kept h.1 hq, vx_L.kept h.2 hq⟩
theorem vx_Zq.narrow {C n d : String} {A B : Nat → Prop} {U : State} {H : Heap} (h : vx_Zq C n d A U H) (hAB : ∀ q, B q → A q) : vx_Zq C n d B U H := ⟨va_Zq.narrow h.1 hAB, vx_L.narrow h.2 hAB⟩
theorem vx_Zqof {args : Array Value} {s : State} {C n d : String} {A : Nat → Prop} (hl : (Cond.laysStatic C n d).before args s = true) (hini : (Cond.initialized C).before args s = true) (h : (Cond.isRef (.static C n d)).before args s = true) (hA : ∀ a : Nat, a < s.heap.size → ¬ A a) : vx_Zq C n d A s s.heap := by
  refine ⟨va_Zqof hl hini h hA, ?_⟩
  obtain ⟨c, k, i, f, a, cell, h1, h2, h3, h4, h5, h6, h7, h8, h9⟩ := Cond.laysStatic_spec hl
  exact ⟨c, k, i, f, a, cell, h1, h2, h3, h4, h5, h6, h7, h8, h9, hA a (Array.getElem?_eq_some_iff.mp h5).1⟩
theorem vx_isRef {C n d : String} {v : Value} {A : Nat → Prop} {s : State} {args : Array Value} (h : va_Z C n d v A s s.heap) (hv : v.isRef = true) : (Cond.isRef (.static C n d)).before args s = true := by
  obtain ⟨cf, kf, fi, f, a, cell, h1, h2, h3, h4, h5, h6, h7, -⟩ := h
  have he : (Term.static C n d).eval args s none [] s = some v := by
    simp [Term.eval, State.fieldNamed?, h1, h2, h4, h5, h6, h7]
  simp only [Cond.before, Cond.holds, Cond.value, he]
  cases v <;> simp_all [Value.isRef]
theorem vx_isRefq {C n d : String} {A : Nat → Prop} {s : State} {args : Array Value} (h : va_Zq C n d A s s.heap) : (Cond.isRef (.static C n d)).before args s = true := by
  rcases h with h | ⟨t, h⟩
  · exact vx_isRef h rfl
  · exact vx_isRef h rfl
/-- the texts of exceptions -/
def rd_ss : List (String × Nat × String) := [("ReinsuranceDesk", 57, "no such risk, sum or year"), ("ReinsuranceDesk", 68, "the risk is told, or the year is closed"), ("ReinsuranceDesk", 81, "no such risk or amount"), ("ReinsuranceDesk", 83, "the year is closed"), ("ReinsuranceDesk", 95, "no such treaty"), ("ReinsuranceDesk", 101, "there are no more treaties, or the year is closed"), ("ReinsuranceDesk", 111, "no such treaty, reinsurer or part"), ("ReinsuranceDesk", 118, "the shares would be too much, or the year is closed"), ("ReinsuranceDesk", 124, "no such risk, event or hour"), ("ReinsuranceDesk", 127, "there are no more claims, or the year is closed"), ("ReinsuranceDesk", 133, "no such claim or amount"), ("ReinsuranceDesk", 142, "the claim is struck, or the year is closed"), ("ReinsuranceDesk", 147, "no such claim"), ("ReinsuranceDesk", 149, "no such event or year"), ("ReinsuranceDesk", 161, "no such claim or treaty"), ("ReinsuranceDesk", 169, "no such excess"), ("ReinsuranceDesk", 181, "no such excess or event"), ("ReinsuranceDesk", 186, "no such treaty or what"), ("ReinsuranceDesk", 197, "no such treaty, reinsurer or what"), ("ReinsuranceDesk", 206, "no such claim, amount or treaty"), ("ReinsuranceDesk", 208, "the claim is struck"), ("ReinsuranceDesk", 214, "no such reinsurer"), ("ReinsuranceDesk", 220, "no such year"), ("ReinsuranceDesk", 222, "the year is so")]
abbrev rd_sU : String × String × String := ("java/lang/Throwable", "UNASSIGNED_STACK", "[Ljava/lang/StackTraceElement;")
abbrev rd_sN : String × String × String := ("java/lang/Throwable", "SUPPRESSED_SENTINEL", "Ljava/util/List;")
/-- what throwing stands on: a launch without stack traces; two static fields; texts; no cell that may be changed is a holder of static fields -/
def rd_XF (l : Launch) (s : State) (A : Nat → Prop) : Prop :=
  l.stackTraces = false ∧ vx_Zq rd_sU.1 rd_sU.2.1 rd_sU.2.2 A s s.heap ∧ vx_Zq rd_sN.1 rd_sN.2.1 rd_sN.2.2 A s s.heap ∧ (∀ (a : Nat) (ce : Cell), s.heap[a]? = some ce → ce.vm.isStatics = true → ¬ A a) ∧ (∀ q ∈ rd_ss, ∃ sa, vk_R q.1 q.2.1 q.2.2 sa s) ∧ va_Nc (rd_xn 1) (rd_xn 0) s
end
section
/-! what a walk is -/
/-- what a method's walk stands on -/
def rd_Cx (x : rd_X) (p : Program) (l : Launch) (e : Env) (R : Room) (s : State) (m : MethodId) (args : Array Value) (meth : Method) (c : Code) (σ : Nat → Nat) (D : va_G) (cA : Nat → ClassId) (A : Nat → Prop) : Prop :=
  p.tables.exec = Jvm.exec ∧ c.code = rd_cd x ∧ c.maxLocals = rd_ml x ∧ s.vm.findClass (rd_nm x).cls = some m.cls ∧ (∀ w ∈ rd_ws, w.before args s = true) ∧ va_K D rd_CL (rd_ty cA) s ∧ rd_inj σ ∧ (∀ i, i < rd_SH.length → A (σ i)) ∧ (∀ q, s.heap.size ≤ q → A q) ∧
  (rd_dp x ≤ R.frames ∧ rd_lb x ≤ R.locals ∧ rd_cp x * rd_KC ≤ R.cells ∧ rd_cp x * rd_KS ≤ R.slots) ∧ meth.sig.returnType = rd_rt x ∧ meth.locks = false ∧ c.exceptionTable.toList = tableOf (rd_hs x) ∧ rd_XF l s A ∧ ∀ (Ls : Nat) (xs : Int → Int), rd_sc x = some (Ls, xs) → va_X (σ 999) Ls (fun j => Int32.ofInt (xs j)) s s.heap ∧ σ 999 < s.heap.size ∧ ¬ A (σ 999) ∧ Ls ≤ 2147483647
/-- an answer as the machine has it -/
def rd_O (σ : Nat → Nat) : rd_R → Outcome → State → Prop
  | .inl v, o, _ => o = .returned (v.map (rd_pv σ))
  | .inr k, o, t => ∃ (a : Addr) (ce : Cell), o = .threw a ∧ t.heap[a]? = some ce ∧ ce.vm = .none ∧ t.vm.findClass (rd_xn k) = some ce.cls
/-- a method's end -/
def rd_E (x : rd_X) (below : List Frame) (s : State) (σ : Nat → Nat) (D : va_G) (cA : Nat → ClassId) (A : Nat → Prop) (Q : rd_R → rd_M → Prop) (t : State) : Prop :=
  ∃ (o : Outcome) (r : rd_R) (M' : rd_M), t.status = .running ∧ Ended t below o ∧ rd_O σ r o t ∧ Q r M' ∧ va_P D rd_CL (rd_wd σ cA M') t.heap ∧
    ∃ Lc : List Loc, s.WarmedH t.vm ∧ s.sameButNew ({ t with vm := s.vm } : State) Lc (rd_cp x * rd_KC) (rd_cp x * rd_KS) ∧ (∀ q ∈ Lc, A q.base) ∧ va_F A s t
/-- from this place of this method, with these locals, stack and memory, n exceptions paid: it ends, and so -/
def rd_G (x : rd_X) (pc : Nat) (L : List (Option Value)) (st : List Value) (M : rd_M) (n : Nat) (Q : rd_R → rd_M → Prop) : Prop :=
  ∀ (p : Program) (l : Launch) (e : Env) (R : Room) (s : State) (m : MethodId) (args : Array Value) (below : List Frame) (meth : Method) (c : Code) (σ : Nat → Nat) (D : va_G) (cA : Nat → ClassId) (A : Nat → Prop),
    rd_Cx x p l e R s m args meth c σ D cA A → ∀ (H : Heap) (locs : List Loc) (ls : Array Slot) (cells slots : Nat), cells ≤ n * rd_KC → slots ≤ n * rd_KS → va_P D rd_CL (rd_wd σ cA M) H → va_S A s.heap H locs → rd_L σ ls (rd_ml x) L →
    W p l e R s m args below meth c H locs cells slots (rd_E x below s σ D cA A Q) (F0 m pc ls (st.map (rd_pv σ)))
theorem rd_le64 {x y : Int} (hx : rd_J x) (hy : rd_J y) : Int64.ofInt x ≤ Int64.ofInt y ↔ x ≤ y := by rw [Int64.le_iff_toInt_le, rd_i64 hx, rd_i64 hy]
theorem rd_len {q ety len : Nat} (h : rd_SH[q]? = some (.inl (ety, len))) : len ≤ 2147483647 := by
  have hm := List.mem_of_getElem? h
  have ha : ∀ c ∈ rd_SH, (match c with | .inl z => decide (z.2 ≤ 2147483647) | .inr _ => true) = true := List.all_eq_true.mp (by decide +kernel)
  have h1 := ha _ hm
  simpa using h1
section RdRules
variable {x : rd_X} {pc : Nat} {L : List (Option Value)} {st : List Value} {M : rd_M} {n : Nat} {Q : rd_R → rd_M → Prop}
theorem rd_top {v v' : Value} (h : v = v') (k : rd_G x pc L (v :: st) M n Q) : rd_G x pc L (v' :: st) M n Q := h ▸ k
theorem rd_weak {L' : List (Option Value)} (h : rd_le L' L) (k : rd_G x pc L' st M n Q) : rd_G x pc L st M n Q := by
  intro p l e R s m args below meth c σ D cA A C H locs ls cells slots hc hs hP hS hl
  exact k p l e R s m args below meth c σ D cA A C H locs ls cells slots hc hs hP hS (hl.le h)
theorem rd_mono {Q' : rd_R → rd_M → Prop} (h : ∀ r M', Q r M' → Q' r M') (k : rd_G x pc L st M n Q) : rd_G x pc L st M n Q' := by
  intro p l e R s m args below meth c σ D cA A C H locs ls cells slots hc hs hP hS hl
  intro T hT X
  obtain ⟨t, a1, o, r, M', b1, b2, b3, b4, b5⟩ := k p l e R s m args below meth c σ D cA A C H locs ls cells slots hc hs hP hS hl T hT X
  exact ⟨t, a1, o, r, M', b1, b2, b3, h r M' b4, b5⟩
theorem rd_iconst {v : Int} (hd : decode (rd_cd x) pc = .ok (.iconst v, 1)) (k : rd_G x (pc + 1) L (rd_i v :: st) M n Q) : rd_G x pc L (st) M n Q := by
  intro p l e R s m args below meth c σ D cA A C H locs ls cells slots hc hs hP hS hl
  exact lv_iconst (v := Int32.ofInt v) (rest := st.map (rd_pv σ)) C.1 C.2.1 hd rfl (k p l e R s m args below meth c σ D cA A C H locs ls cells slots hc hs hP hS hl)
theorem rd_bipush {v : Int} (hd : decode (rd_cd x) pc = .ok (.bipush v, 2)) (hv : (Int8.ofInt v).toInt32 = Int32.ofInt v) (k : rd_G x (pc + 2) L (rd_i v :: st) M n Q) : rd_G x pc L (st) M n Q := by
  intro p l e R s m args below meth c σ D cA A C H locs ls cells slots hc hs hP hS hl
  exact lv_bipush (v := Int32.ofInt v) (rest := st.map (rd_pv σ)) C.1 C.2.1 hd hv (k p l e R s m args below meth c σ D cA A C H locs ls cells slots hc hs hP hS hl)
theorem rd_sipush {v : Int} (hd : decode (rd_cd x) pc = .ok (.sipush v, 3)) (hv : (Int16.ofInt v).toInt32 = Int32.ofInt v) (k : rd_G x (pc + 3) L (rd_i v :: st) M n Q) : rd_G x pc L (st) M n Q := by
  intro p l e R s m args below meth c σ D cA A C H locs ls cells slots hc hs hP hS hl
  exact lv_sipush (v := Int32.ofInt v) (rest := st.map (rd_pv σ)) C.1 C.2.1 hd hv (k p l e R s m args below meth c σ D cA A C H locs ls cells slots hc hs hP hS hl)
theorem rd_lconst {f : Fin 2} {v : Int} (hd : decode (rd_cd x) pc = .ok (.lconst f, 1)) (hv : Int64.ofNat (f : Nat) = Int64.ofInt v) (k : rd_G x (pc + 1) L (rd_l v :: st) M n Q) : rd_G x pc L (st) M n Q := by
  intro p l e R s m args below meth c σ D cA A C H locs ls cells slots hc hs hP hS hl
  exact lv_lconst (v := Int64.ofInt v) (rest := st.map (rd_pv σ)) C.1 C.2.1 hd hv (k p l e R s m args below meth c σ D cA A C H locs ls cells slots hc hs hP hS hl)
theorem rd_ldc {v : Int} {ix : Nat} (hd : decode (rd_cd x) pc = .ok (.ldc ix, 2)) (hw : Cond.constant (rd_nm x).cls ix (Int32.ofInt v) ∈ rd_ws) (k : rd_G x (pc + 2) L (rd_i v :: st) M n Q) : rd_G x pc L (st) M n Q := by
  intro p l e R s m args below meth c σ D cA A C H locs ls cells slots hc hs hP hS hl
  exact lv_ldc (v := Int32.ofInt v) (rest := st.map (rd_pv σ)) C.1 C.2.1 C.2.2.2.1 (C.2.2.2.2.1 _ hw) hd (k p l e R s m args below meth c σ D cA A C H locs ls cells slots hc hs hP hS hl)
theorem rd_ldc2 {v : Int} {ix : Nat} (hd : decode (rd_cd x) pc = .ok (.ldc2_w ix, 3)) (hw : Cond.constantLong (rd_nm x).cls ix (Int64.ofInt v) ∈ rd_ws) (k : rd_G x (pc + 3) L (rd_l v :: st) M n Q) : rd_G x pc L (st) M n Q := by
  intro p l e R s m args below meth c σ D cA A C H locs ls cells slots hc hs hP hS hl
  exact lv_ldc2 (v := Int64.ofInt v) (rest := st.map (rd_pv σ)) C.1 C.2.1 C.2.2.2.1 (C.2.2.2.2.1 _ hw) hd (k p l e R s m args below meth c σ D cA A C H locs ls cells slots hc hs hP hS hl)
theorem rd_ildn {f : Fin 4} {v : Int} (hd : decode (rd_cd x) pc = .ok (.iload_n f, 1)) (hv : L[(f : Nat)]? = some (some (rd_i v))) (k : rd_G x (pc + 1) L (rd_i v :: st) M n Q) : rd_G x pc L (st) M n Q := by
  intro p l e R s m args below meth c σ D cA A C H locs ls cells slots hc hs hP hS hl
  exact lv_iload_n (x := Int32.ofInt v) (rest := st.map (rd_pv σ)) C.1 C.2.1 hd rfl (hl.2.2.2 _ _ hv) (k p l e R s m args below meth c σ D cA A C H locs ls cells slots hc hs hP hS hl)
theorem rd_ild {i : Nat} {v : Int} (hd : decode (rd_cd x) pc = .ok (.iload i, 2)) (hv : L[i]? = some (some (rd_i v))) (k : rd_G x (pc + 2) L (rd_i v :: st) M n Q) : rd_G x pc L (st) M n Q := by
  intro p l e R s m args below meth c σ D cA A C H locs ls cells slots hc hs hP hS hl
  exact lv_iload (x := Int32.ofInt v) (rest := st.map (rd_pv σ)) C.1 C.2.1 hd (hl.2.2.2 _ _ hv) (k p l e R s m args below meth c σ D cA A C H locs ls cells slots hc hs hP hS hl)
theorem rd_lldn {f : Fin 4} {v : Int} (hd : decode (rd_cd x) pc = .ok (.lload_n f, 1)) (hv : L[(f : Nat)]? = some (some (rd_l v))) (k : rd_G x (pc + 1) L (rd_l v :: st) M n Q) : rd_G x pc L (st) M n Q := by
  intro p l e R s m args below meth c σ D cA A C H locs ls cells slots hc hs hP hS hl
  exact lv_lload_n (x := Int64.ofInt v) (rest := st.map (rd_pv σ)) C.1 C.2.1 hd rfl (hl.2.2.2 _ _ hv) (k p l e R s m args below meth c σ D cA A C H locs ls cells slots hc hs hP hS hl)
theorem rd_lld {i : Nat} {v : Int} (hd : decode (rd_cd x) pc = .ok (.lload i, 2)) (hv : L[i]? = some (some (rd_l v))) (k : rd_G x (pc + 2) L (rd_l v :: st) M n Q) : rd_G x pc L (st) M n Q := by
  intro p l e R s m args below meth c σ D cA A C H locs ls cells slots hc hs hP hS hl
  exact lv_lload (x := Int64.ofInt v) (rest := st.map (rd_pv σ)) C.1 C.2.1 hd (hl.2.2.2 _ _ hv) (k p l e R s m args below meth c σ D cA A C H locs ls cells slots hc hs hP hS hl)
theorem rd_aldn {f : Fin 4} {q : Nat} (hd : decode (rd_cd x) pc = .ok (.aload_n f, 1)) (hv : L[(f : Nat)]? = some (some (.ref q))) (k : rd_G x (pc + 1) L (.ref q :: st) M n Q) : rd_G x pc L (st) M n Q := by
  intro p l e R s m args below meth c σ D cA A C H locs ls cells slots hc hs hP hS hl
  exact lv_aload_n (x := σ q) (rest := st.map (rd_pv σ)) C.1 C.2.1 hd rfl (hl.2.2.2 _ _ hv) (k p l e R s m args below meth c σ D cA A C H locs ls cells slots hc hs hP hS hl)
theorem rd_ald {i : Nat} {q : Nat} (hd : decode (rd_cd x) pc = .ok (.aload i, 2)) (hv : L[i]? = some (some (.ref q))) (k : rd_G x (pc + 2) L (.ref q :: st) M n Q) : rd_G x pc L (st) M n Q := by
  intro p l e R s m args below meth c σ D cA A C H locs ls cells slots hc hs hP hS hl
  exact lv_aload (x := σ q) (rest := st.map (rd_pv σ)) C.1 C.2.1 hd (hl.2.2.2 _ _ hv) (k p l e R s m args below meth c σ D cA A C H locs ls cells slots hc hs hP hS hl)
theorem rd_istgn {f : Fin 4} {v : Int} {pre r : List (Option Value)} {old : Option Value} (hd : decode (rd_cd x) pc = .ok (.istore_n f, 1)) (hf : (f : Nat) = pre.length) (hp : rd_okp pre = true) (k : rd_G x (pc + 1) (pre ++ some (rd_i v) :: r) st M n Q) : rd_G x pc (pre ++ old :: r) (rd_i v :: st) M n Q := by
  intro p l e R s m args below meth c σ D cA A C H locs ls cells slots hc hs hP hS hl
  exact lv_istore_n (x := Int32.ofInt v) (rest := st.map (rd_pv σ)) C.1 C.2.1 hd hf hl.al (Nat.lt_of_lt_of_le (by simp) hl.2.2.1) rfl (fun ls' h' => k p l e R s m args below meth c σ D cA A C H locs ls' cells slots hc hs hP hS (hl.st1 hp h'))
theorem rd_istg {i : Nat} {v : Int} {pre r : List (Option Value)} {old : Option Value} (hd : decode (rd_cd x) pc = .ok (.istore i, 2)) (hf : i = pre.length) (hp : rd_okp pre = true) (k : rd_G x (pc + 2) (pre ++ some (rd_i v) :: r) st M n Q) : rd_G x pc (pre ++ old :: r) (rd_i v :: st) M n Q := by
  subst hf
  intro p l e R s m args below meth c σ D cA A C H locs ls cells slots hc hs hP hS hl
  exact lv_istore (x := Int32.ofInt v) (rest := st.map (rd_pv σ)) C.1 C.2.1 hd hl.al (Nat.lt_of_lt_of_le (by simp) hl.2.2.1) rfl (fun ls' h' => k p l e R s m args below meth c σ D cA A C H locs ls' cells slots hc hs hP hS (hl.st1 hp h'))
theorem rd_astgn {f : Fin 4} {v : Nat} {pre r : List (Option Value)} {old : Option Value} (hd : decode (rd_cd x) pc = .ok (.astore_n f, 1)) (hf : (f : Nat) = pre.length) (hp : rd_okp pre = true) (k : rd_G x (pc + 1) (pre ++ some (.ref v) :: r) st M n Q) : rd_G x pc (pre ++ old :: r) (.ref v :: st) M n Q := by
  intro p l e R s m args below meth c σ D cA A C H locs ls cells slots hc hs hP hS hl
  exact lv_astore_n (x := σ v) (rest := st.map (rd_pv σ)) C.1 C.2.1 hd hf hl.al (Nat.lt_of_lt_of_le (by simp) hl.2.2.1) rfl (fun ls' h' => k p l e R s m args below meth c σ D cA A C H locs ls' cells slots hc hs hP hS (hl.st1 hp h'))
theorem rd_astg {i : Nat} {v : Nat} {pre r : List (Option Value)} {old : Option Value} (hd : decode (rd_cd x) pc = .ok (.astore i, 2)) (hf : i = pre.length) (hp : rd_okp pre = true) (k : rd_G x (pc + 2) (pre ++ some (.ref v) :: r) st M n Q) : rd_G x pc (pre ++ old :: r) (.ref v :: st) M n Q := by
  subst hf
  intro p l e R s m args below meth c σ D cA A C H locs ls cells slots hc hs hP hS hl
  exact lv_astore (x := σ v) (rest := st.map (rd_pv σ)) C.1 C.2.1 hd hl.al (Nat.lt_of_lt_of_le (by simp) hl.2.2.1) rfl (fun ls' h' => k p l e R s m args below meth c σ D cA A C H locs ls' cells slots hc hs hP hS (hl.st1 hp h'))
theorem rd_lstgn {f : Fin 4} {v : Int} {pre r : List (Option Value)} {old old2 : Option Value} (hd : decode (rd_cd x) pc = .ok (.lstore_n f, 1)) (hf : (f : Nat) = pre.length) (hp : rd_okp pre = true) (k : rd_G x (pc + 1) (pre ++ some (rd_l v) :: none :: r) st M n Q) : rd_G x pc (pre ++ old :: old2 :: r) (rd_l v :: st) M n Q := by
  intro p l e R s m args below meth c σ D cA A C H locs ls cells slots hc hs hP hS hl
  exact lv_lstore_n (x := Int64.ofInt v) (rest := st.map (rd_pv σ)) C.1 C.2.1 hd hf hl.al (Nat.lt_of_lt_of_le (by simp) hl.2.2.1) rfl (fun ls' h' => k p l e R s m args below meth c σ D cA A C H locs ls' cells slots hc hs hP hS (hl.st2 hp h'))
theorem rd_lstg {i : Nat} {v : Int} {pre r : List (Option Value)} {old old2 : Option Value} (hd : decode (rd_cd x) pc = .ok (.lstore i, 2)) (hf : i = pre.length) (hp : rd_okp pre = true) (k : rd_G x (pc + 2) (pre ++ some (rd_l v) :: none :: r) st M n Q) : rd_G x pc (pre ++ old :: old2 :: r) (rd_l v :: st) M n Q := by
  subst hf
  intro p l e R s m args below meth c σ D cA A C H locs ls cells slots hc hs hP hS hl
  exact lv_lstore (x := Int64.ofInt v) (rest := st.map (rd_pv σ)) C.1 C.2.1 hd hl.al (Nat.lt_of_lt_of_le (by simp) hl.2.2.1) rfl (fun ls' h' => k p l e R s m args below meth c σ D cA A C H locs ls' cells slots hc hs hP hS (hl.st2 hp h'))
theorem rd_iincg {i : Nat} {d v : Int} {pre r : List (Option Value)} (hd : decode (rd_cd x) pc = .ok (.iinc i d, 3)) (hf : i = pre.length) (hp : rd_okp pre = true) (k : rd_G x (pc + 3) (pre ++ some (rd_i (v + d)) :: r) st M n Q) : rd_G x pc (pre ++ some (rd_i v) :: r) st M n Q := by
  subst hf
  intro p l e R s m args below meth c σ D cA A C H locs ls cells slots hc hs hP hS hl
  have hat : (pre ++ some (rd_i v) :: r)[pre.length]? = some (some (rd_i v)) := by rw [List.getElem?_append_right (Nat.le_refl _), Nat.sub_self]; rfl
  have hm := rd_al_mem (σ := σ) _ 0 _ _ hat
  rw [Nat.zero_add] at hm
  obtain ⟨kq, hkq⟩ := List.getElem?_of_mem hm
  refine lv_iinc (x := Int32.ofInt v) (v := Int32.ofInt (v + d)) (rest := st.map (rd_pv σ)) C.1 C.2.1 hd hl.al hkq (by rw [Int32.ofInt_add]) (Nat.lt_of_lt_of_le (by simp) hl.2.2.1) rfl (fun ls' h' => ?_)
  exact k p l e R s m args below meth c σ D cA A C H locs ls' cells slots hc hs hP hS (hl.st1 (v := rd_i (v + d)) hp h')
theorem rd_ist0 {v : Int} {old : Option Value} {r : List (Option Value)} (hd : decode (rd_cd x) pc = .ok (.istore_n 0, 1)) (k : rd_G x (pc + 1) (some (rd_i v) :: r) st M n Q) : rd_G x pc (old :: r) (rd_i v :: st) M n Q := rd_istgn (pre := []) (f := 0) hd rfl rfl k
theorem rd_ast0 {v : Nat} {old : Option Value} {r : List (Option Value)} (hd : decode (rd_cd x) pc = .ok (.astore_n 0, 1)) (k : rd_G x (pc + 1) (some (.ref v) :: r) st M n Q) : rd_G x pc (old :: r) (.ref v :: st) M n Q := rd_astgn (pre := []) (f := 0) hd rfl rfl k
theorem rd_lst0 {v : Int} {old old2 : Option Value} {r : List (Option Value)} (hd : decode (rd_cd x) pc = .ok (.lstore_n 0, 1)) (k : rd_G x (pc + 1) (some (rd_l v) :: none :: r) st M n Q) : rd_G x pc (old :: old2 :: r) (rd_l v :: st) M n Q := rd_lstgn (pre := []) (f := 0) hd rfl rfl k
theorem rd_iinc0 {d v : Int} {r : List (Option Value)} (hd : decode (rd_cd x) pc = .ok (.iinc 0 d, 3)) (k : rd_G x (pc + 3) (some (rd_i (v + d)) :: r) st M n Q) : rd_G x pc (some (rd_i v) :: r) st M n Q := rd_iincg (pre := []) hd rfl rfl k
theorem rd_ist1 {v : Int} {a0 old : Option Value} {r : List (Option Value)} (hd : decode (rd_cd x) pc = .ok (.istore_n 1, 1)) (hp : rd_two a0 = false) (k : rd_G x (pc + 1) (a0 :: some (rd_i v) :: r) st M n Q) : rd_G x pc (a0 :: old :: r) (rd_i v :: st) M n Q := rd_istgn (pre := [a0]) (f := 1) hd rfl (by simp [rd_okp, hp]) k
theorem rd_ast1 {v : Nat} {a0 old : Option Value} {r : List (Option Value)} (hd : decode (rd_cd x) pc = .ok (.astore_n 1, 1)) (hp : rd_two a0 = false) (k : rd_G x (pc + 1) (a0 :: some (.ref v) :: r) st M n Q) : rd_G x pc (a0 :: old :: r) (.ref v :: st) M n Q := rd_astgn (pre := [a0]) (f := 1) hd rfl (by simp [rd_okp, hp]) k
theorem rd_lst1 {v : Int} {a0 old old2 : Option Value} {r : List (Option Value)} (hd : decode (rd_cd x) pc = .ok (.lstore_n 1, 1)) (hp : rd_two a0 = false) (k : rd_G x (pc + 1) (a0 :: some (rd_l v) :: none :: r) st M n Q) : rd_G x pc (a0 :: old :: old2 :: r) (rd_l v :: st) M n Q := rd_lstgn (pre := [a0]) (f := 1) hd rfl (by simp [rd_okp, hp]) k
theorem rd_iinc1 {d v : Int} {a0 : Option Value} {r : List (Option Value)} (hd : decode (rd_cd x) pc = .ok (.iinc 1 d, 3)) (hp : rd_two a0 = false) (k : rd_G x (pc + 3) (a0 :: some (rd_i (v + d)) :: r) st M n Q) : rd_G x pc (a0 :: some (rd_i v) :: r) st M n Q := rd_iincg (pre := [a0]) hd rfl (by simp [rd_okp, hp]) k
theorem rd_ist2 {v : Int} {a0 a1 old : Option Value} {r : List (Option Value)} (hd : decode (rd_cd x) pc = .ok (.istore_n 2, 1)) (hp : rd_two a1 = false) (k : rd_G x (pc + 1) (a0 :: a1 :: some (rd_i v) :: r) st M n Q) : rd_G x pc (a0 :: a1 :: old :: r) (rd_i v :: st) M n Q := rd_istgn (pre := [a0, a1]) (f := 2) hd rfl (by simp [rd_okp, hp]) k
theorem rd_ast2 {v : Nat} {a0 a1 old : Option Value} {r : List (Option Value)} (hd : decode (rd_cd x) pc = .ok (.astore_n 2, 1)) (hp : rd_two a1 = false) (k : rd_G x (pc + 1) (a0 :: a1 :: some (.ref v) :: r) st M n Q) : rd_G x pc (a0 :: a1 :: old :: r) (.ref v :: st) M n Q := rd_astgn (pre := [a0, a1]) (f := 2) hd rfl (by simp [rd_okp, hp]) k
theorem rd_lst2 {v : Int} {a0 a1 old old2 : Option Value} {r : List (Option Value)} (hd : decode (rd_cd x) pc = .ok (.lstore_n 2, 1)) (hp : rd_two a1 = false) (k : rd_G x (pc + 1) (a0 :: a1 :: some (rd_l v) :: none :: r) st M n Q) : rd_G x pc (a0 :: a1 :: old :: old2 :: r) (rd_l v :: st) M n Q := rd_lstgn (pre := [a0, a1]) (f := 2) hd rfl (by simp [rd_okp, hp]) k
theorem rd_iinc2 {d v : Int} {a0 a1 : Option Value} {r : List (Option Value)} (hd : decode (rd_cd x) pc = .ok (.iinc 2 d, 3)) (hp : rd_two a1 = false) (k : rd_G x (pc + 3) (a0 :: a1 :: some (rd_i (v + d)) :: r) st M n Q) : rd_G x pc (a0 :: a1 :: some (rd_i v) :: r) st M n Q := rd_iincg (pre := [a0, a1]) hd rfl (by simp [rd_okp, hp]) k
theorem rd_ist3 {v : Int} {a0 a1 a2 old : Option Value} {r : List (Option Value)} (hd : decode (rd_cd x) pc = .ok (.istore_n 3, 1)) (hp : rd_two a2 = false) (k : rd_G x (pc + 1) (a0 :: a1 :: a2 :: some (rd_i v) :: r) st M n Q) : rd_G x pc (a0 :: a1 :: a2 :: old :: r) (rd_i v :: st) M n Q := rd_istgn (pre := [a0, a1, a2]) (f := 3) hd rfl (by simp [rd_okp, hp]) k
theorem rd_ast3 {v : Nat} {a0 a1 a2 old : Option Value} {r : List (Option Value)} (hd : decode (rd_cd x) pc = .ok (.astore_n 3, 1)) (hp : rd_two a2 = false) (k : rd_G x (pc + 1) (a0 :: a1 :: a2 :: some (.ref v) :: r) st M n Q) : rd_G x pc (a0 :: a1 :: a2 :: old :: r) (.ref v :: st) M n Q := rd_astgn (pre := [a0, a1, a2]) (f := 3) hd rfl (by simp [rd_okp, hp]) k
theorem rd_lst3 {v : Int} {a0 a1 a2 old old2 : Option Value} {r : List (Option Value)} (hd : decode (rd_cd x) pc = .ok (.lstore_n 3, 1)) (hp : rd_two a2 = false) (k : rd_G x (pc + 1) (a0 :: a1 :: a2 :: some (rd_l v) :: none :: r) st M n Q) : rd_G x pc (a0 :: a1 :: a2 :: old :: old2 :: r) (rd_l v :: st) M n Q := rd_lstgn (pre := [a0, a1, a2]) (f := 3) hd rfl (by simp [rd_okp, hp]) k
theorem rd_iinc3 {d v : Int} {a0 a1 a2 : Option Value} {r : List (Option Value)} (hd : decode (rd_cd x) pc = .ok (.iinc 3 d, 3)) (hp : rd_two a2 = false) (k : rd_G x (pc + 3) (a0 :: a1 :: a2 :: some (rd_i (v + d)) :: r) st M n Q) : rd_G x pc (a0 :: a1 :: a2 :: some (rd_i v) :: r) st M n Q := rd_iincg (pre := [a0, a1, a2]) hd rfl (by simp [rd_okp, hp]) k
theorem rd_ist4 {v : Int} {a0 a1 a2 a3 old : Option Value} {r : List (Option Value)} (hd : decode (rd_cd x) pc = .ok (.istore 4, 2)) (hp : rd_two a3 = false) (k : rd_G x (pc + 2) (a0 :: a1 :: a2 :: a3 :: some (rd_i v) :: r) st M n Q) : rd_G x pc (a0 :: a1 :: a2 :: a3 :: old :: r) (rd_i v :: st) M n Q := rd_istg (pre := [a0, a1, a2, a3]) hd rfl (by simp [rd_okp, hp]) k
theorem rd_ast4 {v : Nat} {a0 a1 a2 a3 old : Option Value} {r : List (Option Value)} (hd : decode (rd_cd x) pc = .ok (.astore 4, 2)) (hp : rd_two a3 = false) (k : rd_G x (pc + 2) (a0 :: a1 :: a2 :: a3 :: some (.ref v) :: r) st M n Q) : rd_G x pc (a0 :: a1 :: a2 :: a3 :: old :: r) (.ref v :: st) M n Q := rd_astg (pre := [a0, a1, a2, a3]) hd rfl (by simp [rd_okp, hp]) k
theorem rd_lst4 {v : Int} {a0 a1 a2 a3 old old2 : Option Value} {r : List (Option Value)} (hd : decode (rd_cd x) pc = .ok (.lstore 4, 2)) (hp : rd_two a3 = false) (k : rd_G x (pc + 2) (a0 :: a1 :: a2 :: a3 :: some (rd_l v) :: none :: r) st M n Q) : rd_G x pc (a0 :: a1 :: a2 :: a3 :: old :: old2 :: r) (rd_l v :: st) M n Q := rd_lstg (pre := [a0, a1, a2, a3]) hd rfl (by simp [rd_okp, hp]) k
theorem rd_iinc4 {d v : Int} {a0 a1 a2 a3 : Option Value} {r : List (Option Value)} (hd : decode (rd_cd x) pc = .ok (.iinc 4 d, 3)) (hp : rd_two a3 = false) (k : rd_G x (pc + 3) (a0 :: a1 :: a2 :: a3 :: some (rd_i (v + d)) :: r) st M n Q) : rd_G x pc (a0 :: a1 :: a2 :: a3 :: some (rd_i v) :: r) st M n Q := rd_iincg (pre := [a0, a1, a2, a3]) hd rfl (by simp [rd_okp, hp]) k
theorem rd_ist5 {v : Int} {a0 a1 a2 a3 a4 old : Option Value} {r : List (Option Value)} (hd : decode (rd_cd x) pc = .ok (.istore 5, 2)) (hp : rd_two a4 = false) (k : rd_G x (pc + 2) (a0 :: a1 :: a2 :: a3 :: a4 :: some (rd_i v) :: r) st M n Q) : rd_G x pc (a0 :: a1 :: a2 :: a3 :: a4 :: old :: r) (rd_i v :: st) M n Q := rd_istg (pre := [a0, a1, a2, a3, a4]) hd rfl (by simp [rd_okp, hp]) k
theorem rd_ast5 {v : Nat} {a0 a1 a2 a3 a4 old : Option Value} {r : List (Option Value)} (hd : decode (rd_cd x) pc = .ok (.astore 5, 2)) (hp : rd_two a4 = false) (k : rd_G x (pc + 2) (a0 :: a1 :: a2 :: a3 :: a4 :: some (.ref v) :: r) st M n Q) : rd_G x pc (a0 :: a1 :: a2 :: a3 :: a4 :: old :: r) (.ref v :: st) M n Q := rd_astg (pre := [a0, a1, a2, a3, a4]) hd rfl (by simp [rd_okp, hp]) k
theorem rd_lst5 {v : Int} {a0 a1 a2 a3 a4 old old2 : Option Value} {r : List (Option Value)} (hd : decode (rd_cd x) pc = .ok (.lstore 5, 2)) (hp : rd_two a4 = false) (k : rd_G x (pc + 2) (a0 :: a1 :: a2 :: a3 :: a4 :: some (rd_l v) :: none :: r) st M n Q) : rd_G x pc (a0 :: a1 :: a2 :: a3 :: a4 :: old :: old2 :: r) (rd_l v :: st) M n Q := rd_lstg (pre := [a0, a1, a2, a3, a4]) hd rfl (by simp [rd_okp, hp]) k
theorem rd_iinc5 {d v : Int} {a0 a1 a2 a3 a4 : Option Value} {r : List (Option Value)} (hd : decode (rd_cd x) pc = .ok (.iinc 5 d, 3)) (hp : rd_two a4 = false) (k : rd_G x (pc + 3) (a0 :: a1 :: a2 :: a3 :: a4 :: some (rd_i (v + d)) :: r) st M n Q) : rd_G x pc (a0 :: a1 :: a2 :: a3 :: a4 :: some (rd_i v) :: r) st M n Q := rd_iincg (pre := [a0, a1, a2, a3, a4]) hd rfl (by simp [rd_okp, hp]) k
theorem rd_ist6 {v : Int} {a0 a1 a2 a3 a4 a5 old : Option Value} {r : List (Option Value)} (hd : decode (rd_cd x) pc = .ok (.istore 6, 2)) (hp : rd_two a5 = false) (k : rd_G x (pc + 2) (a0 :: a1 :: a2 :: a3 :: a4 :: a5 :: some (rd_i v) :: r) st M n Q) : rd_G x pc (a0 :: a1 :: a2 :: a3 :: a4 :: a5 :: old :: r) (rd_i v :: st) M n Q := rd_istg (pre := [a0, a1, a2, a3, a4, a5]) hd rfl (by simp [rd_okp, hp]) k
theorem rd_ast6 {v : Nat} {a0 a1 a2 a3 a4 a5 old : Option Value} {r : List (Option Value)} (hd : decode (rd_cd x) pc = .ok (.astore 6, 2)) (hp : rd_two a5 = false) (k : rd_G x (pc + 2) (a0 :: a1 :: a2 :: a3 :: a4 :: a5 :: some (.ref v) :: r) st M n Q) : rd_G x pc (a0 :: a1 :: a2 :: a3 :: a4 :: a5 :: old :: r) (.ref v :: st) M n Q := rd_astg (pre := [a0, a1, a2, a3, a4, a5]) hd rfl (by simp [rd_okp, hp]) k
theorem rd_lst6 {v : Int} {a0 a1 a2 a3 a4 a5 old old2 : Option Value} {r : List (Option Value)} (hd : decode (rd_cd x) pc = .ok (.lstore 6, 2)) (hp : rd_two a5 = false) (k : rd_G x (pc + 2) (a0 :: a1 :: a2 :: a3 :: a4 :: a5 :: some (rd_l v) :: none :: r) st M n Q) : rd_G x pc (a0 :: a1 :: a2 :: a3 :: a4 :: a5 :: old :: old2 :: r) (rd_l v :: st) M n Q := rd_lstg (pre := [a0, a1, a2, a3, a4, a5]) hd rfl (by simp [rd_okp, hp]) k
theorem rd_iinc6 {d v : Int} {a0 a1 a2 a3 a4 a5 : Option Value} {r : List (Option Value)} (hd : decode (rd_cd x) pc = .ok (.iinc 6 d, 3)) (hp : rd_two a5 = false) (k : rd_G x (pc + 3) (a0 :: a1 :: a2 :: a3 :: a4 :: a5 :: some (rd_i (v + d)) :: r) st M n Q) : rd_G x pc (a0 :: a1 :: a2 :: a3 :: a4 :: a5 :: some (rd_i v) :: r) st M n Q := rd_iincg (pre := [a0, a1, a2, a3, a4, a5]) hd rfl (by simp [rd_okp, hp]) k
theorem rd_ist7 {v : Int} {a0 a1 a2 a3 a4 a5 a6 old : Option Value} {r : List (Option Value)} (hd : decode (rd_cd x) pc = .ok (.istore 7, 2)) (hp : rd_two a6 = false) (k : rd_G x (pc + 2) (a0 :: a1 :: a2 :: a3 :: a4 :: a5 :: a6 :: some (rd_i v) :: r) st M n Q) : rd_G x pc (a0 :: a1 :: a2 :: a3 :: a4 :: a5 :: a6 :: old :: r) (rd_i v :: st) M n Q := rd_istg (pre := [a0, a1, a2, a3, a4, a5, a6]) hd rfl (by simp [rd_okp, hp]) k
theorem rd_ast7 {v : Nat} {a0 a1 a2 a3 a4 a5 a6 old : Option Value} {r : List (Option Value)} (hd : decode (rd_cd x) pc = .ok (.astore 7, 2)) (hp : rd_two a6 = false) (k : rd_G x (pc + 2) (a0 :: a1 :: a2 :: a3 :: a4 :: a5 :: a6 :: some (.ref v) :: r) st M n Q) : rd_G x pc (a0 :: a1 :: a2 :: a3 :: a4 :: a5 :: a6 :: old :: r) (.ref v :: st) M n Q := rd_astg (pre := [a0, a1, a2, a3, a4, a5, a6]) hd rfl (by simp [rd_okp, hp]) k
theorem rd_lst7 {v : Int} {a0 a1 a2 a3 a4 a5 a6 old old2 : Option Value} {r : List (Option Value)} (hd : decode (rd_cd x) pc = .ok (.lstore 7, 2)) (hp : rd_two a6 = false) (k : rd_G x (pc + 2) (a0 :: a1 :: a2 :: a3 :: a4 :: a5 :: a6 :: some (rd_l v) :: none :: r) st M n Q) : rd_G x pc (a0 :: a1 :: a2 :: a3 :: a4 :: a5 :: a6 :: old :: old2 :: r) (rd_l v :: st) M n Q := rd_lstg (pre := [a0, a1, a2, a3, a4, a5, a6]) hd rfl (by simp [rd_okp, hp]) k
theorem rd_iinc7 {d v : Int} {a0 a1 a2 a3 a4 a5 a6 : Option Value} {r : List (Option Value)} (hd : decode (rd_cd x) pc = .ok (.iinc 7 d, 3)) (hp : rd_two a6 = false) (k : rd_G x (pc + 3) (a0 :: a1 :: a2 :: a3 :: a4 :: a5 :: a6 :: some (rd_i (v + d)) :: r) st M n Q) : rd_G x pc (a0 :: a1 :: a2 :: a3 :: a4 :: a5 :: a6 :: some (rd_i v) :: r) st M n Q := rd_iincg (pre := [a0, a1, a2, a3, a4, a5, a6]) hd rfl (by simp [rd_okp, hp]) k
theorem rd_ist8 {v : Int} {a0 a1 a2 a3 a4 a5 a6 a7 old : Option Value} {r : List (Option Value)} (hd : decode (rd_cd x) pc = .ok (.istore 8, 2)) (hp : rd_two a7 = false) (k : rd_G x (pc + 2) (a0 :: a1 :: a2 :: a3 :: a4 :: a5 :: a6 :: a7 :: some (rd_i v) :: r) st M n Q) : rd_G x pc (a0 :: a1 :: a2 :: a3 :: a4 :: a5 :: a6 :: a7 :: old :: r) (rd_i v :: st) M n Q := rd_istg (pre := [a0, a1, a2, a3, a4, a5, a6, a7]) hd rfl (by simp [rd_okp, hp]) k
theorem rd_ast8 {v : Nat} {a0 a1 a2 a3 a4 a5 a6 a7 old : Option Value} {r : List (Option Value)} (hd : decode (rd_cd x) pc = .ok (.astore 8, 2)) (hp : rd_two a7 = false) (k : rd_G x (pc + 2) (a0 :: a1 :: a2 :: a3 :: a4 :: a5 :: a6 :: a7 :: some (.ref v) :: r) st M n Q) : rd_G x pc (a0 :: a1 :: a2 :: a3 :: a4 :: a5 :: a6 :: a7 :: old :: r) (.ref v :: st) M n Q := rd_astg (pre := [a0, a1, a2, a3, a4, a5, a6, a7]) hd rfl (by simp [rd_okp, hp]) k
theorem rd_lst8 {v : Int} {a0 a1 a2 a3 a4 a5 a6 a7 old old2 : Option Value} {r : List (Option Value)} (hd : decode (rd_cd x) pc = .ok (.lstore 8, 2)) (hp : rd_two a7 = false) (k : rd_G x (pc + 2) (a0 :: a1 :: a2 :: a3 :: a4 :: a5 :: a6 :: a7 :: some (rd_l v) :: none :: r) st M n Q) : rd_G x pc (a0 :: a1 :: a2 :: a3 :: a4 :: a5 :: a6 :: a7 :: old :: old2 :: r) (rd_l v :: st) M n Q := rd_lstg (pre := [a0, a1, a2, a3, a4, a5, a6, a7]) hd rfl (by simp [rd_okp, hp]) k
theorem rd_iinc8 {d v : Int} {a0 a1 a2 a3 a4 a5 a6 a7 : Option Value} {r : List (Option Value)} (hd : decode (rd_cd x) pc = .ok (.iinc 8 d, 3)) (hp : rd_two a7 = false) (k : rd_G x (pc + 3) (a0 :: a1 :: a2 :: a3 :: a4 :: a5 :: a6 :: a7 :: some (rd_i (v + d)) :: r) st M n Q) : rd_G x pc (a0 :: a1 :: a2 :: a3 :: a4 :: a5 :: a6 :: a7 :: some (rd_i v) :: r) st M n Q := rd_iincg (pre := [a0, a1, a2, a3, a4, a5, a6, a7]) hd rfl (by simp [rd_okp, hp]) k
theorem rd_ist9 {v : Int} {a0 a1 a2 a3 a4 a5 a6 a7 a8 old : Option Value} {r : List (Option Value)} (hd : decode (rd_cd x) pc = .ok (.istore 9, 2)) (hp : rd_two a8 = false) (k : rd_G x (pc + 2) (a0 :: a1 :: a2 :: a3 :: a4 :: a5 :: a6 :: a7 :: a8 :: some (rd_i v) :: r) st M n Q) : rd_G x pc (a0 :: a1 :: a2 :: a3 :: a4 :: a5 :: a6 :: a7 :: a8 :: old :: r) (rd_i v :: st) M n Q := rd_istg (pre := [a0, a1, a2, a3, a4, a5, a6, a7, a8]) hd rfl (by simp [rd_okp, hp]) k
theorem rd_ast9 {v : Nat} {a0 a1 a2 a3 a4 a5 a6 a7 a8 old : Option Value} {r : List (Option Value)} (hd : decode (rd_cd x) pc = .ok (.astore 9, 2)) (hp : rd_two a8 = false) (k : rd_G x (pc + 2) (a0 :: a1 :: a2 :: a3 :: a4 :: a5 :: a6 :: a7 :: a8 :: some (.ref v) :: r) st M n Q) : rd_G x pc (a0 :: a1 :: a2 :: a3 :: a4 :: a5 :: a6 :: a7 :: a8 :: old :: r) (.ref v :: st) M n Q := rd_astg (pre := [a0, a1, a2, a3, a4, a5, a6, a7, a8]) hd rfl (by simp [rd_okp, hp]) k
theorem rd_lst9 {v : Int} {a0 a1 a2 a3 a4 a5 a6 a7 a8 old old2 : Option Value} {r : List (Option Value)} (hd : decode (rd_cd x) pc = .ok (.lstore 9, 2)) (hp : rd_two a8 = false) (k : rd_G x (pc + 2) (a0 :: a1 :: a2 :: a3 :: a4 :: a5 :: a6 :: a7 :: a8 :: some (rd_l v) :: none :: r) st M n Q) : rd_G x pc (a0 :: a1 :: a2 :: a3 :: a4 :: a5 :: a6 :: a7 :: a8 :: old :: old2 :: r) (rd_l v :: st) M n Q := rd_lstg (pre := [a0, a1, a2, a3, a4, a5, a6, a7, a8]) hd rfl (by simp [rd_okp, hp]) k
theorem rd_iinc9 {d v : Int} {a0 a1 a2 a3 a4 a5 a6 a7 a8 : Option Value} {r : List (Option Value)} (hd : decode (rd_cd x) pc = .ok (.iinc 9 d, 3)) (hp : rd_two a8 = false) (k : rd_G x (pc + 3) (a0 :: a1 :: a2 :: a3 :: a4 :: a5 :: a6 :: a7 :: a8 :: some (rd_i (v + d)) :: r) st M n Q) : rd_G x pc (a0 :: a1 :: a2 :: a3 :: a4 :: a5 :: a6 :: a7 :: a8 :: some (rd_i v) :: r) st M n Q := rd_iincg (pre := [a0, a1, a2, a3, a4, a5, a6, a7, a8]) hd rfl (by simp [rd_okp, hp]) k
theorem rd_ist10 {v : Int} {a0 a1 a2 a3 a4 a5 a6 a7 a8 a9 old : Option Value} {r : List (Option Value)} (hd : decode (rd_cd x) pc = .ok (.istore 10, 2)) (hp : rd_two a9 = false) (k : rd_G x (pc + 2) (a0 :: a1 :: a2 :: a3 :: a4 :: a5 :: a6 :: a7 :: a8 :: a9 :: some (rd_i v) :: r) st M n Q) : rd_G x pc (a0 :: a1 :: a2 :: a3 :: a4 :: a5 :: a6 :: a7 :: a8 :: a9 :: old :: r) (rd_i v :: st) M n Q := rd_istg (pre := [a0, a1, a2, a3, a4, a5, a6, a7, a8, a9]) hd rfl (by simp [rd_okp, hp]) k
theorem rd_ast10 {v : Nat} {a0 a1 a2 a3 a4 a5 a6 a7 a8 a9 old : Option Value} {r : List (Option Value)} (hd : decode (rd_cd x) pc = .ok (.astore 10, 2)) (hp : rd_two a9 = false) (k : rd_G x (pc + 2) (a0 :: a1 :: a2 :: a3 :: a4 :: a5 :: a6 :: a7 :: a8 :: a9 :: some (.ref v) :: r) st M n Q) : rd_G x pc (a0 :: a1 :: a2 :: a3 :: a4 :: a5 :: a6 :: a7 :: a8 :: a9 :: old :: r) (.ref v :: st) M n Q := rd_astg (pre := [a0, a1, a2, a3, a4, a5, a6, a7, a8, a9]) hd rfl (by simp [rd_okp, hp]) k
theorem rd_lst10 {v : Int} {a0 a1 a2 a3 a4 a5 a6 a7 a8 a9 old old2 : Option Value} {r : List (Option Value)} (hd : decode (rd_cd x) pc = .ok (.lstore 10, 2)) (hp : rd_two a9 = false) (k : rd_G x (pc + 2) (a0 :: a1 :: a2 :: a3 :: a4 :: a5 :: a6 :: a7 :: a8 :: a9 :: some (rd_l v) :: none :: r) st M n Q) : rd_G x pc (a0 :: a1 :: a2 :: a3 :: a4 :: a5 :: a6 :: a7 :: a8 :: a9 :: old :: old2 :: r) (rd_l v :: st) M n Q := rd_lstg (pre := [a0, a1, a2, a3, a4, a5, a6, a7, a8, a9]) hd rfl (by simp [rd_okp, hp]) k
theorem rd_iinc10 {d v : Int} {a0 a1 a2 a3 a4 a5 a6 a7 a8 a9 : Option Value} {r : List (Option Value)} (hd : decode (rd_cd x) pc = .ok (.iinc 10 d, 3)) (hp : rd_two a9 = false) (k : rd_G x (pc + 3) (a0 :: a1 :: a2 :: a3 :: a4 :: a5 :: a6 :: a7 :: a8 :: a9 :: some (rd_i (v + d)) :: r) st M n Q) : rd_G x pc (a0 :: a1 :: a2 :: a3 :: a4 :: a5 :: a6 :: a7 :: a8 :: a9 :: some (rd_i v) :: r) st M n Q := rd_iincg (pre := [a0, a1, a2, a3, a4, a5, a6, a7, a8, a9]) hd rfl (by simp [rd_okp, hp]) k
theorem rd_ist11 {v : Int} {a0 a1 a2 a3 a4 a5 a6 a7 a8 a9 a10 old : Option Value} {r : List (Option Value)} (hd : decode (rd_cd x) pc = .ok (.istore 11, 2)) (hp : rd_two a10 = false) (k : rd_G x (pc + 2) (a0 :: a1 :: a2 :: a3 :: a4 :: a5 :: a6 :: a7 :: a8 :: a9 :: a10 :: some (rd_i v) :: r) st M n Q) : rd_G x pc (a0 :: a1 :: a2 :: a3 :: a4 :: a5 :: a6 :: a7 :: a8 :: a9 :: a10 :: old :: r) (rd_i v :: st) M n Q := rd_istg (pre := [a0, a1, a2, a3, a4, a5, a6, a7, a8, a9, a10]) hd rfl (by simp [rd_okp, hp]) k
theorem rd_ast11 {v : Nat} {a0 a1 a2 a3 a4 a5 a6 a7 a8 a9 a10 old : Option Value} {r : List (Option Value)} (hd : decode (rd_cd x) pc = .ok (.astore 11, 2)) (hp : rd_two a10 = false) (k : rd_G x (pc + 2) (a0 :: a1 :: a2 :: a3 :: a4 :: a5 :: a6 :: a7 :: a8 :: a9 :: a10 :: some (.ref v) :: r) st M n Q) : rd_G x pc (a0 :: a1 :: a2 :: a3 :: a4 :: a5 :: a6 :: a7 :: a8 :: a9 :: a10 :: old :: r) (.ref v :: st) M n Q := rd_astg (pre := [a0, a1, a2, a3, a4, a5, a6, a7, a8, a9, a10]) hd rfl (by simp [rd_okp, hp]) k
theorem rd_lst11 {v : Int} {a0 a1 a2 a3 a4 a5 a6 a7 a8 a9 a10 old old2 : Option Value} {r : List (Option Value)} (hd : decode (rd_cd x) pc = .ok (.lstore 11, 2)) (hp : rd_two a10 = false) (k : rd_G x (pc + 2) (a0 :: a1 :: a2 :: a3 :: a4 :: a5 :: a6 :: a7 :: a8 :: a9 :: a10 :: some (rd_l v) :: none :: r) st M n Q) : rd_G x pc (a0 :: a1 :: a2 :: a3 :: a4 :: a5 :: a6 :: a7 :: a8 :: a9 :: a10 :: old :: old2 :: r) (rd_l v :: st) M n Q := rd_lstg (pre := [a0, a1, a2, a3, a4, a5, a6, a7, a8, a9, a10]) hd rfl (by simp [rd_okp, hp]) k
theorem rd_iinc11 {d v : Int} {a0 a1 a2 a3 a4 a5 a6 a7 a8 a9 a10 : Option Value} {r : List (Option Value)} (hd : decode (rd_cd x) pc = .ok (.iinc 11 d, 3)) (hp : rd_two a10 = false) (k : rd_G x (pc + 3) (a0 :: a1 :: a2 :: a3 :: a4 :: a5 :: a6 :: a7 :: a8 :: a9 :: a10 :: some (rd_i (v + d)) :: r) st M n Q) : rd_G x pc (a0 :: a1 :: a2 :: a3 :: a4 :: a5 :: a6 :: a7 :: a8 :: a9 :: a10 :: some (rd_i v) :: r) st M n Q := rd_iincg (pre := [a0, a1, a2, a3, a4, a5, a6, a7, a8, a9, a10]) hd rfl (by simp [rd_okp, hp]) k
theorem rd_ist12 {v : Int} {a0 a1 a2 a3 a4 a5 a6 a7 a8 a9 a10 a11 old : Option Value} {r : List (Option Value)} (hd : decode (rd_cd x) pc = .ok (.istore 12, 2)) (hp : rd_two a11 = false) (k : rd_G x (pc + 2) (a0 :: a1 :: a2 :: a3 :: a4 :: a5 :: a6 :: a7 :: a8 :: a9 :: a10 :: a11 :: some (rd_i v) :: r) st M n Q) : rd_G x pc (a0 :: a1 :: a2 :: a3 :: a4 :: a5 :: a6 :: a7 :: a8 :: a9 :: a10 :: a11 :: old :: r) (rd_i v :: st) M n Q := rd_istg (pre := [a0, a1, a2, a3, a4, a5, a6, a7, a8, a9, a10, a11]) hd rfl (by simp [rd_okp, hp]) k
theorem rd_ast12 {v : Nat} {a0 a1 a2 a3 a4 a5 a6 a7 a8 a9 a10 a11 old : Option Value} {r : List (Option Value)} (hd : decode (rd_cd x) pc = .ok (.astore 12, 2)) (hp : rd_two a11 = false) (k : rd_G x (pc + 2) (a0 :: a1 :: a2 :: a3 :: a4 :: a5 :: a6 :: a7 :: a8 :: a9 :: a10 :: a11 :: some (.ref v) :: r) st M n Q) : rd_G x pc (a0 :: a1 :: a2 :: a3 :: a4 :: a5 :: a6 :: a7 :: a8 :: a9 :: a10 :: a11 :: old :: r) (.ref v :: st) M n Q := rd_astg (pre := [a0, a1, a2, a3, a4, a5, a6, a7, a8, a9, a10, a11]) hd rfl (by simp [rd_okp, hp]) k
theorem rd_lst12 {v : Int} {a0 a1 a2 a3 a4 a5 a6 a7 a8 a9 a10 a11 old old2 : Option Value} {r : List (Option Value)} (hd : decode (rd_cd x) pc = .ok (.lstore 12, 2)) (hp : rd_two a11 = false) (k : rd_G x (pc + 2) (a0 :: a1 :: a2 :: a3 :: a4 :: a5 :: a6 :: a7 :: a8 :: a9 :: a10 :: a11 :: some (rd_l v) :: none :: r) st M n Q) : rd_G x pc (a0 :: a1 :: a2 :: a3 :: a4 :: a5 :: a6 :: a7 :: a8 :: a9 :: a10 :: a11 :: old :: old2 :: r) (rd_l v :: st) M n Q := rd_lstg (pre := [a0, a1, a2, a3, a4, a5, a6, a7, a8, a9, a10, a11]) hd rfl (by simp [rd_okp, hp]) k
theorem rd_iinc12 {d v : Int} {a0 a1 a2 a3 a4 a5 a6 a7 a8 a9 a10 a11 : Option Value} {r : List (Option Value)} (hd : decode (rd_cd x) pc = .ok (.iinc 12 d, 3)) (hp : rd_two a11 = false) (k : rd_G x (pc + 3) (a0 :: a1 :: a2 :: a3 :: a4 :: a5 :: a6 :: a7 :: a8 :: a9 :: a10 :: a11 :: some (rd_i (v + d)) :: r) st M n Q) : rd_G x pc (a0 :: a1 :: a2 :: a3 :: a4 :: a5 :: a6 :: a7 :: a8 :: a9 :: a10 :: a11 :: some (rd_i v) :: r) st M n Q := rd_iincg (pre := [a0, a1, a2, a3, a4, a5, a6, a7, a8, a9, a10, a11]) hd rfl (by simp [rd_okp, hp]) k
theorem rd_ist13 {v : Int} {a0 a1 a2 a3 a4 a5 a6 a7 a8 a9 a10 a11 a12 old : Option Value} {r : List (Option Value)} (hd : decode (rd_cd x) pc = .ok (.istore 13, 2)) (hp : rd_two a12 = false) (k : rd_G x (pc + 2) (a0 :: a1 :: a2 :: a3 :: a4 :: a5 :: a6 :: a7 :: a8 :: a9 :: a10 :: a11 :: a12 :: some (rd_i v) :: r) st M n Q) : rd_G x pc (a0 :: a1 :: a2 :: a3 :: a4 :: a5 :: a6 :: a7 :: a8 :: a9 :: a10 :: a11 :: a12 :: old :: r) (rd_i v :: st) M n Q := rd_istg (pre := [a0, a1, a2, a3, a4, a5, a6, a7, a8, a9, a10, a11, a12]) hd rfl (by simp [rd_okp, hp]) k
theorem rd_ast13 {v : Nat} {a0 a1 a2 a3 a4 a5 a6 a7 a8 a9 a10 a11 a12 old : Option Value} {r : List (Option Value)} (hd : decode (rd_cd x) pc = .ok (.astore 13, 2)) (hp : rd_two a12 = false) (k : rd_G x (pc + 2) (a0 :: a1 :: a2 :: a3 :: a4 :: a5 :: a6 :: a7 :: a8 :: a9 :: a10 :: a11 :: a12 :: some (.ref v) :: r) st M n Q) : rd_G x pc (a0 :: a1 :: a2 :: a3 :: a4 :: a5 :: a6 :: a7 :: a8 :: a9 :: a10 :: a11 :: a12 :: old :: r) (.ref v :: st) M n Q := rd_astg (pre := [a0, a1, a2, a3, a4, a5, a6, a7, a8, a9, a10, a11, a12]) hd rfl (by simp [rd_okp, hp]) k
theorem rd_lst13 {v : Int} {a0 a1 a2 a3 a4 a5 a6 a7 a8 a9 a10 a11 a12 old old2 : Option Value} {r : List (Option Value)} (hd : decode (rd_cd x) pc = .ok (.lstore 13, 2)) (hp : rd_two a12 = false) (k : rd_G x (pc + 2) (a0 :: a1 :: a2 :: a3 :: a4 :: a5 :: a6 :: a7 :: a8 :: a9 :: a10 :: a11 :: a12 :: some (rd_l v) :: none :: r) st M n Q) : rd_G x pc (a0 :: a1 :: a2 :: a3 :: a4 :: a5 :: a6 :: a7 :: a8 :: a9 :: a10 :: a11 :: a12 :: old :: old2 :: r) (rd_l v :: st) M n Q := rd_lstg (pre := [a0, a1, a2, a3, a4, a5, a6, a7, a8, a9, a10, a11, a12]) hd rfl (by simp [rd_okp, hp]) k
theorem rd_iinc13 {d v : Int} {a0 a1 a2 a3 a4 a5 a6 a7 a8 a9 a10 a11 a12 : Option Value} {r : List (Option Value)} (hd : decode (rd_cd x) pc = .ok (.iinc 13 d, 3)) (hp : rd_two a12 = false) (k : rd_G x (pc + 3) (a0 :: a1 :: a2 :: a3 :: a4 :: a5 :: a6 :: a7 :: a8 :: a9 :: a10 :: a11 :: a12 :: some (rd_i (v + d)) :: r) st M n Q) : rd_G x pc (a0 :: a1 :: a2 :: a3 :: a4 :: a5 :: a6 :: a7 :: a8 :: a9 :: a10 :: a11 :: a12 :: some (rd_i v) :: r) st M n Q := rd_iincg (pre := [a0, a1, a2, a3, a4, a5, a6, a7, a8, a9, a10, a11, a12]) hd rfl (by simp [rd_okp, hp]) k
theorem rd_ist14 {v : Int} {a0 a1 a2 a3 a4 a5 a6 a7 a8 a9 a10 a11 a12 a13 old : Option Value} {r : List (Option Value)} (hd : decode (rd_cd x) pc = .ok (.istore 14, 2)) (hp : rd_two a13 = false) (k : rd_G x (pc + 2) (a0 :: a1 :: a2 :: a3 :: a4 :: a5 :: a6 :: a7 :: a8 :: a9 :: a10 :: a11 :: a12 :: a13 :: some (rd_i v) :: r) st M n Q) : rd_G x pc (a0 :: a1 :: a2 :: a3 :: a4 :: a5 :: a6 :: a7 :: a8 :: a9 :: a10 :: a11 :: a12 :: a13 :: old :: r) (rd_i v :: st) M n Q := rd_istg (pre := [a0, a1, a2, a3, a4, a5, a6, a7, a8, a9, a10, a11, a12, a13]) hd rfl (by simp [rd_okp, hp]) k
theorem rd_ast14 {v : Nat} {a0 a1 a2 a3 a4 a5 a6 a7 a8 a9 a10 a11 a12 a13 old : Option Value} {r : List (Option Value)} (hd : decode (rd_cd x) pc = .ok (.astore 14, 2)) (hp : rd_two a13 = false) (k : rd_G x (pc + 2) (a0 :: a1 :: a2 :: a3 :: a4 :: a5 :: a6 :: a7 :: a8 :: a9 :: a10 :: a11 :: a12 :: a13 :: some (.ref v) :: r) st M n Q) : rd_G x pc (a0 :: a1 :: a2 :: a3 :: a4 :: a5 :: a6 :: a7 :: a8 :: a9 :: a10 :: a11 :: a12 :: a13 :: old :: r) (.ref v :: st) M n Q := rd_astg (pre := [a0, a1, a2, a3, a4, a5, a6, a7, a8, a9, a10, a11, a12, a13]) hd rfl (by simp [rd_okp, hp]) k
theorem rd_lst14 {v : Int} {a0 a1 a2 a3 a4 a5 a6 a7 a8 a9 a10 a11 a12 a13 old old2 : Option Value} {r : List (Option Value)} (hd : decode (rd_cd x) pc = .ok (.lstore 14, 2)) (hp : rd_two a13 = false) (k : rd_G x (pc + 2) (a0 :: a1 :: a2 :: a3 :: a4 :: a5 :: a6 :: a7 :: a8 :: a9 :: a10 :: a11 :: a12 :: a13 :: some (rd_l v) :: none :: r) st M n Q) : rd_G x pc (a0 :: a1 :: a2 :: a3 :: a4 :: a5 :: a6 :: a7 :: a8 :: a9 :: a10 :: a11 :: a12 :: a13 :: old :: old2 :: r) (rd_l v :: st) M n Q := rd_lstg (pre := [a0, a1, a2, a3, a4, a5, a6, a7, a8, a9, a10, a11, a12, a13]) hd rfl (by simp [rd_okp, hp]) k
theorem rd_iinc14 {d v : Int} {a0 a1 a2 a3 a4 a5 a6 a7 a8 a9 a10 a11 a12 a13 : Option Value} {r : List (Option Value)} (hd : decode (rd_cd x) pc = .ok (.iinc 14 d, 3)) (hp : rd_two a13 = false) (k : rd_G x (pc + 3) (a0 :: a1 :: a2 :: a3 :: a4 :: a5 :: a6 :: a7 :: a8 :: a9 :: a10 :: a11 :: a12 :: a13 :: some (rd_i (v + d)) :: r) st M n Q) : rd_G x pc (a0 :: a1 :: a2 :: a3 :: a4 :: a5 :: a6 :: a7 :: a8 :: a9 :: a10 :: a11 :: a12 :: a13 :: some (rd_i v) :: r) st M n Q := rd_iincg (pre := [a0, a1, a2, a3, a4, a5, a6, a7, a8, a9, a10, a11, a12, a13]) hd rfl (by simp [rd_okp, hp]) k
theorem rd_ist15 {v : Int} {a0 a1 a2 a3 a4 a5 a6 a7 a8 a9 a10 a11 a12 a13 a14 old : Option Value} {r : List (Option Value)} (hd : decode (rd_cd x) pc = .ok (.istore 15, 2)) (hp : rd_two a14 = false) (k : rd_G x (pc + 2) (a0 :: a1 :: a2 :: a3 :: a4 :: a5 :: a6 :: a7 :: a8 :: a9 :: a10 :: a11 :: a12 :: a13 :: a14 :: some (rd_i v) :: r) st M n Q) : rd_G x pc (a0 :: a1 :: a2 :: a3 :: a4 :: a5 :: a6 :: a7 :: a8 :: a9 :: a10 :: a11 :: a12 :: a13 :: a14 :: old :: r) (rd_i v :: st) M n Q := rd_istg (pre := [a0, a1, a2, a3, a4, a5, a6, a7, a8, a9, a10, a11, a12, a13, a14]) hd rfl (by simp [rd_okp, hp]) k
theorem rd_ast15 {v : Nat} {a0 a1 a2 a3 a4 a5 a6 a7 a8 a9 a10 a11 a12 a13 a14 old : Option Value} {r : List (Option Value)} (hd : decode (rd_cd x) pc = .ok (.astore 15, 2)) (hp : rd_two a14 = false) (k : rd_G x (pc + 2) (a0 :: a1 :: a2 :: a3 :: a4 :: a5 :: a6 :: a7 :: a8 :: a9 :: a10 :: a11 :: a12 :: a13 :: a14 :: some (.ref v) :: r) st M n Q) : rd_G x pc (a0 :: a1 :: a2 :: a3 :: a4 :: a5 :: a6 :: a7 :: a8 :: a9 :: a10 :: a11 :: a12 :: a13 :: a14 :: old :: r) (.ref v :: st) M n Q := rd_astg (pre := [a0, a1, a2, a3, a4, a5, a6, a7, a8, a9, a10, a11, a12, a13, a14]) hd rfl (by simp [rd_okp, hp]) k
theorem rd_lst15 {v : Int} {a0 a1 a2 a3 a4 a5 a6 a7 a8 a9 a10 a11 a12 a13 a14 old old2 : Option Value} {r : List (Option Value)} (hd : decode (rd_cd x) pc = .ok (.lstore 15, 2)) (hp : rd_two a14 = false) (k : rd_G x (pc + 2) (a0 :: a1 :: a2 :: a3 :: a4 :: a5 :: a6 :: a7 :: a8 :: a9 :: a10 :: a11 :: a12 :: a13 :: a14 :: some (rd_l v) :: none :: r) st M n Q) : rd_G x pc (a0 :: a1 :: a2 :: a3 :: a4 :: a5 :: a6 :: a7 :: a8 :: a9 :: a10 :: a11 :: a12 :: a13 :: a14 :: old :: old2 :: r) (rd_l v :: st) M n Q := rd_lstg (pre := [a0, a1, a2, a3, a4, a5, a6, a7, a8, a9, a10, a11, a12, a13, a14]) hd rfl (by simp [rd_okp, hp]) k
theorem rd_iinc15 {d v : Int} {a0 a1 a2 a3 a4 a5 a6 a7 a8 a9 a10 a11 a12 a13 a14 : Option Value} {r : List (Option Value)} (hd : decode (rd_cd x) pc = .ok (.iinc 15 d, 3)) (hp : rd_two a14 = false) (k : rd_G x (pc + 3) (a0 :: a1 :: a2 :: a3 :: a4 :: a5 :: a6 :: a7 :: a8 :: a9 :: a10 :: a11 :: a12 :: a13 :: a14 :: some (rd_i (v + d)) :: r) st M n Q) : rd_G x pc (a0 :: a1 :: a2 :: a3 :: a4 :: a5 :: a6 :: a7 :: a8 :: a9 :: a10 :: a11 :: a12 :: a13 :: a14 :: some (rd_i v) :: r) st M n Q := rd_iincg (pre := [a0, a1, a2, a3, a4, a5, a6, a7, a8, a9, a10, a11, a12, a13, a14]) hd rfl (by simp [rd_okp, hp]) k
theorem rd_ist16 {v : Int} {a0 a1 a2 a3 a4 a5 a6 a7 a8 a9 a10 a11 a12 a13 a14 a15 old : Option Value} {r : List (Option Value)} (hd : decode (rd_cd x) pc = .ok (.istore 16, 2)) (hp : rd_two a15 = false) (k : rd_G x (pc + 2) (a0 :: a1 :: a2 :: a3 :: a4 :: a5 :: a6 :: a7 :: a8 :: a9 :: a10 :: a11 :: a12 :: a13 :: a14 :: a15 :: some (rd_i v) :: r) st M n Q) : rd_G x pc (a0 :: a1 :: a2 :: a3 :: a4 :: a5 :: a6 :: a7 :: a8 :: a9 :: a10 :: a11 :: a12 :: a13 :: a14 :: a15 :: old :: r) (rd_i v :: st) M n Q := rd_istg (pre := [a0, a1, a2, a3, a4, a5, a6, a7, a8, a9, a10, a11, a12, a13, a14, a15]) hd rfl (by simp [rd_okp, hp]) k
theorem rd_ast16 {v : Nat} {a0 a1 a2 a3 a4 a5 a6 a7 a8 a9 a10 a11 a12 a13 a14 a15 old : Option Value} {r : List (Option Value)} (hd : decode (rd_cd x) pc = .ok (.astore 16, 2)) (hp : rd_two a15 = false) (k : rd_G x (pc + 2) (a0 :: a1 :: a2 :: a3 :: a4 :: a5 :: a6 :: a7 :: a8 :: a9 :: a10 :: a11 :: a12 :: a13 :: a14 :: a15 :: some (.ref v) :: r) st M n Q) : rd_G x pc (a0 :: a1 :: a2 :: a3 :: a4 :: a5 :: a6 :: a7 :: a8 :: a9 :: a10 :: a11 :: a12 :: a13 :: a14 :: a15 :: old :: r) (.ref v :: st) M n Q := rd_astg (pre := [a0, a1, a2, a3, a4, a5, a6, a7, a8, a9, a10, a11, a12, a13, a14, a15]) hd rfl (by simp [rd_okp, hp]) k
theorem rd_lst16 {v : Int} {a0 a1 a2 a3 a4 a5 a6 a7 a8 a9 a10 a11 a12 a13 a14 a15 old old2 : Option Value} {r : List (Option Value)} (hd : decode (rd_cd x) pc = .ok (.lstore 16, 2)) (hp : rd_two a15 = false) (k : rd_G x (pc + 2) (a0 :: a1 :: a2 :: a3 :: a4 :: a5 :: a6 :: a7 :: a8 :: a9 :: a10 :: a11 :: a12 :: a13 :: a14 :: a15 :: some (rd_l v) :: none :: r) st M n Q) : rd_G x pc (a0 :: a1 :: a2 :: a3 :: a4 :: a5 :: a6 :: a7 :: a8 :: a9 :: a10 :: a11 :: a12 :: a13 :: a14 :: a15 :: old :: old2 :: r) (rd_l v :: st) M n Q := rd_lstg (pre := [a0, a1, a2, a3, a4, a5, a6, a7, a8, a9, a10, a11, a12, a13, a14, a15]) hd rfl (by simp [rd_okp, hp]) k
theorem rd_iinc16 {d v : Int} {a0 a1 a2 a3 a4 a5 a6 a7 a8 a9 a10 a11 a12 a13 a14 a15 : Option Value} {r : List (Option Value)} (hd : decode (rd_cd x) pc = .ok (.iinc 16 d, 3)) (hp : rd_two a15 = false) (k : rd_G x (pc + 3) (a0 :: a1 :: a2 :: a3 :: a4 :: a5 :: a6 :: a7 :: a8 :: a9 :: a10 :: a11 :: a12 :: a13 :: a14 :: a15 :: some (rd_i (v + d)) :: r) st M n Q) : rd_G x pc (a0 :: a1 :: a2 :: a3 :: a4 :: a5 :: a6 :: a7 :: a8 :: a9 :: a10 :: a11 :: a12 :: a13 :: a14 :: a15 :: some (rd_i v) :: r) st M n Q := rd_iincg (pre := [a0, a1, a2, a3, a4, a5, a6, a7, a8, a9, a10, a11, a12, a13, a14, a15]) hd rfl (by simp [rd_okp, hp]) k
theorem rd_ist17 {v : Int} {a0 a1 a2 a3 a4 a5 a6 a7 a8 a9 a10 a11 a12 a13 a14 a15 a16 old : Option Value} {r : List (Option Value)} (hd : decode (rd_cd x) pc = .ok (.istore 17, 2)) (hp : rd_two a16 = false) (k : rd_G x (pc + 2) (a0 :: a1 :: a2 :: a3 :: a4 :: a5 :: a6 :: a7 :: a8 :: a9 :: a10 :: a11 :: a12 :: a13 :: a14 :: a15 :: a16 :: some (rd_i v) :: r) st M n Q) : rd_G x pc (a0 :: a1 :: a2 :: a3 :: a4 :: a5 :: a6 :: a7 :: a8 :: a9 :: a10 :: a11 :: a12 :: a13 :: a14 :: a15 :: a16 :: old :: r) (rd_i v :: st) M n Q := rd_istg (pre := [a0, a1, a2, a3, a4, a5, a6, a7, a8, a9, a10, a11, a12, a13, a14, a15, a16]) hd rfl (by simp [rd_okp, hp]) k
theorem rd_ast17 {v : Nat} {a0 a1 a2 a3 a4 a5 a6 a7 a8 a9 a10 a11 a12 a13 a14 a15 a16 old : Option Value} {r : List (Option Value)} (hd : decode (rd_cd x) pc = .ok (.astore 17, 2)) (hp : rd_two a16 = false) (k : rd_G x (pc + 2) (a0 :: a1 :: a2 :: a3 :: a4 :: a5 :: a6 :: a7 :: a8 :: a9 :: a10 :: a11 :: a12 :: a13 :: a14 :: a15 :: a16 :: some (.ref v) :: r) st M n Q) : rd_G x pc (a0 :: a1 :: a2 :: a3 :: a4 :: a5 :: a6 :: a7 :: a8 :: a9 :: a10 :: a11 :: a12 :: a13 :: a14 :: a15 :: a16 :: old :: r) (.ref v :: st) M n Q := rd_astg (pre := [a0, a1, a2, a3, a4, a5, a6, a7, a8, a9, a10, a11, a12, a13, a14, a15, a16]) hd rfl (by simp [rd_okp, hp]) k
theorem rd_lst17 {v : Int} {a0 a1 a2 a3 a4 a5 a6 a7 a8 a9 a10 a11 a12 a13 a14 a15 a16 old old2 : Option Value} {r : List (Option Value)} (hd : decode (rd_cd x) pc = .ok (.lstore 17, 2)) (hp : rd_two a16 = false) (k : rd_G x (pc + 2) (a0 :: a1 :: a2 :: a3 :: a4 :: a5 :: a6 :: a7 :: a8 :: a9 :: a10 :: a11 :: a12 :: a13 :: a14 :: a15 :: a16 :: some (rd_l v) :: none :: r) st M n Q) : rd_G x pc (a0 :: a1 :: a2 :: a3 :: a4 :: a5 :: a6 :: a7 :: a8 :: a9 :: a10 :: a11 :: a12 :: a13 :: a14 :: a15 :: a16 :: old :: old2 :: r) (rd_l v :: st) M n Q := rd_lstg (pre := [a0, a1, a2, a3, a4, a5, a6, a7, a8, a9, a10, a11, a12, a13, a14, a15, a16]) hd rfl (by simp [rd_okp, hp]) k
theorem rd_iinc17 {d v : Int} {a0 a1 a2 a3 a4 a5 a6 a7 a8 a9 a10 a11 a12 a13 a14 a15 a16 : Option Value} {r : List (Option Value)} (hd : decode (rd_cd x) pc = .ok (.iinc 17 d, 3)) (hp : rd_two a16 = false) (k : rd_G x (pc + 3) (a0 :: a1 :: a2 :: a3 :: a4 :: a5 :: a6 :: a7 :: a8 :: a9 :: a10 :: a11 :: a12 :: a13 :: a14 :: a15 :: a16 :: some (rd_i (v + d)) :: r) st M n Q) : rd_G x pc (a0 :: a1 :: a2 :: a3 :: a4 :: a5 :: a6 :: a7 :: a8 :: a9 :: a10 :: a11 :: a12 :: a13 :: a14 :: a15 :: a16 :: some (rd_i v) :: r) st M n Q := rd_iincg (pre := [a0, a1, a2, a3, a4, a5, a6, a7, a8, a9, a10, a11, a12, a13, a14, a15, a16]) hd rfl (by simp [rd_okp, hp]) k
theorem rd_ist18 {v : Int} {a0 a1 a2 a3 a4 a5 a6 a7 a8 a9 a10 a11 a12 a13 a14 a15 a16 a17 old : Option Value} {r : List (Option Value)} (hd : decode (rd_cd x) pc = .ok (.istore 18, 2)) (hp : rd_two a17 = false) (k : rd_G x (pc + 2) (a0 :: a1 :: a2 :: a3 :: a4 :: a5 :: a6 :: a7 :: a8 :: a9 :: a10 :: a11 :: a12 :: a13 :: a14 :: a15 :: a16 :: a17 :: some (rd_i v) :: r) st M n Q) : rd_G x pc (a0 :: a1 :: a2 :: a3 :: a4 :: a5 :: a6 :: a7 :: a8 :: a9 :: a10 :: a11 :: a12 :: a13 :: a14 :: a15 :: a16 :: a17 :: old :: r) (rd_i v :: st) M n Q := rd_istg (pre := [a0, a1, a2, a3, a4, a5, a6, a7, a8, a9, a10, a11, a12, a13, a14, a15, a16, a17]) hd rfl (by simp [rd_okp, hp]) k
theorem rd_ast18 {v : Nat} {a0 a1 a2 a3 a4 a5 a6 a7 a8 a9 a10 a11 a12 a13 a14 a15 a16 a17 old : Option Value} {r : List (Option Value)} (hd : decode (rd_cd x) pc = .ok (.astore 18, 2)) (hp : rd_two a17 = false) (k : rd_G x (pc + 2) (a0 :: a1 :: a2 :: a3 :: a4 :: a5 :: a6 :: a7 :: a8 :: a9 :: a10 :: a11 :: a12 :: a13 :: a14 :: a15 :: a16 :: a17 :: some (.ref v) :: r) st M n Q) : rd_G x pc (a0 :: a1 :: a2 :: a3 :: a4 :: a5 :: a6 :: a7 :: a8 :: a9 :: a10 :: a11 :: a12 :: a13 :: a14 :: a15 :: a16 :: a17 :: old :: r) (.ref v :: st) M n Q := rd_astg (pre := [a0, a1, a2, a3, a4, a5, a6, a7, a8, a9, a10, a11, a12, a13, a14, a15, a16, a17]) hd rfl (by simp [rd_okp, hp]) k
theorem rd_lst18 {v : Int} {a0 a1 a2 a3 a4 a5 a6 a7 a8 a9 a10 a11 a12 a13 a14 a15 a16 a17 old old2 : Option Value} {r : List (Option Value)} (hd : decode (rd_cd x) pc = .ok (.lstore 18, 2)) (hp : rd_two a17 = false) (k : rd_G x (pc + 2) (a0 :: a1 :: a2 :: a3 :: a4 :: a5 :: a6 :: a7 :: a8 :: a9 :: a10 :: a11 :: a12 :: a13 :: a14 :: a15 :: a16 :: a17 :: some (rd_l v) :: none :: r) st M n Q) : rd_G x pc (a0 :: a1 :: a2 :: a3 :: a4 :: a5 :: a6 :: a7 :: a8 :: a9 :: a10 :: a11 :: a12 :: a13 :: a14 :: a15 :: a16 :: a17 :: old :: old2 :: r) (rd_l v :: st) M n Q := rd_lstg (pre := [a0, a1, a2, a3, a4, a5, a6, a7, a8, a9, a10, a11, a12, a13, a14, a15, a16, a17]) hd rfl (by simp [rd_okp, hp]) k
theorem rd_iinc18 {d v : Int} {a0 a1 a2 a3 a4 a5 a6 a7 a8 a9 a10 a11 a12 a13 a14 a15 a16 a17 : Option Value} {r : List (Option Value)} (hd : decode (rd_cd x) pc = .ok (.iinc 18 d, 3)) (hp : rd_two a17 = false) (k : rd_G x (pc + 3) (a0 :: a1 :: a2 :: a3 :: a4 :: a5 :: a6 :: a7 :: a8 :: a9 :: a10 :: a11 :: a12 :: a13 :: a14 :: a15 :: a16 :: a17 :: some (rd_i (v + d)) :: r) st M n Q) : rd_G x pc (a0 :: a1 :: a2 :: a3 :: a4 :: a5 :: a6 :: a7 :: a8 :: a9 :: a10 :: a11 :: a12 :: a13 :: a14 :: a15 :: a16 :: a17 :: some (rd_i v) :: r) st M n Q := rd_iincg (pre := [a0, a1, a2, a3, a4, a5, a6, a7, a8, a9, a10, a11, a12, a13, a14, a15, a16, a17]) hd rfl (by simp [rd_okp, hp]) k
theorem rd_ist19 {v : Int} {a0 a1 a2 a3 a4 a5 a6 a7 a8 a9 a10 a11 a12 a13 a14 a15 a16 a17 a18 old : Option Value} {r : List (Option Value)} (hd : decode (rd_cd x) pc = .ok (.istore 19, 2)) (hp : rd_two a18 = false) (k : rd_G x (pc + 2) (a0 :: a1 :: a2 :: a3 :: a4 :: a5 :: a6 :: a7 :: a8 :: a9 :: a10 :: a11 :: a12 :: a13 :: a14 :: a15 :: a16 :: a17 :: a18 :: some (rd_i v) :: r) st M n Q) : rd_G x pc (a0 :: a1 :: a2 :: a3 :: a4 :: a5 :: a6 :: a7 :: a8 :: a9 :: a10 :: a11 :: a12 :: a13 :: a14 :: a15 :: a16 :: a17 :: a18 :: old :: r) (rd_i v :: st) M n Q := rd_istg (pre := [a0, a1, a2, a3, a4, a5, a6, a7, a8, a9, a10, a11, a12, a13, a14, a15, a16, a17, a18]) hd rfl (by simp [rd_okp, hp]) k
theorem rd_ast19 {v : Nat} {a0 a1 a2 a3 a4 a5 a6 a7 a8 a9 a10 a11 a12 a13 a14 a15 a16 a17 a18 old : Option Value} {r : List (Option Value)} (hd : decode (rd_cd x) pc = .ok (.astore 19, 2)) (hp : rd_two a18 = false) (k : rd_G x (pc + 2) (a0 :: a1 :: a2 :: a3 :: a4 :: a5 :: a6 :: a7 :: a8 :: a9 :: a10 :: a11 :: a12 :: a13 :: a14 :: a15 :: a16 :: a17 :: a18 :: some (.ref v) :: r) st M n Q) : rd_G x pc (a0 :: a1 :: a2 :: a3 :: a4 :: a5 :: a6 :: a7 :: a8 :: a9 :: a10 :: a11 :: a12 :: a13 :: a14 :: a15 :: a16 :: a17 :: a18 :: old :: r) (.ref v :: st) M n Q := rd_astg (pre := [a0, a1, a2, a3, a4, a5, a6, a7, a8, a9, a10, a11, a12, a13, a14, a15, a16, a17, a18]) hd rfl (by simp [rd_okp, hp]) k
theorem rd_lst19 {v : Int} {a0 a1 a2 a3 a4 a5 a6 a7 a8 a9 a10 a11 a12 a13 a14 a15 a16 a17 a18 old old2 : Option Value} {r : List (Option Value)} (hd : decode (rd_cd x) pc = .ok (.lstore 19, 2)) (hp : rd_two a18 = false) (k : rd_G x (pc + 2) (a0 :: a1 :: a2 :: a3 :: a4 :: a5 :: a6 :: a7 :: a8 :: a9 :: a10 :: a11 :: a12 :: a13 :: a14 :: a15 :: a16 :: a17 :: a18 :: some (rd_l v) :: none :: r) st M n Q) : rd_G x pc (a0 :: a1 :: a2 :: a3 :: a4 :: a5 :: a6 :: a7 :: a8 :: a9 :: a10 :: a11 :: a12 :: a13 :: a14 :: a15 :: a16 :: a17 :: a18 :: old :: old2 :: r) (rd_l v :: st) M n Q := rd_lstg (pre := [a0, a1, a2, a3, a4, a5, a6, a7, a8, a9, a10, a11, a12, a13, a14, a15, a16, a17, a18]) hd rfl (by simp [rd_okp, hp]) k
theorem rd_iinc19 {d v : Int} {a0 a1 a2 a3 a4 a5 a6 a7 a8 a9 a10 a11 a12 a13 a14 a15 a16 a17 a18 : Option Value} {r : List (Option Value)} (hd : decode (rd_cd x) pc = .ok (.iinc 19 d, 3)) (hp : rd_two a18 = false) (k : rd_G x (pc + 3) (a0 :: a1 :: a2 :: a3 :: a4 :: a5 :: a6 :: a7 :: a8 :: a9 :: a10 :: a11 :: a12 :: a13 :: a14 :: a15 :: a16 :: a17 :: a18 :: some (rd_i (v + d)) :: r) st M n Q) : rd_G x pc (a0 :: a1 :: a2 :: a3 :: a4 :: a5 :: a6 :: a7 :: a8 :: a9 :: a10 :: a11 :: a12 :: a13 :: a14 :: a15 :: a16 :: a17 :: a18 :: some (rd_i v) :: r) st M n Q := rd_iincg (pre := [a0, a1, a2, a3, a4, a5, a6, a7, a8, a9, a10, a11, a12, a13, a14, a15, a16, a17, a18]) hd rfl (by simp [rd_okp, hp]) k
theorem rd_ist20 {v : Int} {a0 a1 a2 a3 a4 a5 a6 a7 a8 a9 a10 a11 a12 a13 a14 a15 a16 a17 a18 a19 old : Option Value} {r : List (Option Value)} (hd : decode (rd_cd x) pc = .ok (.istore 20, 2)) (hp : rd_two a19 = false) (k : rd_G x (pc + 2) (a0 :: a1 :: a2 :: a3 :: a4 :: a5 :: a6 :: a7 :: a8 :: a9 :: a10 :: a11 :: a12 :: a13 :: a14 :: a15 :: a16 :: a17 :: a18 :: a19 :: some (rd_i v) :: r) st M n Q) : rd_G x pc (a0 :: a1 :: a2 :: a3 :: a4 :: a5 :: a6 :: a7 :: a8 :: a9 :: a10 :: a11 :: a12 :: a13 :: a14 :: a15 :: a16 :: a17 :: a18 :: a19 :: old :: r) (rd_i v :: st) M n Q := rd_istg (pre := [a0, a1, a2, a3, a4, a5, a6, a7, a8, a9, a10, a11, a12, a13, a14, a15, a16, a17, a18, a19]) hd rfl (by simp [rd_okp, hp]) k
theorem rd_ast20 {v : Nat} {a0 a1 a2 a3 a4 a5 a6 a7 a8 a9 a10 a11 a12 a13 a14 a15 a16 a17 a18 a19 old : Option Value} {r : List (Option Value)} (hd : decode (rd_cd x) pc = .ok (.astore 20, 2)) (hp : rd_two a19 = false) (k : rd_G x (pc + 2) (a0 :: a1 :: a2 :: a3 :: a4 :: a5 :: a6 :: a7 :: a8 :: a9 :: a10 :: a11 :: a12 :: a13 :: a14 :: a15 :: a16 :: a17 :: a18 :: a19 :: some (.ref v) :: r) st M n Q) : rd_G x pc (a0 :: a1 :: a2 :: a3 :: a4 :: a5 :: a6 :: a7 :: a8 :: a9 :: a10 :: a11 :: a12 :: a13 :: a14 :: a15 :: a16 :: a17 :: a18 :: a19 :: old :: r) (.ref v :: st) M n Q := rd_astg (pre := [a0, a1, a2, a3, a4, a5, a6, a7, a8, a9, a10, a11, a12, a13, a14, a15, a16, a17, a18, a19]) hd rfl (by simp [rd_okp, hp]) k
theorem rd_lst20 {v : Int} {a0 a1 a2 a3 a4 a5 a6 a7 a8 a9 a10 a11 a12 a13 a14 a15 a16 a17 a18 a19 old old2 : Option Value} {r : List (Option Value)} (hd : decode (rd_cd x) pc = .ok (.lstore 20, 2)) (hp : rd_two a19 = false) (k : rd_G x (pc + 2) (a0 :: a1 :: a2 :: a3 :: a4 :: a5 :: a6 :: a7 :: a8 :: a9 :: a10 :: a11 :: a12 :: a13 :: a14 :: a15 :: a16 :: a17 :: a18 :: a19 :: some (rd_l v) :: none :: r) st M n Q) : rd_G x pc (a0 :: a1 :: a2 :: a3 :: a4 :: a5 :: a6 :: a7 :: a8 :: a9 :: a10 :: a11 :: a12 :: a13 :: a14 :: a15 :: a16 :: a17 :: a18 :: a19 :: old :: old2 :: r) (rd_l v :: st) M n Q := rd_lstg (pre := [a0, a1, a2, a3, a4, a5, a6, a7, a8, a9, a10, a11, a12, a13, a14, a15, a16, a17, a18, a19]) hd rfl (by simp [rd_okp, hp]) k
theorem rd_iinc20 {d v : Int} {a0 a1 a2 a3 a4 a5 a6 a7 a8 a9 a10 a11 a12 a13 a14 a15 a16 a17 a18 a19 : Option Value} {r : List (Option Value)} (hd : decode (rd_cd x) pc = .ok (.iinc 20 d, 3)) (hp : rd_two a19 = false) (k : rd_G x (pc + 3) (a0 :: a1 :: a2 :: a3 :: a4 :: a5 :: a6 :: a7 :: a8 :: a9 :: a10 :: a11 :: a12 :: a13 :: a14 :: a15 :: a16 :: a17 :: a18 :: a19 :: some (rd_i (v + d)) :: r) st M n Q) : rd_G x pc (a0 :: a1 :: a2 :: a3 :: a4 :: a5 :: a6 :: a7 :: a8 :: a9 :: a10 :: a11 :: a12 :: a13 :: a14 :: a15 :: a16 :: a17 :: a18 :: a19 :: some (rd_i v) :: r) st M n Q := rd_iincg (pre := [a0, a1, a2, a3, a4, a5, a6, a7, a8, a9, a10, a11, a12, a13, a14, a15, a16, a17, a18, a19]) hd rfl (by simp [rd_okp, hp]) k
theorem rd_ist21 {v : Int} {a0 a1 a2 a3 a4 a5 a6 a7 a8 a9 a10 a11 a12 a13 a14 a15 a16 a17 a18 a19 a20 old : Option Value} {r : List (Option Value)} (hd : decode (rd_cd x) pc = .ok (.istore 21, 2)) (hp : rd_two a20 = false) (k : rd_G x (pc + 2) (a0 :: a1 :: a2 :: a3 :: a4 :: a5 :: a6 :: a7 :: a8 :: a9 :: a10 :: a11 :: a12 :: a13 :: a14 :: a15 :: a16 :: a17 :: a18 :: a19 :: a20 :: some (rd_i v) :: r) st M n Q) : rd_G x pc (a0 :: a1 :: a2 :: a3 :: a4 :: a5 :: a6 :: a7 :: a8 :: a9 :: a10 :: a11 :: a12 :: a13 :: a14 :: a15 :: a16 :: a17 :: a18 :: a19 :: a20 :: old :: r) (rd_i v :: st) M n Q := rd_istg (pre := [a0, a1, a2, a3, a4, a5, a6, a7, a8, a9, a10, a11, a12, a13, a14, a15, a16, a17, a18, a19, a20]) hd rfl (by simp [rd_okp, hp]) k
theorem rd_ast21 {v : Nat} {a0 a1 a2 a3 a4 a5 a6 a7 a8 a9 a10 a11 a12 a13 a14 a15 a16 a17 a18 a19 a20 old : Option Value} {r : List (Option Value)} (hd : decode (rd_cd x) pc = .ok (.astore 21, 2)) (hp : rd_two a20 = false) (k : rd_G x (pc + 2) (a0 :: a1 :: a2 :: a3 :: a4 :: a5 :: a6 :: a7 :: a8 :: a9 :: a10 :: a11 :: a12 :: a13 :: a14 :: a15 :: a16 :: a17 :: a18 :: a19 :: a20 :: some (.ref v) :: r) st M n Q) : rd_G x pc (a0 :: a1 :: a2 :: a3 :: a4 :: a5 :: a6 :: a7 :: a8 :: a9 :: a10 :: a11 :: a12 :: a13 :: a14 :: a15 :: a16 :: a17 :: a18 :: a19 :: a20 :: old :: r) (.ref v :: st) M n Q := rd_astg (pre := [a0, a1, a2, a3, a4, a5, a6, a7, a8, a9, a10, a11, a12, a13, a14, a15, a16, a17, a18, a19, a20]) hd rfl (by simp [rd_okp, hp]) k
theorem rd_lst21 {v : Int} {a0 a1 a2 a3 a4 a5 a6 a7 a8 a9 a10 a11 a12 a13 a14 a15 a16 a17 a18 a19 a20 old old2 : Option Value} {r : List (Option Value)} (hd : decode (rd_cd x) pc = .ok (.lstore 21, 2)) (hp : rd_two a20 = false) (k : rd_G x (pc + 2) (a0 :: a1 :: a2 :: a3 :: a4 :: a5 :: a6 :: a7 :: a8 :: a9 :: a10 :: a11 :: a12 :: a13 :: a14 :: a15 :: a16 :: a17 :: a18 :: a19 :: a20 :: some (rd_l v) :: none :: r) st M n Q) : rd_G x pc (a0 :: a1 :: a2 :: a3 :: a4 :: a5 :: a6 :: a7 :: a8 :: a9 :: a10 :: a11 :: a12 :: a13 :: a14 :: a15 :: a16 :: a17 :: a18 :: a19 :: a20 :: old :: old2 :: r) (rd_l v :: st) M n Q := rd_lstg (pre := [a0, a1, a2, a3, a4, a5, a6, a7, a8, a9, a10, a11, a12, a13, a14, a15, a16, a17, a18, a19, a20]) hd rfl (by simp [rd_okp, hp]) k
theorem rd_iinc21 {d v : Int} {a0 a1 a2 a3 a4 a5 a6 a7 a8 a9 a10 a11 a12 a13 a14 a15 a16 a17 a18 a19 a20 : Option Value} {r : List (Option Value)} (hd : decode (rd_cd x) pc = .ok (.iinc 21 d, 3)) (hp : rd_two a20 = false) (k : rd_G x (pc + 3) (a0 :: a1 :: a2 :: a3 :: a4 :: a5 :: a6 :: a7 :: a8 :: a9 :: a10 :: a11 :: a12 :: a13 :: a14 :: a15 :: a16 :: a17 :: a18 :: a19 :: a20 :: some (rd_i (v + d)) :: r) st M n Q) : rd_G x pc (a0 :: a1 :: a2 :: a3 :: a4 :: a5 :: a6 :: a7 :: a8 :: a9 :: a10 :: a11 :: a12 :: a13 :: a14 :: a15 :: a16 :: a17 :: a18 :: a19 :: a20 :: some (rd_i v) :: r) st M n Q := rd_iincg (pre := [a0, a1, a2, a3, a4, a5, a6, a7, a8, a9, a10, a11, a12, a13, a14, a15, a16, a17, a18, a19, a20]) hd rfl (by simp [rd_okp, hp]) k
theorem rd_ist22 {v : Int} {a0 a1 a2 a3 a4 a5 a6 a7 a8 a9 a10 a11 a12 a13 a14 a15 a16 a17 a18 a19 a20 a21 old : Option Value} {r : List (Option Value)} (hd : decode (rd_cd x) pc = .ok (.istore 22, 2)) (hp : rd_two a21 = false) (k : rd_G x (pc + 2) (a0 :: a1 :: a2 :: a3 :: a4 :: a5 :: a6 :: a7 :: a8 :: a9 :: a10 :: a11 :: a12 :: a13 :: a14 :: a15 :: a16 :: a17 :: a18 :: a19 :: a20 :: a21 :: some (rd_i v) :: r) st M n Q) : rd_G x pc (a0 :: a1 :: a2 :: a3 :: a4 :: a5 :: a6 :: a7 :: a8 :: a9 :: a10 :: a11 :: a12 :: a13 :: a14 :: a15 :: a16 :: a17 :: a18 :: a19 :: a20 :: a21 :: old :: r) (rd_i v :: st) M n Q := rd_istg (pre := [a0, a1, a2, a3, a4, a5, a6, a7, a8, a9, a10, a11, a12, a13, a14, a15, a16, a17, a18, a19, a20, a21]) hd rfl (by simp [rd_okp, hp]) k
theorem rd_ast22 {v : Nat} {a0 a1 a2 a3 a4 a5 a6 a7 a8 a9 a10 a11 a12 a13 a14 a15 a16 a17 a18 a19 a20 a21 old : Option Value} {r : List (Option Value)} (hd : decode (rd_cd x) pc = .ok (.astore 22, 2)) (hp : rd_two a21 = false) (k : rd_G x (pc + 2) (a0 :: a1 :: a2 :: a3 :: a4 :: a5 :: a6 :: a7 :: a8 :: a9 :: a10 :: a11 :: a12 :: a13 :: a14 :: a15 :: a16 :: a17 :: a18 :: a19 :: a20 :: a21 :: some (.ref v) :: r) st M n Q) : rd_G x pc (a0 :: a1 :: a2 :: a3 :: a4 :: a5 :: a6 :: a7 :: a8 :: a9 :: a10 :: a11 :: a12 :: a13 :: a14 :: a15 :: a16 :: a17 :: a18 :: a19 :: a20 :: a21 :: old :: r) (.ref v :: st) M n Q := rd_astg (pre := [a0, a1, a2, a3, a4, a5, a6, a7, a8, a9, a10, a11, a12, a13, a14, a15, a16, a17, a18, a19, a20, a21]) hd rfl (by simp [rd_okp, hp]) k
theorem rd_lst22 {v : Int} {a0 a1 a2 a3 a4 a5 a6 a7 a8 a9 a10 a11 a12 a13 a14 a15 a16 a17 a18 a19 a20 a21 old old2 : Option Value} {r : List (Option Value)} (hd : decode (rd_cd x) pc = .ok (.lstore 22, 2)) (hp : rd_two a21 = false) (k : rd_G x (pc + 2) (a0 :: a1 :: a2 :: a3 :: a4 :: a5 :: a6 :: a7 :: a8 :: a9 :: a10 :: a11 :: a12 :: a13 :: a14 :: a15 :: a16 :: a17 :: a18 :: a19 :: a20 :: a21 :: some (rd_l v) :: none :: r) st M n Q) : rd_G x pc (a0 :: a1 :: a2 :: a3 :: a4 :: a5 :: a6 :: a7 :: a8 :: a9 :: a10 :: a11 :: a12 :: a13 :: a14 :: a15 :: a16 :: a17 :: a18 :: a19 :: a20 :: a21 :: old :: old2 :: r) (rd_l v :: st) M n Q := rd_lstg (pre := [a0, a1, a2, a3, a4, a5, a6, a7, a8, a9, a10, a11, a12, a13, a14, a15, a16, a17, a18, a19, a20, a21]) hd rfl (by simp [rd_okp, hp]) k
theorem rd_iinc22 {d v : Int} {a0 a1 a2 a3 a4 a5 a6 a7 a8 a9 a10 a11 a12 a13 a14 a15 a16 a17 a18 a19 a20 a21 : Option Value} {r : List (Option Value)} (hd : decode (rd_cd x) pc = .ok (.iinc 22 d, 3)) (hp : rd_two a21 = false) (k : rd_G x (pc + 3) (a0 :: a1 :: a2 :: a3 :: a4 :: a5 :: a6 :: a7 :: a8 :: a9 :: a10 :: a11 :: a12 :: a13 :: a14 :: a15 :: a16 :: a17 :: a18 :: a19 :: a20 :: a21 :: some (rd_i (v + d)) :: r) st M n Q) : rd_G x pc (a0 :: a1 :: a2 :: a3 :: a4 :: a5 :: a6 :: a7 :: a8 :: a9 :: a10 :: a11 :: a12 :: a13 :: a14 :: a15 :: a16 :: a17 :: a18 :: a19 :: a20 :: a21 :: some (rd_i v) :: r) st M n Q := rd_iincg (pre := [a0, a1, a2, a3, a4, a5, a6, a7, a8, a9, a10, a11, a12, a13, a14, a15, a16, a17, a18, a19, a20, a21]) hd rfl (by simp [rd_okp, hp]) k
theorem rd_ist23 {v : Int} {a0 a1 a2 a3 a4 a5 a6 a7 a8 a9 a10 a11 a12 a13 a14 a15 a16 a17 a18 a19 a20 a21 a22 old : Option Value} {r : List (Option Value)} (hd : decode (rd_cd x) pc = .ok (.istore 23, 2)) (hp : rd_two a22 = false) (k : rd_G x (pc + 2) (a0 :: a1 :: a2 :: a3 :: a4 :: a5 :: a6 :: a7 :: a8 :: a9 :: a10 :: a11 :: a12 :: a13 :: a14 :: a15 :: a16 :: a17 :: a18 :: a19 :: a20 :: a21 :: a22 :: some (rd_i v) :: r) st M n Q) : rd_G x pc (a0 :: a1 :: a2 :: a3 :: a4 :: a5 :: a6 :: a7 :: a8 :: a9 :: a10 :: a11 :: a12 :: a13 :: a14 :: a15 :: a16 :: a17 :: a18 :: a19 :: a20 :: a21 :: a22 :: old :: r) (rd_i v :: st) M n Q := rd_istg (pre := [a0, a1, a2, a3, a4, a5, a6, a7, a8, a9, a10, a11, a12, a13, a14, a15, a16, a17, a18, a19, a20, a21, a22]) hd rfl (by simp [rd_okp, hp]) k
theorem rd_ast23 {v : Nat} {a0 a1 a2 a3 a4 a5 a6 a7 a8 a9 a10 a11 a12 a13 a14 a15 a16 a17 a18 a19 a20 a21 a22 old : Option Value} {r : List (Option Value)} (hd : decode (rd_cd x) pc = .ok (.astore 23, 2)) (hp : rd_two a22 = false) (k : rd_G x (pc + 2) (a0 :: a1 :: a2 :: a3 :: a4 :: a5 :: a6 :: a7 :: a8 :: a9 :: a10 :: a11 :: a12 :: a13 :: a14 :: a15 :: a16 :: a17 :: a18 :: a19 :: a20 :: a21 :: a22 :: some (.ref v) :: r) st M n Q) : rd_G x pc (a0 :: a1 :: a2 :: a3 :: a4 :: a5 :: a6 :: a7 :: a8 :: a9 :: a10 :: a11 :: a12 :: a13 :: a14 :: a15 :: a16 :: a17 :: a18 :: a19 :: a20 :: a21 :: a22 :: old :: r) (.ref v :: st) M n Q := rd_astg (pre := [a0, a1, a2, a3, a4, a5, a6, a7, a8, a9, a10, a11, a12, a13, a14, a15, a16, a17, a18, a19, a20, a21, a22]) hd rfl (by simp [rd_okp, hp]) k
theorem rd_lst23 {v : Int} {a0 a1 a2 a3 a4 a5 a6 a7 a8 a9 a10 a11 a12 a13 a14 a15 a16 a17 a18 a19 a20 a21 a22 old old2 : Option Value} {r : List (Option Value)} (hd : decode (rd_cd x) pc = .ok (.lstore 23, 2)) (hp : rd_two a22 = false) (k : rd_G x (pc + 2) (a0 :: a1 :: a2 :: a3 :: a4 :: a5 :: a6 :: a7 :: a8 :: a9 :: a10 :: a11 :: a12 :: a13 :: a14 :: a15 :: a16 :: a17 :: a18 :: a19 :: a20 :: a21 :: a22 :: some (rd_l v) :: none :: r) st M n Q) : rd_G x pc (a0 :: a1 :: a2 :: a3 :: a4 :: a5 :: a6 :: a7 :: a8 :: a9 :: a10 :: a11 :: a12 :: a13 :: a14 :: a15 :: a16 :: a17 :: a18 :: a19 :: a20 :: a21 :: a22 :: old :: old2 :: r) (rd_l v :: st) M n Q := rd_lstg (pre := [a0, a1, a2, a3, a4, a5, a6, a7, a8, a9, a10, a11, a12, a13, a14, a15, a16, a17, a18, a19, a20, a21, a22]) hd rfl (by simp [rd_okp, hp]) k
theorem rd_iinc23 {d v : Int} {a0 a1 a2 a3 a4 a5 a6 a7 a8 a9 a10 a11 a12 a13 a14 a15 a16 a17 a18 a19 a20 a21 a22 : Option Value} {r : List (Option Value)} (hd : decode (rd_cd x) pc = .ok (.iinc 23 d, 3)) (hp : rd_two a22 = false) (k : rd_G x (pc + 3) (a0 :: a1 :: a2 :: a3 :: a4 :: a5 :: a6 :: a7 :: a8 :: a9 :: a10 :: a11 :: a12 :: a13 :: a14 :: a15 :: a16 :: a17 :: a18 :: a19 :: a20 :: a21 :: a22 :: some (rd_i (v + d)) :: r) st M n Q) : rd_G x pc (a0 :: a1 :: a2 :: a3 :: a4 :: a5 :: a6 :: a7 :: a8 :: a9 :: a10 :: a11 :: a12 :: a13 :: a14 :: a15 :: a16 :: a17 :: a18 :: a19 :: a20 :: a21 :: a22 :: some (rd_i v) :: r) st M n Q := rd_iincg (pre := [a0, a1, a2, a3, a4, a5, a6, a7, a8, a9, a10, a11, a12, a13, a14, a15, a16, a17, a18, a19, a20, a21, a22]) hd rfl (by simp [rd_okp, hp]) k
theorem rd_iadd {a b : Int} (hd : decode (rd_cd x) pc = .ok (.iadd, 1)) (k : rd_G x (pc + 1) L (rd_i (a + b) :: st) M n Q) : rd_G x pc L (rd_i b :: rd_i a :: st) M n Q := by
  have k : rd_G x (pc + 1) L (.int (Int32.ofInt a + Int32.ofInt b) :: st) M n Q := rd_top (congrArg Value.int (Int32.ofInt_add a b)) k
  intro p l e R s m args below meth c σ D cA A C H locs ls cells slots hc hs hP hS hl
  exact lv_iadd (x := Int32.ofInt a) (y := Int32.ofInt b) (rest := st.map (rd_pv σ)) C.1 C.2.1 hd (k p l e R s m args below meth c σ D cA A C H locs ls cells slots hc hs hP hS hl)
theorem rd_isub {a b : Int} (hd : decode (rd_cd x) pc = .ok (.isub, 1)) (k : rd_G x (pc + 1) L (rd_i (a - b) :: st) M n Q) : rd_G x pc L (rd_i b :: rd_i a :: st) M n Q := by
  have k : rd_G x (pc + 1) L (.int (Int32.ofInt a - Int32.ofInt b) :: st) M n Q := rd_top (congrArg Value.int (Int32.ofInt_sub a b)) k
  intro p l e R s m args below meth c σ D cA A C H locs ls cells slots hc hs hP hS hl
  exact lv_isub (x := Int32.ofInt a) (y := Int32.ofInt b) (rest := st.map (rd_pv σ)) C.1 C.2.1 hd (k p l e R s m args below meth c σ D cA A C H locs ls cells slots hc hs hP hS hl)
theorem rd_imul {a b : Int} (hd : decode (rd_cd x) pc = .ok (.imul, 1)) (k : rd_G x (pc + 1) L (rd_i (a * b) :: st) M n Q) : rd_G x pc L (rd_i b :: rd_i a :: st) M n Q := by
  have k : rd_G x (pc + 1) L (.int (Int32.ofInt a * Int32.ofInt b) :: st) M n Q := rd_top (congrArg Value.int (Int32.ofInt_mul a b)) k
  intro p l e R s m args below meth c σ D cA A C H locs ls cells slots hc hs hP hS hl
  exact lv_imul (x := Int32.ofInt a) (y := Int32.ofInt b) (rest := st.map (rd_pv σ)) C.1 C.2.1 hd (k p l e R s m args below meth c σ D cA A C H locs ls cells slots hc hs hP hS hl)
theorem rd_idiv {a b : Int} (hd : decode (rd_cd x) pc = .ok (.idiv, 1)) (ha : rd_I a) (hb : rd_I b) (h0 : b ≠ 0) (k : rd_G x (pc + 1) L (rd_i (a.tdiv b) :: st) M n Q) : rd_G x pc L (rd_i b :: rd_i a :: st) M n Q := by
  have k : rd_G x (pc + 1) L (.int (Int32.ofInt a / Int32.ofInt b) :: st) M n Q := rd_top (congrArg Value.int ((rd_div32 ha hb).symm)) k
  intro p l e R s m args below meth c σ D cA A C H locs ls cells slots hc hs hP hS hl
  exact lv_idiv (x := Int32.ofInt a) (y := Int32.ofInt b) (rest := st.map (rd_pv σ)) C.1 C.2.1 hd (rd_ne0_32 hb h0) (k p l e R s m args below meth c σ D cA A C H locs ls cells slots hc hs hP hS hl)
theorem rd_irem {a b : Int} (hd : decode (rd_cd x) pc = .ok (.irem, 1)) (ha : rd_I a) (hb : rd_I b) (h0 : b ≠ 0) (k : rd_G x (pc + 1) L (rd_i (a.tmod b) :: st) M n Q) : rd_G x pc L (rd_i b :: rd_i a :: st) M n Q := by
  have k : rd_G x (pc + 1) L (.int (Int32.ofInt a - Int32.ofInt a / Int32.ofInt b * Int32.ofInt b) :: st) M n Q := rd_top (congrArg Value.int (by rw [rd_div32 ha hb, ← Int32.ofInt_mul, ← Int32.ofInt_sub, Int.mul_comm, ← Int.tmod_def])) k
  intro p l e R s m args below meth c σ D cA A C H locs ls cells slots hc hs hP hS hl
  exact lv_irem (x := Int32.ofInt a) (y := Int32.ofInt b) (rest := st.map (rd_pv σ)) C.1 C.2.1 hd (rd_ne0_32 hb h0) (k p l e R s m args below meth c σ D cA A C H locs ls cells slots hc hs hP hS hl)
theorem rd_ladd {a b : Int} (hd : decode (rd_cd x) pc = .ok (.ladd, 1)) (k : rd_G x (pc + 1) L (rd_l (a + b) :: st) M n Q) : rd_G x pc L (rd_l b :: rd_l a :: st) M n Q := by
  have k : rd_G x (pc + 1) L (.long (Int64.ofInt a + Int64.ofInt b) :: st) M n Q := rd_top (congrArg Value.long (Int64.ofInt_add a b)) k
  intro p l e R s m args below meth c σ D cA A C H locs ls cells slots hc hs hP hS hl
  exact lv_ladd (x := Int64.ofInt a) (y := Int64.ofInt b) (rest := st.map (rd_pv σ)) C.1 C.2.1 hd (k p l e R s m args below meth c σ D cA A C H locs ls cells slots hc hs hP hS hl)
theorem rd_lsub {a b : Int} (hd : decode (rd_cd x) pc = .ok (.lsub, 1)) (k : rd_G x (pc + 1) L (rd_l (a - b) :: st) M n Q) : rd_G x pc L (rd_l b :: rd_l a :: st) M n Q := by
  have k : rd_G x (pc + 1) L (.long (Int64.ofInt a - Int64.ofInt b) :: st) M n Q := rd_top (congrArg Value.long (Int64.ofInt_sub a b)) k
  intro p l e R s m args below meth c σ D cA A C H locs ls cells slots hc hs hP hS hl
  exact lv_lsub (x := Int64.ofInt a) (y := Int64.ofInt b) (rest := st.map (rd_pv σ)) C.1 C.2.1 hd (k p l e R s m args below meth c σ D cA A C H locs ls cells slots hc hs hP hS hl)
theorem rd_lmul {a b : Int} (hd : decode (rd_cd x) pc = .ok (.lmul, 1)) (k : rd_G x (pc + 1) L (rd_l (a * b) :: st) M n Q) : rd_G x pc L (rd_l b :: rd_l a :: st) M n Q := by
  have k : rd_G x (pc + 1) L (.long (Int64.ofInt a * Int64.ofInt b) :: st) M n Q := rd_top (congrArg Value.long (Int64.ofInt_mul a b)) k
  intro p l e R s m args below meth c σ D cA A C H locs ls cells slots hc hs hP hS hl
  exact lv_lmul (x := Int64.ofInt a) (y := Int64.ofInt b) (rest := st.map (rd_pv σ)) C.1 C.2.1 hd (k p l e R s m args below meth c σ D cA A C H locs ls cells slots hc hs hP hS hl)
theorem rd_ldiv {a b : Int} (hd : decode (rd_cd x) pc = .ok (.ldiv, 1)) (ha : rd_J a) (hb : rd_J b) (h0 : b ≠ 0) (k : rd_G x (pc + 1) L (rd_l (a.tdiv b) :: st) M n Q) : rd_G x pc L (rd_l b :: rd_l a :: st) M n Q := by
  have k : rd_G x (pc + 1) L (.long (Int64.ofInt a / Int64.ofInt b) :: st) M n Q := rd_top (congrArg Value.long ((rd_div64 ha hb).symm)) k
  intro p l e R s m args below meth c σ D cA A C H locs ls cells slots hc hs hP hS hl
  exact lv_ldiv (x := Int64.ofInt a) (y := Int64.ofInt b) (rest := st.map (rd_pv σ)) C.1 C.2.1 hd (rd_ne0_64 hb h0) (k p l e R s m args below meth c σ D cA A C H locs ls cells slots hc hs hP hS hl)
theorem rd_lrem {a b : Int} (hd : decode (rd_cd x) pc = .ok (.lrem, 1)) (ha : rd_J a) (hb : rd_J b) (h0 : b ≠ 0) (k : rd_G x (pc + 1) L (rd_l (a.tmod b) :: st) M n Q) : rd_G x pc L (rd_l b :: rd_l a :: st) M n Q := by
  have k : rd_G x (pc + 1) L (.long (Int64.ofInt a - Int64.ofInt a / Int64.ofInt b * Int64.ofInt b) :: st) M n Q := rd_top (congrArg Value.long (by rw [rd_div64 ha hb, ← Int64.ofInt_mul, ← Int64.ofInt_sub, Int.mul_comm, ← Int.tmod_def])) k
  intro p l e R s m args below meth c σ D cA A C H locs ls cells slots hc hs hP hS hl
  exact lv_lrem (x := Int64.ofInt a) (y := Int64.ofInt b) (rest := st.map (rd_pv σ)) C.1 C.2.1 hd (rd_ne0_64 hb h0) (k p l e R s m args below meth c σ D cA A C H locs ls cells slots hc hs hP hS hl)
theorem rd_i2l {a : Int} (hd : decode (rd_cd x) pc = .ok (.i2l, 1)) (ha : rd_I a) (k : rd_G x (pc + 1) L (rd_l a :: st) M n Q) : rd_G x pc L (rd_i a :: st) M n Q := by
  intro p l e R s m args below meth c σ D cA A C H locs ls cells slots hc hs hP hS hl
  exact lv_i2l (x := Int32.ofInt a) (v := Int64.ofInt a) (rest := st.map (rd_pv σ)) C.1 C.2.1 hd (rd_ci2l ha) (k p l e R s m args below meth c σ D cA A C H locs ls cells slots hc hs hP hS hl)
theorem rd_l2i {a : Int} (hd : decode (rd_cd x) pc = .ok (.l2i, 1)) (k : rd_G x (pc + 1) L (rd_i a :: st) M n Q) : rd_G x pc L (rd_l a :: st) M n Q := by
  intro p l e R s m args below meth c σ D cA A C H locs ls cells slots hc hs hP hS hl
  exact lv_l2i (x := Int64.ofInt a) (v := Int32.ofInt a) (rest := st.map (rd_pv σ)) C.1 C.2.1 hd rd_cl2i (k p l e R s m args below meth c σ D cA A C H locs ls cells slots hc hs hP hS hl)
theorem rd_dup {v : Value} (hd : decode (rd_cd x) pc = .ok (.dup, 1)) (hv : v.category = 1) (k : rd_G x (pc + 1) L (v :: v :: st) M n Q) : rd_G x pc L (v :: st) M n Q := by
  intro p l e R s m args below meth c σ D cA A C H locs ls cells slots hc hs hP hS hl
  exact lv_dup (rest := st.map (rd_pv σ)) C.1 C.2.1 hd (by rw [rd_cat]; exact hv) (k p l e R s m args below meth c σ D cA A C H locs ls cells slots hc hs hP hS hl)
theorem rd_pop {v : Value} (hd : decode (rd_cd x) pc = .ok (.pop, 1)) (hv : v.category = 1) (k : rd_G x (pc + 1) L (st) M n Q) : rd_G x pc L (v :: st) M n Q := by
  intro p l e R s m args below meth c σ D cA A C H locs ls cells slots hc hs hP hS hl
  exact lv_pop (rest := st.map (rd_pv σ)) C.1 C.2.1 hd (by rw [rd_cat]; exact hv) (k p l e R s m args below meth c σ D cA A C H locs ls cells slots hc hs hP hS hl)
theorem rd_dup2 {v w : Value} (hd : decode (rd_cd x) pc = .ok (.dup2, 1)) (hv : v.category = 1) (hw : w.category = 1) (k : rd_G x (pc + 1) L (v :: w :: v :: w :: st) M n Q) : rd_G x pc L (v :: w :: st) M n Q := by
  intro p l e R s m args below meth c σ D cA A C H locs ls cells slots hc hs hP hS hl
  exact lv_dup2_11 (rest := st.map (rd_pv σ)) C.1 C.2.1 hd (by rw [rd_cat]; exact hv) (by rw [rd_cat]; exact hw) (k p l e R s m args below meth c σ D cA A C H locs ls cells slots hc hs hP hS hl)
theorem rd_dup2l {v : Value} (hd : decode (rd_cd x) pc = .ok (.dup2, 1)) (hv : v.category = 2) (k : rd_G x (pc + 1) L (v :: v :: st) M n Q) : rd_G x pc L (v :: st) M n Q := by
  intro p l e R s m args below meth c σ D cA A C H locs ls cells slots hc hs hP hS hl
  exact lv_dup2_2 (rest := st.map (rd_pv σ)) C.1 C.2.1 hd (by rw [rd_cat]; exact hv) (k p l e R s m args below meth c σ D cA A C H locs ls cells slots hc hs hP hS hl)
theorem rd_dupx1 {v w : Value} (hd : decode (rd_cd x) pc = .ok (.dup_x1, 1)) (hv : v.category = 1) (hw : w.category = 1) (k : rd_G x (pc + 1) L (v :: w :: v :: st) M n Q) : rd_G x pc L (v :: w :: st) M n Q := by
  intro p l e R s m args below meth c σ D cA A C H locs ls cells slots hc hs hP hS hl
  exact lv_dup_x1 (rest := st.map (rd_pv σ)) C.1 C.2.1 hd (by rw [rd_cat]; exact hv) (by rw [rd_cat]; exact hw) (k p l e R s m args below meth c σ D cA A C H locs ls cells slots hc hs hP hS hl)
theorem rd_dup2x1 {v w : Value} (hd : decode (rd_cd x) pc = .ok (.dup2_x1, 1)) (hv : v.category = 2) (hw : w.category = 1) (k : rd_G x (pc + 1) L (v :: w :: v :: st) M n Q) : rd_G x pc L (v :: w :: st) M n Q := by
  intro p l e R s m args below meth c σ D cA A C H locs ls cells slots hc hs hP hS hl
  exact lv_dup2_x1_2 (rest := st.map (rd_pv σ)) C.1 C.2.1 hd (by rw [rd_cat]; exact hv) (by rw [rd_cat]; exact hw) (k p l e R s m args below meth c σ D cA A C H locs ls cells slots hc hs hP hS hl)
theorem rd_pop2l {v : Value} (hd : decode (rd_cd x) pc = .ok (.pop2, 1)) (hv : v.category = 2) (k : rd_G x (pc + 1) L (st) M n Q) : rd_G x pc L (v :: st) M n Q := by
  intro p l e R s m args below meth c σ D cA A C H locs ls cells slots hc hs hP hS hl
  exact lv_pop2_2 (rest := st.map (rd_pv σ)) C.1 C.2.1 hd (by rw [rd_cat]; exact hv) (k p l e R s m args below meth c σ D cA A C H locs ls cells slots hc hs hP hS hl)
theorem rd_icmp_eq {a b off : Int} {tgt : Nat} (hd : decode (rd_cd x) pc = .ok (.if_icmp .eq off, 3)) (ht : (pc : Int) + off = (tgt : Int)) (ha : rd_I a) (hb : rd_I b) (kt : a = b → rd_G x tgt L st M n Q) (kf : ¬ (a = b) → rd_G x (pc + 3) L st M n Q) : rd_G x pc L (rd_i b :: rd_i a :: st) M n Q := by
  intro p l e R s m args below meth c σ D cA A C H locs ls cells slots hc hs hP hS hl
  exact lv_icmp_eq (x := Int32.ofInt a) (y := Int32.ofInt b) (rest := st.map (rd_pv σ)) C.1 C.2.1 hd ht (fun h => kt ((rd_eq32 ha hb).mp h) p l e R s m args below meth c σ D cA A C H locs ls cells slots hc hs hP hS hl) (fun h => kf (fun q => h ((rd_eq32 ha hb).mpr q)) p l e R s m args below meth c σ D cA A C H locs ls cells slots hc hs hP hS hl)
theorem rd_if_eq {a off : Int} {tgt : Nat} (hd : decode (rd_cd x) pc = .ok (.ifCond .eq off, 3)) (ht : (pc : Int) + off = (tgt : Int)) (ha : rd_I a) (kt : a = 0 → rd_G x tgt L st M n Q) (kf : ¬ (a = 0) → rd_G x (pc + 3) L st M n Q) : rd_G x pc L (rd_i a :: st) M n Q := by
  intro p l e R s m args below meth c σ D cA A C H locs ls cells slots hc hs hP hS hl
  exact lv_if_eq (x := Int32.ofInt a) (rest := st.map (rd_pv σ)) C.1 C.2.1 hd ht (fun h => kt ((rd_eq32 ha rd_I0).mp (by rw [← rd_zero32]; exact h)) p l e R s m args below meth c σ D cA A C H locs ls cells slots hc hs hP hS hl) (fun h => kf (fun q => h (by rw [rd_zero32]; exact (rd_eq32 ha rd_I0).mpr q)) p l e R s m args below meth c σ D cA A C H locs ls cells slots hc hs hP hS hl)
theorem rd_lcmp_eq {a b off : Int} {tgt : Nat} (hc0 : decode (rd_cd x) pc = .ok (.lcmp, 1)) (hd : decode (rd_cd x) (pc + 1) = .ok (.ifCond .eq off, 3)) (ht : ((pc + 1 : Nat) : Int) + off = (tgt : Int)) (ha : rd_J a) (hb : rd_J b) (kt : a = b → rd_G x tgt L st M n Q) (kf : ¬ (a = b) → rd_G x (pc + 4) L st M n Q) : rd_G x pc L (rd_l b :: rd_l a :: st) M n Q := by
  intro p l e R s m args below meth c σ D cA A C H locs ls cells slots hc hs hP hS hl
  refine W.lcmp (x := Int64.ofInt a) (y := Int64.ofInt b) (rest := st.map (rd_pv σ)) C.1 C.2.1 hc0 ?_
  exact lv_if_eq (x := lg_cmp (Int64.ofInt a) (Int64.ofInt b)) (rest := st.map (rd_pv σ)) C.1 C.2.1 hd ht (fun h => kt (((lg_cmp_eq _ _).trans (rd_eq64 ha hb)).mp h) p l e R s m args below meth c σ D cA A C H locs ls cells slots hc hs hP hS hl) (fun h => kf (fun q => h (((lg_cmp_eq _ _).trans (rd_eq64 ha hb)).mpr q)) p l e R s m args below meth c σ D cA A C H locs ls cells slots hc hs hP hS hl)
theorem rd_icmp_ne {a b off : Int} {tgt : Nat} (hd : decode (rd_cd x) pc = .ok (.if_icmp .ne off, 3)) (ht : (pc : Int) + off = (tgt : Int)) (ha : rd_I a) (hb : rd_I b) (kt : ¬ a = b → rd_G x tgt L st M n Q) (kf : a = b → rd_G x (pc + 3) L st M n Q) : rd_G x pc L (rd_i b :: rd_i a :: st) M n Q := by
  intro p l e R s m args below meth c σ D cA A C H locs ls cells slots hc hs hP hS hl
  exact lv_icmp_ne (x := Int32.ofInt a) (y := Int32.ofInt b) (rest := st.map (rd_pv σ)) C.1 C.2.1 hd ht (fun h => kt ((not_congr (rd_eq32 ha hb)).mp h) p l e R s m args below meth c σ D cA A C H locs ls cells slots hc hs hP hS hl) (fun h => kf ((rd_eq32 ha hb).mp h) p l e R s m args below meth c σ D cA A C H locs ls cells slots hc hs hP hS hl)
theorem rd_if_ne {a off : Int} {tgt : Nat} (hd : decode (rd_cd x) pc = .ok (.ifCond .ne off, 3)) (ht : (pc : Int) + off = (tgt : Int)) (ha : rd_I a) (kt : ¬ a = 0 → rd_G x tgt L st M n Q) (kf : a = 0 → rd_G x (pc + 3) L st M n Q) : rd_G x pc L (rd_i a :: st) M n Q := by
  intro p l e R s m args below meth c σ D cA A C H locs ls cells slots hc hs hP hS hl
  exact lv_if_ne (x := Int32.ofInt a) (rest := st.map (rd_pv σ)) C.1 C.2.1 hd ht (fun h => kt ((not_congr (rd_eq32 ha rd_I0)).mp (by rw [← rd_zero32]; exact h)) p l e R s m args below meth c σ D cA A C H locs ls cells slots hc hs hP hS hl) (fun h => kf ((rd_eq32 ha rd_I0).mp (by rw [← rd_zero32]; exact h)) p l e R s m args below meth c σ D cA A C H locs ls cells slots hc hs hP hS hl)
theorem rd_lcmp_ne {a b off : Int} {tgt : Nat} (hc0 : decode (rd_cd x) pc = .ok (.lcmp, 1)) (hd : decode (rd_cd x) (pc + 1) = .ok (.ifCond .ne off, 3)) (ht : ((pc + 1 : Nat) : Int) + off = (tgt : Int)) (ha : rd_J a) (hb : rd_J b) (kt : ¬ a = b → rd_G x tgt L st M n Q) (kf : a = b → rd_G x (pc + 4) L st M n Q) : rd_G x pc L (rd_l b :: rd_l a :: st) M n Q := by
  intro p l e R s m args below meth c σ D cA A C H locs ls cells slots hc hs hP hS hl
  refine W.lcmp (x := Int64.ofInt a) (y := Int64.ofInt b) (rest := st.map (rd_pv σ)) C.1 C.2.1 hc0 ?_
  exact lv_if_ne (x := lg_cmp (Int64.ofInt a) (Int64.ofInt b)) (rest := st.map (rd_pv σ)) C.1 C.2.1 hd ht (fun h => kt ((not_congr ((lg_cmp_eq _ _).trans (rd_eq64 ha hb))).mp h) p l e R s m args below meth c σ D cA A C H locs ls cells slots hc hs hP hS hl) (fun h => kf (((lg_cmp_eq _ _).trans (rd_eq64 ha hb)).mp h) p l e R s m args below meth c σ D cA A C H locs ls cells slots hc hs hP hS hl)
theorem rd_icmp_lt {a b off : Int} {tgt : Nat} (hd : decode (rd_cd x) pc = .ok (.if_icmp .lt off, 3)) (ht : (pc : Int) + off = (tgt : Int)) (ha : rd_I a) (hb : rd_I b) (kt : a < b → rd_G x tgt L st M n Q) (kf : ¬ (a < b) → rd_G x (pc + 3) L st M n Q) : rd_G x pc L (rd_i b :: rd_i a :: st) M n Q := by
  intro p l e R s m args below meth c σ D cA A C H locs ls cells slots hc hs hP hS hl
  exact lv_icmp_lt (x := Int32.ofInt a) (y := Int32.ofInt b) (rest := st.map (rd_pv σ)) C.1 C.2.1 hd ht (fun h => kt ((rd_lt32 ha hb).mp h) p l e R s m args below meth c σ D cA A C H locs ls cells slots hc hs hP hS hl) (fun h => kf (fun q => h ((rd_lt32 ha hb).mpr q)) p l e R s m args below meth c σ D cA A C H locs ls cells slots hc hs hP hS hl)
theorem rd_if_lt {a off : Int} {tgt : Nat} (hd : decode (rd_cd x) pc = .ok (.ifCond .lt off, 3)) (ht : (pc : Int) + off = (tgt : Int)) (ha : rd_I a) (kt : a < 0 → rd_G x tgt L st M n Q) (kf : ¬ (a < 0) → rd_G x (pc + 3) L st M n Q) : rd_G x pc L (rd_i a :: st) M n Q := by
  intro p l e R s m args below meth c σ D cA A C H locs ls cells slots hc hs hP hS hl
  exact lv_if_lt (x := Int32.ofInt a) (rest := st.map (rd_pv σ)) C.1 C.2.1 hd ht (fun h => kt ((rd_lt32 ha rd_I0).mp (by rw [← rd_zero32]; exact h)) p l e R s m args below meth c σ D cA A C H locs ls cells slots hc hs hP hS hl) (fun h => kf (fun q => h (by rw [rd_zero32]; exact (rd_lt32 ha rd_I0).mpr q)) p l e R s m args below meth c σ D cA A C H locs ls cells slots hc hs hP hS hl)
theorem rd_lcmp_lt {a b off : Int} {tgt : Nat} (hc0 : decode (rd_cd x) pc = .ok (.lcmp, 1)) (hd : decode (rd_cd x) (pc + 1) = .ok (.ifCond .lt off, 3)) (ht : ((pc + 1 : Nat) : Int) + off = (tgt : Int)) (ha : rd_J a) (hb : rd_J b) (kt : a < b → rd_G x tgt L st M n Q) (kf : ¬ (a < b) → rd_G x (pc + 4) L st M n Q) : rd_G x pc L (rd_l b :: rd_l a :: st) M n Q := by
  intro p l e R s m args below meth c σ D cA A C H locs ls cells slots hc hs hP hS hl
  refine W.lcmp (x := Int64.ofInt a) (y := Int64.ofInt b) (rest := st.map (rd_pv σ)) C.1 C.2.1 hc0 ?_
  exact lv_if_lt (x := lg_cmp (Int64.ofInt a) (Int64.ofInt b)) (rest := st.map (rd_pv σ)) C.1 C.2.1 hd ht (fun h => kt (((lg_cmp_lt _ _).trans (rd_lt64 ha hb)).mp h) p l e R s m args below meth c σ D cA A C H locs ls cells slots hc hs hP hS hl) (fun h => kf (fun q => h (((lg_cmp_lt _ _).trans (rd_lt64 ha hb)).mpr q)) p l e R s m args below meth c σ D cA A C H locs ls cells slots hc hs hP hS hl)
theorem rd_icmp_ge {a b off : Int} {tgt : Nat} (hd : decode (rd_cd x) pc = .ok (.if_icmp .ge off, 3)) (ht : (pc : Int) + off = (tgt : Int)) (ha : rd_I a) (hb : rd_I b) (kt : b ≤ a → rd_G x tgt L st M n Q) (kf : ¬ (b ≤ a) → rd_G x (pc + 3) L st M n Q) : rd_G x pc L (rd_i b :: rd_i a :: st) M n Q := by
  intro p l e R s m args below meth c σ D cA A C H locs ls cells slots hc hs hP hS hl
  exact lv_icmp_ge (x := Int32.ofInt a) (y := Int32.ofInt b) (rest := st.map (rd_pv σ)) C.1 C.2.1 hd ht (fun h => kt ((rd_le32 hb ha).mp h) p l e R s m args below meth c σ D cA A C H locs ls cells slots hc hs hP hS hl) (fun h => kf (fun q => h ((rd_le32 hb ha).mpr q)) p l e R s m args below meth c σ D cA A C H locs ls cells slots hc hs hP hS hl)
theorem rd_if_ge {a off : Int} {tgt : Nat} (hd : decode (rd_cd x) pc = .ok (.ifCond .ge off, 3)) (ht : (pc : Int) + off = (tgt : Int)) (ha : rd_I a) (kt : 0 ≤ a → rd_G x tgt L st M n Q) (kf : ¬ (0 ≤ a) → rd_G x (pc + 3) L st M n Q) : rd_G x pc L (rd_i a :: st) M n Q := by
  intro p l e R s m args below meth c σ D cA A C H locs ls cells slots hc hs hP hS hl
  exact lv_if_ge (x := Int32.ofInt a) (rest := st.map (rd_pv σ)) C.1 C.2.1 hd ht (fun h => kt ((rd_le32 rd_I0 ha).mp (by rw [← rd_zero32]; exact h)) p l e R s m args below meth c σ D cA A C H locs ls cells slots hc hs hP hS hl) (fun h => kf (fun q => h (by rw [rd_zero32]; exact (rd_le32 rd_I0 ha).mpr q)) p l e R s m args below meth c σ D cA A C H locs ls cells slots hc hs hP hS hl)
theorem rd_lcmp_ge {a b off : Int} {tgt : Nat} (hc0 : decode (rd_cd x) pc = .ok (.lcmp, 1)) (hd : decode (rd_cd x) (pc + 1) = .ok (.ifCond .ge off, 3)) (ht : ((pc + 1 : Nat) : Int) + off = (tgt : Int)) (ha : rd_J a) (hb : rd_J b) (kt : b ≤ a → rd_G x tgt L st M n Q) (kf : ¬ (b ≤ a) → rd_G x (pc + 4) L st M n Q) : rd_G x pc L (rd_l b :: rd_l a :: st) M n Q := by
  intro p l e R s m args below meth c σ D cA A C H locs ls cells slots hc hs hP hS hl
  refine W.lcmp (x := Int64.ofInt a) (y := Int64.ofInt b) (rest := st.map (rd_pv σ)) C.1 C.2.1 hc0 ?_
  exact lv_if_ge (x := lg_cmp (Int64.ofInt a) (Int64.ofInt b)) (rest := st.map (rd_pv σ)) C.1 C.2.1 hd ht (fun h => kt (((lg_cmp_ge _ _).trans (rd_le64 hb ha)).mp h) p l e R s m args below meth c σ D cA A C H locs ls cells slots hc hs hP hS hl) (fun h => kf (fun q => h (((lg_cmp_ge _ _).trans (rd_le64 hb ha)).mpr q)) p l e R s m args below meth c σ D cA A C H locs ls cells slots hc hs hP hS hl)
theorem rd_icmp_gt {a b off : Int} {tgt : Nat} (hd : decode (rd_cd x) pc = .ok (.if_icmp .gt off, 3)) (ht : (pc : Int) + off = (tgt : Int)) (ha : rd_I a) (hb : rd_I b) (kt : b < a → rd_G x tgt L st M n Q) (kf : ¬ (b < a) → rd_G x (pc + 3) L st M n Q) : rd_G x pc L (rd_i b :: rd_i a :: st) M n Q := by
  intro p l e R s m args below meth c σ D cA A C H locs ls cells slots hc hs hP hS hl
  exact lv_icmp_gt (x := Int32.ofInt a) (y := Int32.ofInt b) (rest := st.map (rd_pv σ)) C.1 C.2.1 hd ht (fun h => kt ((rd_lt32 hb ha).mp h) p l e R s m args below meth c σ D cA A C H locs ls cells slots hc hs hP hS hl) (fun h => kf (fun q => h ((rd_lt32 hb ha).mpr q)) p l e R s m args below meth c σ D cA A C H locs ls cells slots hc hs hP hS hl)
theorem rd_if_gt {a off : Int} {tgt : Nat} (hd : decode (rd_cd x) pc = .ok (.ifCond .gt off, 3)) (ht : (pc : Int) + off = (tgt : Int)) (ha : rd_I a) (kt : 0 < a → rd_G x tgt L st M n Q) (kf : ¬ (0 < a) → rd_G x (pc + 3) L st M n Q) : rd_G x pc L (rd_i a :: st) M n Q := by
  intro p l e R s m args below meth c σ D cA A C H locs ls cells slots hc hs hP hS hl
  exact lv_if_gt (x := Int32.ofInt a) (rest := st.map (rd_pv σ)) C.1 C.2.1 hd ht (fun h => kt ((rd_lt32 rd_I0 ha).mp (by rw [← rd_zero32]; exact h)) p l e R s m args below meth c σ D cA A C H locs ls cells slots hc hs hP hS hl) (fun h => kf (fun q => h (by rw [rd_zero32]; exact (rd_lt32 rd_I0 ha).mpr q)) p l e R s m args below meth c σ D cA A C H locs ls cells slots hc hs hP hS hl)
theorem rd_lcmp_gt {a b off : Int} {tgt : Nat} (hc0 : decode (rd_cd x) pc = .ok (.lcmp, 1)) (hd : decode (rd_cd x) (pc + 1) = .ok (.ifCond .gt off, 3)) (ht : ((pc + 1 : Nat) : Int) + off = (tgt : Int)) (ha : rd_J a) (hb : rd_J b) (kt : b < a → rd_G x tgt L st M n Q) (kf : ¬ (b < a) → rd_G x (pc + 4) L st M n Q) : rd_G x pc L (rd_l b :: rd_l a :: st) M n Q := by
  intro p l e R s m args below meth c σ D cA A C H locs ls cells slots hc hs hP hS hl
  refine W.lcmp (x := Int64.ofInt a) (y := Int64.ofInt b) (rest := st.map (rd_pv σ)) C.1 C.2.1 hc0 ?_
  exact lv_if_gt (x := lg_cmp (Int64.ofInt a) (Int64.ofInt b)) (rest := st.map (rd_pv σ)) C.1 C.2.1 hd ht (fun h => kt (((lg_cmp_gt _ _).trans (rd_lt64 hb ha)).mp h) p l e R s m args below meth c σ D cA A C H locs ls cells slots hc hs hP hS hl) (fun h => kf (fun q => h (((lg_cmp_gt _ _).trans (rd_lt64 hb ha)).mpr q)) p l e R s m args below meth c σ D cA A C H locs ls cells slots hc hs hP hS hl)
theorem rd_icmp_le {a b off : Int} {tgt : Nat} (hd : decode (rd_cd x) pc = .ok (.if_icmp .le off, 3)) (ht : (pc : Int) + off = (tgt : Int)) (ha : rd_I a) (hb : rd_I b) (kt : a ≤ b → rd_G x tgt L st M n Q) (kf : ¬ (a ≤ b) → rd_G x (pc + 3) L st M n Q) : rd_G x pc L (rd_i b :: rd_i a :: st) M n Q := by
  intro p l e R s m args below meth c σ D cA A C H locs ls cells slots hc hs hP hS hl
  exact lv_icmp_le (x := Int32.ofInt a) (y := Int32.ofInt b) (rest := st.map (rd_pv σ)) C.1 C.2.1 hd ht (fun h => kt ((rd_le32 ha hb).mp h) p l e R s m args below meth c σ D cA A C H locs ls cells slots hc hs hP hS hl) (fun h => kf (fun q => h ((rd_le32 ha hb).mpr q)) p l e R s m args below meth c σ D cA A C H locs ls cells slots hc hs hP hS hl)
theorem rd_if_le {a off : Int} {tgt : Nat} (hd : decode (rd_cd x) pc = .ok (.ifCond .le off, 3)) (ht : (pc : Int) + off = (tgt : Int)) (ha : rd_I a) (kt : a ≤ 0 → rd_G x tgt L st M n Q) (kf : ¬ (a ≤ 0) → rd_G x (pc + 3) L st M n Q) : rd_G x pc L (rd_i a :: st) M n Q := by
  intro p l e R s m args below meth c σ D cA A C H locs ls cells slots hc hs hP hS hl
  exact lv_if_le (x := Int32.ofInt a) (rest := st.map (rd_pv σ)) C.1 C.2.1 hd ht (fun h => kt ((rd_le32 ha rd_I0).mp (by rw [← rd_zero32]; exact h)) p l e R s m args below meth c σ D cA A C H locs ls cells slots hc hs hP hS hl) (fun h => kf (fun q => h (by rw [rd_zero32]; exact (rd_le32 ha rd_I0).mpr q)) p l e R s m args below meth c σ D cA A C H locs ls cells slots hc hs hP hS hl)
theorem rd_lcmp_le {a b off : Int} {tgt : Nat} (hc0 : decode (rd_cd x) pc = .ok (.lcmp, 1)) (hd : decode (rd_cd x) (pc + 1) = .ok (.ifCond .le off, 3)) (ht : ((pc + 1 : Nat) : Int) + off = (tgt : Int)) (ha : rd_J a) (hb : rd_J b) (kt : a ≤ b → rd_G x tgt L st M n Q) (kf : ¬ (a ≤ b) → rd_G x (pc + 4) L st M n Q) : rd_G x pc L (rd_l b :: rd_l a :: st) M n Q := by
  intro p l e R s m args below meth c σ D cA A C H locs ls cells slots hc hs hP hS hl
  refine W.lcmp (x := Int64.ofInt a) (y := Int64.ofInt b) (rest := st.map (rd_pv σ)) C.1 C.2.1 hc0 ?_
  exact lv_if_le (x := lg_cmp (Int64.ofInt a) (Int64.ofInt b)) (rest := st.map (rd_pv σ)) C.1 C.2.1 hd ht (fun h => kt (((lg_cmp_le _ _).trans (rd_le64 ha hb)).mp h) p l e R s m args below meth c σ D cA A C H locs ls cells slots hc hs hP hS hl) (fun h => kf (fun q => h (((lg_cmp_le _ _).trans (rd_le64 ha hb)).mpr q)) p l e R s m args below meth c σ D cA A C H locs ls cells slots hc hs hP hS hl)
theorem rd_goto {off : Int} {tgt : Nat} (hd : decode (rd_cd x) pc = .ok (.goto off, 3)) (ht : (pc : Int) + off = (tgt : Int)) (k : rd_G x tgt L st M n Q) : rd_G x pc L st M n Q := by
  intro p l e R s m args below meth c σ D cA A C H locs ls cells slots hc hs hP hS hl
  exact lv_goto (rest := st.map (rd_pv σ)) C.1 C.2.1 hd ht (k p l e R s m args below meth c σ D cA A C H locs ls cells slots hc hs hP hS hl)
theorem rd_tsw {a dflt lo hi off : Int} {offs : Array Int} {len tgt : Nat} (hd : decode (rd_cd x) pc = .ok (.tableswitch dflt lo hi offs, len)) (ha : rd_I a) (h1 : ¬ a < lo) (h2 : ¬ hi < a) (ho : offs[(a - lo).toNat]? = some off) (ht : (pc : Int) + off = (tgt : Int)) (k : rd_G x tgt L st M n Q) : rd_G x pc L (rd_i a :: st) M n Q := by
  intro p l e R s m args below meth c σ D cA A C H locs ls cells slots hc hs hP hS hl
  exact lv_tableIn (x := Int32.ofInt a) (rest := st.map (rd_pv σ)) C.1 C.2.1 hd (by rw [rd_i32 ha]; exact h1) (by rw [rd_i32 ha]; exact h2) (by rw [rd_i32 ha]; exact ho) ht (k p l e R s m args below meth c σ D cA A C H locs ls cells slots hc hs hP hS hl)
theorem rd_tswd {a dflt lo hi : Int} {offs : Array Int} {len tgt : Nat} (hd : decode (rd_cd x) pc = .ok (.tableswitch dflt lo hi offs, len)) (ha : rd_I a) (h : a < lo ∨ hi < a) (ht : (pc : Int) + dflt = (tgt : Int)) (k : rd_G x tgt L st M n Q) : rd_G x pc L (rd_i a :: st) M n Q := by
  intro p l e R s m args below meth c σ D cA A C H locs ls cells slots hc hs hP hS hl
  exact lv_tableOut (x := Int32.ofInt a) (rest := st.map (rd_pv σ)) C.1 C.2.1 hd (by rw [rd_i32 ha]; exact h) ht (k p l e R s m args below meth c σ D cA A C H locs ls cells slots hc hs hP hS hl)
theorem rd_lsw {a dflt off : Int} {ps : Array (Int × Int)} {len tgt : Nat} (hd : decode (rd_cd x) pc = .ok (.lookupswitch dflt ps, len)) (ha : rd_I a) (hp : (ps.toList.zip (ps.toList.drop 1)).all (fun (a, next) => a.1 < next.1) = true) (ho : Op.lookupswitch.offset ps.toList dflt a = off) (ht : (pc : Int) + off = (tgt : Int)) (k : rd_G x tgt L st M n Q) : rd_G x pc L (rd_i a :: st) M n Q := by
  intro p l e R s m args below meth c σ D cA A C H locs ls cells slots hc hs hP hS hl
  exact lv_lookup (x := Int32.ofInt a) (rest := st.map (rd_pv σ)) C.1 C.2.1 hd hp (by rw [rd_i32 ha]; exact ho) ht (k p l e R s m args below meth c σ D cA A C H locs ls cells slots hc hs hP hS hl)
theorem rd_iald {q len : Nat} {i : Int} (hd : decode (rd_cd x) pc = .ok (.iaload, 1)) (hq : rd_SH[q]? = some (.inl (0, len))) (h0 : 0 ≤ i) (h1 : i < len) (k : rd_G x (pc + 1) L (rd_i (M q i) :: st) M n Q) : rd_G x pc L (rd_i i :: .ref q :: st) M n Q := by
  intro p l e R s m args below meth c σ D cA A C H locs ls cells slots hc hs hP hS hl
  have hlen := rd_len hq
  have hw := rd_wd_at (σ := σ) (cA := cA) (M := M) hq
  have ek : ((Int32.ofInt i).toNatClampNeg : Int) = i := by rw [rd_clamp h0 (by omega)]; omega
  refine va_iald (a := σ q) (i := Int32.ofInt i) (rest := st.map (rd_pv σ)) C.1 C.2.1 C.2.2.2.2.2.1 hP q 0 hw rfl (rd_in h0 h1 hlen) hd ?_
  show W p l e R s m args below meth c H locs cells slots _ (F0 m (pc + 1) ls (.int (Int32.ofInt (M q ((Int32.ofInt i).toNatClampNeg : Int))) :: st.map (rd_pv σ)))
  rw [ek]
  exact k p l e R s m args below meth c σ D cA A C H locs ls cells slots hc hs hP hS hl
theorem rd_zald {q len : Nat} {i : Int} (hd : decode (rd_cd x) pc = .ok (.baload, 1)) (hq : rd_SH[q]? = some (.inl (2, len))) (h0 : 0 ≤ i) (h1 : i < len) (k : rd_G x (pc + 1) L (rd_i (M q i) :: st) M n Q) : rd_G x pc L (rd_i i :: .ref q :: st) M n Q := by
  intro p l e R s m args below meth c σ D cA A C H locs ls cells slots hc hs hP hS hl
  have hlen := rd_len hq
  have hw := rd_wd_at (σ := σ) (cA := cA) (M := M) hq
  have ek : ((Int32.ofInt i).toNatClampNeg : Int) = i := by rw [rd_clamp h0 (by omega)]; omega
  refine va_zald (a := σ q) (i := Int32.ofInt i) (rest := st.map (rd_pv σ)) C.1 C.2.1 C.2.2.2.2.2.1 hP q 2 hw rfl (rd_in h0 h1 hlen) hd ?_
  show W p l e R s m args below meth c H locs cells slots _ (F0 m (pc + 1) ls (.int (Int32.ofInt (M q ((Int32.ofInt i).toNatClampNeg : Int))) :: st.map (rd_pv σ)))
  rw [ek]
  exact k p l e R s m args below meth c σ D cA A C H locs ls cells slots hc hs hP hS hl
theorem rd_lald {q len : Nat} {i : Int} (hd : decode (rd_cd x) pc = .ok (.laload, 1)) (hq : rd_SH[q]? = some (.inl (1, len))) (h0 : 0 ≤ i) (h1 : i < len) (k : rd_G x (pc + 1) L (rd_l (M q i) :: st) M n Q) : rd_G x pc L (rd_i i :: .ref q :: st) M n Q := by
  intro p l e R s m args below meth c σ D cA A C H locs ls cells slots hc hs hP hS hl
  have hlen := rd_len hq
  have hw := rd_wd_at (σ := σ) (cA := cA) (M := M) hq
  have ek : ((Int32.ofInt i).toNatClampNeg : Int) = i := by rw [rd_clamp h0 (by omega)]; omega
  refine va_lald (a := σ q) (i := Int32.ofInt i) (rest := st.map (rd_pv σ)) C.1 C.2.1 C.2.2.2.2.2.1 hP q 1 hw rfl (rd_in h0 h1 hlen) hd ?_
  show W p l e R s m args below meth c H locs cells slots _ (F0 m (pc + 1) ls (.long (Int64.ofInt (M q ((Int32.ofInt i).toNatClampNeg : Int))) :: st.map (rd_pv σ)))
  rw [ek]
  exact k p l e R s m args below meth c σ D cA A C H locs ls cells slots hc hs hP hS hl
theorem rd_iast {q len : Nat} {i v : Int} (hd : decode (rd_cd x) pc = .ok (.iastore, 1)) (hq : rd_SH[q]? = some (.inl (0, len))) (h0 : 0 ≤ i) (h1 : i < len) (k : rd_G x (pc + 1) L st (rd_up M q i v) n Q) : rd_G x pc L (rd_i v :: rd_i i :: .ref q :: st) M n Q := by
  intro p l e R s m args below meth c σ D cA A C H locs ls cells slots hc hs hP hS hl
  have hlen := rd_len hq
  have hw := rd_wd_at (σ := σ) (cA := cA) (M := M) hq
  have ek : ((Int32.ofInt i).toNatClampNeg : Int) = i := by rw [rd_clamp h0 (by omega)]; omega
  refine va_iast (a := σ q) (i := Int32.ofInt i) (x := Int32.ofInt v) (rest := st.map (rd_pv σ)) C.1 C.2.1 C.2.2.2.2.2.1 hP (rd_D C.2.2.2.2.2.2.1 C.2.2.2.2.2.2.2.1) hS q 0 hw rfl (rd_in h0 h1 hlen) hd (fun H1 locs1 hP1 hD1 hS1 => ?_)
  refine k p l e R s m args below meth c σ D cA A C H1 locs1 ls cells slots hc hs ?_ hS1 hl
  rw [← rd_wd_set (i := i) (v := v) hq rfl]
  refine (congrArg (fun z => va_P D rd_CL ((rd_wd σ cA M).set q (σ q, z)) H1) ?_).mpr hP1
  have ef : (fun j : Nat => Int32.ofInt (rd_up M q i v q (j : Int))) = upd (fun j : Nat => Int32.ofInt (M q (j : Int))) (Int32.ofInt i).toNatClampNeg (Int32.ofInt v) := by
    funext j
    simp only [rd_up_same, upd]
    by_cases hj : (j : Int) = i
    · have hj' : j = (Int32.ofInt i).toNatClampNeg := by omega
      rw [if_pos hj, if_pos hj']
    · have hj' : ¬ j = (Int32.ofInt i).toNatClampNeg := by omega
      rw [if_neg hj, if_neg hj']
  exact congrArg (fun f => (Sum.inl (cA 0, len, Sum.inl f) : va_E)) ef
theorem rd_zast {q len : Nat} {i v : Int} (hd : decode (rd_cd x) pc = .ok (.bastore, 1)) (hq : rd_SH[q]? = some (.inl (2, len))) (h0 : 0 ≤ i) (h1 : i < len) (hv : v = 0 ∨ v = 1) (k : rd_G x (pc + 1) L st (rd_up M q i v) n Q) : rd_G x pc L (rd_i v :: rd_i i :: .ref q :: st) M n Q := by
  intro p l e R s m args below meth c σ D cA A C H locs ls cells slots hc hs hP hS hl
  have hlen := rd_len hq
  have hw := rd_wd_at (σ := σ) (cA := cA) (M := M) hq
  have ek : ((Int32.ofInt i).toNatClampNeg : Int) = i := by rw [rd_clamp h0 (by omega)]; omega
  refine va_zast (a := σ q) (i := Int32.ofInt i) (x := Int32.ofInt v) (rest := st.map (rd_pv σ)) C.1 C.2.1 C.2.2.2.2.2.1 hP (rd_D C.2.2.2.2.2.2.1 C.2.2.2.2.2.2.2.1) hS q 2 hw rfl (rd_in h0 h1 hlen) hd (fun H1 locs1 hP1 hD1 hS1 => ?_)
  refine k p l e R s m args below meth c σ D cA A C H1 locs1 ls cells slots hc hs ?_ hS1 hl
  rw [← rd_wd_set (i := i) (v := v) hq rfl]
  refine (congrArg (fun z => va_P D rd_CL ((rd_wd σ cA M).set q (σ q, z)) H1) ?_).mpr hP1
  have ef : (fun j : Nat => Int32.ofInt (rd_up M q i v q (j : Int))) = upd (fun j : Nat => Int32.ofInt (M q (j : Int))) (Int32.ofInt i).toNatClampNeg (vp_nar .boolean (Int32.ofInt v)) := by
    funext j
    simp only [rd_up_same, upd]
    by_cases hj : (j : Int) = i
    · have hj' : j = (Int32.ofInt i).toNatClampNeg := by omega
      rw [if_pos hj, if_pos hj']; rcases hv with rfl | rfl <;> rfl
    · have hj' : ¬ j = (Int32.ofInt i).toNatClampNeg := by omega
      rw [if_neg hj, if_neg hj']
  exact congrArg (fun f => (Sum.inl (cA 2, len, Sum.inl f) : va_E)) ef
theorem rd_last {q len : Nat} {i v : Int} (hd : decode (rd_cd x) pc = .ok (.lastore, 1)) (hq : rd_SH[q]? = some (.inl (1, len))) (h0 : 0 ≤ i) (h1 : i < len) (k : rd_G x (pc + 1) L st (rd_up M q i v) n Q) : rd_G x pc L (rd_l v :: rd_i i :: .ref q :: st) M n Q := by
  intro p l e R s m args below meth c σ D cA A C H locs ls cells slots hc hs hP hS hl
  have hlen := rd_len hq
  have hw := rd_wd_at (σ := σ) (cA := cA) (M := M) hq
  have ek : ((Int32.ofInt i).toNatClampNeg : Int) = i := by rw [rd_clamp h0 (by omega)]; omega
  refine va_last (a := σ q) (i := Int32.ofInt i) (x := Int64.ofInt v) (rest := st.map (rd_pv σ)) C.1 C.2.1 C.2.2.2.2.2.1 hP (rd_D C.2.2.2.2.2.2.1 C.2.2.2.2.2.2.2.1) hS q 1 hw rfl (rd_in h0 h1 hlen) hd (fun H1 locs1 hP1 hD1 hS1 => ?_)
  refine k p l e R s m args below meth c σ D cA A C H1 locs1 ls cells slots hc hs ?_ hS1 hl
  rw [← rd_wd_set (i := i) (v := v) hq rfl]
  refine (congrArg (fun z => va_P D rd_CL ((rd_wd σ cA M).set q (σ q, z)) H1) ?_).mpr hP1
  have ef : (fun j : Nat => Int64.ofInt (rd_up M q i v q (j : Int))) = vp_updL (fun j : Nat => Int64.ofInt (M q (j : Int))) (Int32.ofInt i).toNatClampNeg (Int64.ofInt v) := by
    funext j
    simp only [rd_up_same, vp_updL]
    by_cases hj : (j : Int) = i
    · have hj' : j = (Int32.ofInt i).toNatClampNeg := by omega
      rw [if_pos hj, if_pos hj']
    · have hj' : ¬ j = (Int32.ofInt i).toNatClampNeg := by omega
      rw [if_neg hj, if_neg hj']
  exact congrArg (fun f => (Sum.inl (cA 1, len, Sum.inr (Sum.inl f)) : va_E)) ef
theorem rd_alen {q len ety : Nat} (hd : decode (rd_cd x) pc = .ok (.arraylength, 1)) (hq : rd_SH[q]? = some (.inl (ety, len))) (he : ety < 3) (k : rd_G x (pc + 1) L (rd_i len :: st) M n Q) : rd_G x pc L (.ref q :: st) M n Q := by
  intro p l e R s m args below meth c σ D cA A C H locs ls cells slots hc hs hP hS hl
  have hw := rd_wd_at (σ := σ) (cA := cA) (M := M) hq
  have k := k p l e R s m args below meth c σ D cA A C H locs ls cells slots hc hs hP hS hl
  rcases (show ety = 0 ∨ ety = 1 ∨ ety = 2 by omega) with rfl | rfl | rfl
  · exact va_alen (a := σ q) (v := Int32.ofInt len) (rest := st.map (rd_pv σ)) C.1 C.2.1 C.2.2.2.2.2.1 hP q 0 hw rfl Int32.ofInt_eq_ofNat.symm hd k
  · exact va_alen (a := σ q) (v := Int32.ofInt len) (rest := st.map (rd_pv σ)) C.1 C.2.1 C.2.2.2.2.2.1 hP q 1 hw rfl Int32.ofInt_eq_ofNat.symm hd k
  · exact va_alen (a := σ q) (v := Int32.ofInt len) (rest := st.map (rd_pv σ)) C.1 C.2.1 C.2.2.2.2.2.1 hP q 2 hw rfl Int32.ofInt_eq_ofNat.symm hd k
theorem rd_sld {Ls : Nat} {xs : Int → Int} {i : Int} (hd : decode (rd_cd x) pc = .ok (.iaload, 1)) (hx : rd_sc x = some (Ls, xs)) (h0 : 0 ≤ i) (h1 : i < Ls) (k : rd_G x (pc + 1) L (rd_i (xs i) :: st) M n Q) : rd_G x pc L (rd_i i :: .ref 999 :: st) M n Q := by
  intro p l e R s m args below meth c σ D cA A C H locs ls cells slots hc hs hP hS hl
  obtain ⟨g1, g2, g3, g4⟩ := C.2.2.2.2.2.2.2.2.2.2.2.2.2.2 Ls xs hx
  have ek : ((Int32.ofInt i).toNatClampNeg : Int) = i := by rw [rd_clamp h0 (by omega)]; omega
  refine va_sld (i := Int32.ofInt i) (rest := st.map (rd_pv σ)) C.1 C.2.1 g1 g2 g3 hS (rd_in h0 h1 g4) hd ?_
  show W p l e R s m args below meth c H locs cells slots _ (F0 m (pc + 1) ls (.int (Int32.ofInt (xs ((Int32.ofInt i).toNatClampNeg : Int))) :: st.map (rd_pv σ)))
  rw [ek]
  exact k p l e R s m args below meth c σ D cA A C H locs ls cells slots hc hs hP hS hl
theorem rd_slen {Ls : Nat} {xs : Int → Int} (hd : decode (rd_cd x) pc = .ok (.arraylength, 1)) (hx : rd_sc x = some (Ls, xs)) (k : rd_G x (pc + 1) L (rd_i Ls :: st) M n Q) : rd_G x pc L (.ref 999 :: st) M n Q := by
  intro p l e R s m args below meth c σ D cA A C H locs ls cells slots hc hs hP hS hl
  obtain ⟨g1, g2, g3, g4⟩ := C.2.2.2.2.2.2.2.2.2.2.2.2.2.2 Ls xs hx
  refine va_slen (rest := st.map (rd_pv σ)) C.1 C.2.1 g1 g2 g3 hS hd ?_
  rw [← Int32.ofInt_eq_ofNat]
  exact k p l e R s m args below meth c σ D cA A C H locs ls cells slots hc hs hP hS hl
end RdRules
end
