-- ===== PART A: goes FIRST, ahead of the names: the tables' words, and 'selects' of the private methods out of them =====
/-- a private method of a class that the tables say can be made, by its rows of tables_1 -/
def lw_okq (q : MethodName × Nat) : Prop := (q.1.cls ≠ "java/lang/invoke/MethodHandle" ∧ q.1.cls ≠ "java/lang/invoke/VarHandle") ∧ Cond.instantiable q.1.cls q.2 ∈ tables_1 ∧ Cond.privateMethod q.1 ∈ tables_1 ∧ Cond.instanceMethod q.1 ∈ tables_1
theorem lw_p0 : lw_okq (⟨"InterfaceRules$TypeTable", "settleAncestors", "(I)V"⟩, 12) := ⟨⟨by decide +kernel, by decide +kernel⟩, List.mem_of_getElem? (i := 18) (by decide +kernel), List.mem_of_getElem? (i := 250) (by decide +kernel), List.mem_of_getElem? (i := 251) (by decide +kernel)⟩
theorem lw_p1 : lw_okq (⟨"InterfaceRules", "isCall", "(III)Z"⟩, 5) := ⟨⟨by decide +kernel, by decide +kernel⟩, List.mem_of_getElem? (i := 10) (by decide +kernel), List.mem_of_getElem? (i := 335) (by decide +kernel), List.mem_of_getElem? (i := 336) (by decide +kernel)⟩
theorem lw_p2 : lw_okq (⟨"InterfaceRules$Holdings", "settle", "(II)V"⟩, 7) := ⟨⟨by decide +kernel, by decide +kernel⟩, List.mem_of_getElem? (i := 133) (by decide +kernel), List.mem_of_getElem? (i := 362) (by decide +kernel), List.mem_of_getElem? (i := 363) (by decide +kernel)⟩
theorem lw_p3 : lw_okq (⟨"InterfaceRules$Holdings", "hold", "(III)V"⟩, 7) := ⟨⟨by decide +kernel, by decide +kernel⟩, List.mem_of_getElem? (i := 133) (by decide +kernel), List.mem_of_getElem? (i := 367) (by decide +kernel), List.mem_of_getElem? (i := 368) (by decide +kernel)⟩
theorem lw_p4 : lw_okq (⟨"InterfaceRules$Holdings", "isHandedOn", "(I)Z"⟩, 7) := ⟨⟨by decide +kernel, by decide +kernel⟩, List.mem_of_getElem? (i := 133) (by decide +kernel), List.mem_of_getElem? (i := 385) (by decide +kernel), List.mem_of_getElem? (i := 386) (by decide +kernel)⟩
theorem lw_p5 : lw_okq (⟨"InterfaceRules$Holdings", "isClassBodyGiven", "()Z"⟩, 7) := ⟨⟨by decide +kernel, by decide +kernel⟩, List.mem_of_getElem? (i := 133) (by decide +kernel), List.mem_of_getElem? (i := 389) (by decide +kernel), List.mem_of_getElem? (i := 390) (by decide +kernel)⟩
theorem lw_p6 : lw_okq (⟨"InterfaceRules$Holdings", "ancestorsOfGiven", "()I"⟩, 7) := ⟨⟨by decide +kernel, by decide +kernel⟩, List.mem_of_getElem? (i := 133) (by decide +kernel), List.mem_of_getElem? (i := 393) (by decide +kernel), List.mem_of_getElem? (i := 394) (by decide +kernel)⟩
theorem lw_p7 : lw_okq (⟨"InterfaceRules$FaultList", "addOwn", "(III)V"⟩, 6) := ⟨⟨by decide +kernel, by decide +kernel⟩, List.mem_of_getElem? (i := 163) (by decide +kernel), List.mem_of_getElem? (i := 421) (by decide +kernel), List.mem_of_getElem? (i := 422) (by decide +kernel)⟩
theorem lw_p8 : lw_okq (⟨"InterfaceRules$FaultList", "addIfAny", "(II)V"⟩, 6) := ⟨⟨by decide +kernel, by decide +kernel⟩, List.mem_of_getElem? (i := 163) (by decide +kernel), List.mem_of_getElem? (i := 428) (by decide +kernel), List.mem_of_getElem? (i := 429) (by decide +kernel)⟩
theorem lw_p9 : lw_okq (⟨"InterfaceRules$FaultList", "faultAgainst", "(II)I"⟩, 6) := ⟨⟨by decide +kernel, by decide +kernel⟩, List.mem_of_getElem? (i := 163) (by decide +kernel), List.mem_of_getElem? (i := 433) (by decide +kernel), List.mem_of_getElem? (i := 434) (by decide +kernel)⟩
theorem lw_p10 : lw_okq (⟨"InterfaceRules$FaultList", "addInherited", "(II)V"⟩, 6) := ⟨⟨by decide +kernel, by decide +kernel⟩, List.mem_of_getElem? (i := 163) (by decide +kernel), List.mem_of_getElem? (i := 441) (by decide +kernel), List.mem_of_getElem? (i := 442) (by decide +kernel)⟩
theorem lw_p11 : lw_okq (⟨"InterfaceRules$Holdings", "servesAll", "(III)Z"⟩, 7) := ⟨⟨by decide +kernel, by decide +kernel⟩, List.mem_of_getElem? (i := 133) (by decide +kernel), List.mem_of_getElem? (i := 450) (by decide +kernel), List.mem_of_getElem? (i := 451) (by decide +kernel)⟩
theorem lw_p12 : lw_okq (⟨"InterfaceRules$FaultList", "faultOfCall", "(II)I"⟩, 6) := ⟨⟨by decide +kernel, by decide +kernel⟩, List.mem_of_getElem? (i := 163) (by decide +kernel), List.mem_of_getElem? (i := 456) (by decide +kernel), List.mem_of_getElem? (i := 457) (by decide +kernel)⟩
theorem lw_p13 : lw_okq (⟨"InterfaceRules$FaultList", "isSuperRunning", "(II)Z"⟩, 6) := ⟨⟨by decide +kernel, by decide +kernel⟩, List.mem_of_getElem? (i := 163) (by decide +kernel), List.mem_of_getElem? (i := 460) (by decide +kernel), List.mem_of_getElem? (i := 461) (by decide +kernel)⟩
theorem lw_p14 : lw_okq (⟨"InterfaceRules$FaultList", "faultOfFaceCall", "(III)I"⟩, 6) := ⟨⟨by decide +kernel, by decide +kernel⟩, List.mem_of_getElem? (i := 163) (by decide +kernel), List.mem_of_getElem? (i := 465) (by decide +kernel), List.mem_of_getElem? (i := 466) (by decide +kernel)⟩
theorem lw_p15 : lw_okq (⟨"InterfaceRules$FaultList", "addSealed", "(I)V"⟩, 6) := ⟨⟨by decide +kernel, by decide +kernel⟩, List.mem_of_getElem? (i := 163) (by decide +kernel), List.mem_of_getElem? (i := 478) (by decide +kernel), List.mem_of_getElem? (i := 479) (by decide +kernel)⟩
def lw_privs_1 : List (MethodName × Nat) := [(⟨"InterfaceRules$TypeTable", "settleAncestors", "(I)V"⟩, 12), (⟨"InterfaceRules", "isCall", "(III)Z"⟩, 5), (⟨"InterfaceRules$Holdings", "settle", "(II)V"⟩, 7), (⟨"InterfaceRules$Holdings", "hold", "(III)V"⟩, 7), (⟨"InterfaceRules$Holdings", "isHandedOn", "(I)Z"⟩, 7), (⟨"InterfaceRules$Holdings", "isClassBodyGiven", "()Z"⟩, 7), (⟨"InterfaceRules$Holdings", "ancestorsOfGiven", "()I"⟩, 7), (⟨"InterfaceRules$FaultList", "addOwn", "(III)V"⟩, 6), (⟨"InterfaceRules$FaultList", "addIfAny", "(II)V"⟩, 6), (⟨"InterfaceRules$FaultList", "faultAgainst", "(II)I"⟩, 6), (⟨"InterfaceRules$FaultList", "addInherited", "(II)V"⟩, 6), (⟨"InterfaceRules$Holdings", "servesAll", "(III)Z"⟩, 7), (⟨"InterfaceRules$FaultList", "faultOfCall", "(II)I"⟩, 6), (⟨"InterfaceRules$FaultList", "isSuperRunning", "(II)Z"⟩, 6), (⟨"InterfaceRules$FaultList", "faultOfFaceCall", "(III)I"⟩, 6), (⟨"InterfaceRules$FaultList", "addSealed", "(I)V"⟩, 6)]
theorem lw_r1 : ∀ q ∈ lw_privs_1, lw_okq q := List.forall_mem_cons.mpr ⟨lw_p0, List.forall_mem_cons.mpr ⟨lw_p1, List.forall_mem_cons.mpr ⟨lw_p2, List.forall_mem_cons.mpr ⟨lw_p3, List.forall_mem_cons.mpr ⟨lw_p4, List.forall_mem_cons.mpr ⟨lw_p5, List.forall_mem_cons.mpr ⟨lw_p6, List.forall_mem_cons.mpr ⟨lw_p7, List.forall_mem_cons.mpr ⟨lw_p8, List.forall_mem_cons.mpr ⟨lw_p9, List.forall_mem_cons.mpr ⟨lw_p10, List.forall_mem_cons.mpr ⟨lw_p11, List.forall_mem_cons.mpr ⟨lw_p12, List.forall_mem_cons.mpr ⟨lw_p13, List.forall_mem_cons.mpr ⟨lw_p14, List.forall_mem_cons.mpr ⟨lw_p15, fun _ h => absurd h List.not_mem_nil⟩⟩⟩⟩⟩⟩⟩⟩⟩⟩⟩⟩⟩⟩⟩⟩
theorem lw_p16 : lw_okq (⟨"InterfaceRules$TypeTable", "seenByParents", "(I)I"⟩, 12) := ⟨⟨by decide +kernel, by decide +kernel⟩, List.mem_of_getElem? (i := 18) (by decide +kernel), List.mem_of_getElem? (i := 509) (by decide +kernel), List.mem_of_getElem? (i := 510) (by decide +kernel)⟩
theorem lw_p17 : lw_okq (⟨"InterfaceRules$Caller", "following", "(II)I"⟩, 7) := ⟨⟨by decide +kernel, by decide +kernel⟩, List.mem_of_getElem? (i := 190) (by decide +kernel), List.mem_of_getElem? (i := 538) (by decide +kernel), List.mem_of_getElem? (i := 539) (by decide +kernel)⟩
theorem lw_p18 : lw_okq (⟨"InterfaceRules$Caller", "runnerFromInside", "(III)I"⟩, 7) := ⟨⟨by decide +kernel, by decide +kernel⟩, List.mem_of_getElem? (i := 190) (by decide +kernel), List.mem_of_getElem? (i := 543) (by decide +kernel), List.mem_of_getElem? (i := 544) (by decide +kernel)⟩
theorem lw_p19 : lw_okq (⟨"InterfaceRules", "countFaultless", "()I"⟩, 5) := ⟨⟨by decide +kernel, by decide +kernel⟩, List.mem_of_getElem? (i := 10) (by decide +kernel), List.mem_of_getElem? (i := 557) (by decide +kernel), List.mem_of_getElem? (i := 558) (by decide +kernel)⟩
theorem lw_p20 : lw_okq (⟨"InterfaceRulesModel", "addType", "(I)V"⟩, 34) := ⟨⟨by decide +kernel, by decide +kernel⟩, List.mem_of_getElem? (i := 561) (by decide +kernel), List.mem_of_getElem? (i := 567) (by decide +kernel), List.mem_of_getElem? (i := 568) (by decide +kernel)⟩
theorem lw_p21 : lw_okq (⟨"InterfaceRulesModel", "addMember", "(IIII)V"⟩, 34) := ⟨⟨by decide +kernel, by decide +kernel⟩, List.mem_of_getElem? (i := 561) (by decide +kernel), List.mem_of_getElem? (i := 571) (by decide +kernel), List.mem_of_getElem? (i := 572) (by decide +kernel)⟩
theorem lw_p22 : lw_okq (⟨"InterfaceRulesModel", "isType", "(I)Z"⟩, 34) := ⟨⟨by decide +kernel, by decide +kernel⟩, List.mem_of_getElem? (i := 561) (by decide +kernel), List.mem_of_getElem? (i := 689) (by decide +kernel), List.mem_of_getElem? (i := 690) (by decide +kernel)⟩
theorem lw_p23 : lw_okq (⟨"InterfaceRulesModel", "isFace", "(I)Z"⟩, 34) := ⟨⟨by decide +kernel, by decide +kernel⟩, List.mem_of_getElem? (i := 561) (by decide +kernel), List.mem_of_getElem? (i := 701) (by decide +kernel), List.mem_of_getElem? (i := 702) (by decide +kernel)⟩
theorem lw_p24 : lw_okq (⟨"InterfaceRulesModel", "freshen", "()V"⟩, 34) := ⟨⟨by decide +kernel, by decide +kernel⟩, List.mem_of_getElem? (i := 561) (by decide +kernel), List.mem_of_getElem? (i := 721) (by decide +kernel), List.mem_of_getElem? (i := 722) (by decide +kernel)⟩
theorem lw_p25 : lw_okq (⟨"InterfaceRulesModel", "parents", "(I)I"⟩, 34) := ⟨⟨by decide +kernel, by decide +kernel⟩, List.mem_of_getElem? (i := 561) (by decide +kernel), List.mem_of_getElem? (i := 725) (by decide +kernel), List.mem_of_getElem? (i := 726) (by decide +kernel)⟩
theorem lw_p26 : lw_okq (⟨"InterfaceRulesModel", "parent", "(II)I"⟩, 34) := ⟨⟨by decide +kernel, by decide +kernel⟩, List.mem_of_getElem? (i := 561) (by decide +kernel), List.mem_of_getElem? (i := 729) (by decide +kernel), List.mem_of_getElem? (i := 730) (by decide +kernel)⟩
theorem lw_p27 : lw_okq (⟨"InterfaceRulesModel", "list", "(II)V"⟩, 34) := ⟨⟨by decide +kernel, by decide +kernel⟩, List.mem_of_getElem? (i := 561) (by decide +kernel), List.mem_of_getElem? (i := 733) (by decide +kernel), List.mem_of_getElem? (i := 734) (by decide +kernel)⟩
theorem lw_p28 : lw_okq (⟨"InterfaceRulesModel", "give", "(II)V"⟩, 34) := ⟨⟨by decide +kernel, by decide +kernel⟩, List.mem_of_getElem? (i := 561) (by decide +kernel), List.mem_of_getElem? (i := 737) (by decide +kernel), List.mem_of_getElem? (i := 738) (by decide +kernel)⟩
theorem lw_p29 : lw_okq (⟨"InterfaceRulesModel", "isLost", "(II)Z"⟩, 34) := ⟨⟨by decide +kernel, by decide +kernel⟩, List.mem_of_getElem? (i := 561) (by decide +kernel), List.mem_of_getElem? (i := 741) (by decide +kernel), List.mem_of_getElem? (i := 742) (by decide +kernel)⟩
theorem lw_p30 : lw_okq (⟨"InterfaceRulesModel", "runsOf", "(II)I"⟩, 34) := ⟨⟨by decide +kernel, by decide +kernel⟩, List.mem_of_getElem? (i := 561) (by decide +kernel), List.mem_of_getElem? (i := 749) (by decide +kernel), List.mem_of_getElem? (i := 750) (by decide +kernel)⟩
theorem lw_p31 : lw_okq (⟨"InterfaceRulesModel", "look", "(II)V"⟩, 34) := ⟨⟨by decide +kernel, by decide +kernel⟩, List.mem_of_getElem? (i := 561) (by decide +kernel), List.mem_of_getElem? (i := 757) (by decide +kernel), List.mem_of_getElem? (i := 758) (by decide +kernel)⟩
def lw_privs_2 : List (MethodName × Nat) := [(⟨"InterfaceRules$TypeTable", "seenByParents", "(I)I"⟩, 12), (⟨"InterfaceRules$Caller", "following", "(II)I"⟩, 7), (⟨"InterfaceRules$Caller", "runnerFromInside", "(III)I"⟩, 7), (⟨"InterfaceRules", "countFaultless", "()I"⟩, 5), (⟨"InterfaceRulesModel", "addType", "(I)V"⟩, 34), (⟨"InterfaceRulesModel", "addMember", "(IIII)V"⟩, 34), (⟨"InterfaceRulesModel", "isType", "(I)Z"⟩, 34), (⟨"InterfaceRulesModel", "isFace", "(I)Z"⟩, 34), (⟨"InterfaceRulesModel", "freshen", "()V"⟩, 34), (⟨"InterfaceRulesModel", "parents", "(I)I"⟩, 34), (⟨"InterfaceRulesModel", "parent", "(II)I"⟩, 34), (⟨"InterfaceRulesModel", "list", "(II)V"⟩, 34), (⟨"InterfaceRulesModel", "give", "(II)V"⟩, 34), (⟨"InterfaceRulesModel", "isLost", "(II)Z"⟩, 34), (⟨"InterfaceRulesModel", "runsOf", "(II)I"⟩, 34), (⟨"InterfaceRulesModel", "look", "(II)V"⟩, 34)]
theorem lw_r2 : ∀ q ∈ lw_privs_2, lw_okq q := List.forall_mem_cons.mpr ⟨lw_p16, List.forall_mem_cons.mpr ⟨lw_p17, List.forall_mem_cons.mpr ⟨lw_p18, List.forall_mem_cons.mpr ⟨lw_p19, List.forall_mem_cons.mpr ⟨lw_p20, List.forall_mem_cons.mpr ⟨lw_p21, List.forall_mem_cons.mpr ⟨lw_p22, List.forall_mem_cons.mpr ⟨lw_p23, List.forall_mem_cons.mpr ⟨lw_p24, List.forall_mem_cons.mpr ⟨lw_p25, List.forall_mem_cons.mpr ⟨lw_p26, List.forall_mem_cons.mpr ⟨lw_p27, List.forall_mem_cons.mpr ⟨lw_p28, List.forall_mem_cons.mpr ⟨lw_p29, List.forall_mem_cons.mpr ⟨lw_p30, List.forall_mem_cons.mpr ⟨lw_p31, fun _ h => absurd h List.not_mem_nil⟩⟩⟩⟩⟩⟩⟩⟩⟩⟩⟩⟩⟩⟩⟩⟩
theorem lw_p32 : lw_okq (⟨"InterfaceRulesModel", "ownFaults", "(II)V"⟩, 34) := ⟨⟨by decide +kernel, by decide +kernel⟩, List.mem_of_getElem? (i := 561) (by decide +kernel), List.mem_of_getElem? (i := 761) (by decide +kernel), List.mem_of_getElem? (i := 762) (by decide +kernel)⟩
theorem lw_p33 : lw_okq (⟨"InterfaceRulesModel", "fault", "(II)V"⟩, 34) := ⟨⟨by decide +kernel, by decide +kernel⟩, List.mem_of_getElem? (i := 561) (by decide +kernel), List.mem_of_getElem? (i := 765) (by decide +kernel), List.mem_of_getElem? (i := 766) (by decide +kernel)⟩
theorem lw_p34 : lw_okq (⟨"InterfaceRulesModel", "nameFaults", "(II)V"⟩, 34) := ⟨⟨by decide +kernel, by decide +kernel⟩, List.mem_of_getElem? (i := 561) (by decide +kernel), List.mem_of_getElem? (i := 772) (by decide +kernel), List.mem_of_getElem? (i := 773) (by decide +kernel)⟩
theorem lw_p35 : lw_okq (⟨"InterfaceRulesModel", "server", "(I)I"⟩, 34) := ⟨⟨by decide +kernel, by decide +kernel⟩, List.mem_of_getElem? (i := 561) (by decide +kernel), List.mem_of_getElem? (i := 776) (by decide +kernel), List.mem_of_getElem? (i := 777) (by decide +kernel)⟩
theorem lw_p36 : lw_okq (⟨"InterfaceRulesModel", "callFault", "(II)I"⟩, 34) := ⟨⟨by decide +kernel, by decide +kernel⟩, List.mem_of_getElem? (i := 561) (by decide +kernel), List.mem_of_getElem? (i := 780) (by decide +kernel), List.mem_of_getElem? (i := 781) (by decide +kernel)⟩
theorem lw_p37 : lw_okq (⟨"InterfaceRulesModel", "staticOf", "(II)I"⟩, 34) := ⟨⟨by decide +kernel, by decide +kernel⟩, List.mem_of_getElem? (i := 561) (by decide +kernel), List.mem_of_getElem? (i := 784) (by decide +kernel), List.mem_of_getElem? (i := 785) (by decide +kernel)⟩
theorem lw_p38 : lw_okq (⟨"InterfaceRulesModel", "seesOf", "(II)I"⟩, 34) := ⟨⟨by decide +kernel, by decide +kernel⟩, List.mem_of_getElem? (i := 561) (by decide +kernel), List.mem_of_getElem? (i := 796) (by decide +kernel), List.mem_of_getElem? (i := 797) (by decide +kernel)⟩
theorem lw_p39 : lw_okq (⟨"InterfaceRulesModel", "next", "(IIZ)I"⟩, 34) := ⟨⟨by decide +kernel, by decide +kernel⟩, List.mem_of_getElem? (i := 561) (by decide +kernel), List.mem_of_getElem? (i := 813) (by decide +kernel), List.mem_of_getElem? (i := 814) (by decide +kernel)⟩
def lw_privs_3 : List (MethodName × Nat) := [(⟨"InterfaceRulesModel", "ownFaults", "(II)V"⟩, 34), (⟨"InterfaceRulesModel", "fault", "(II)V"⟩, 34), (⟨"InterfaceRulesModel", "nameFaults", "(II)V"⟩, 34), (⟨"InterfaceRulesModel", "server", "(I)I"⟩, 34), (⟨"InterfaceRulesModel", "callFault", "(II)I"⟩, 34), (⟨"InterfaceRulesModel", "staticOf", "(II)I"⟩, 34), (⟨"InterfaceRulesModel", "seesOf", "(II)I"⟩, 34), (⟨"InterfaceRulesModel", "next", "(IIZ)I"⟩, 34)]
theorem lw_r3 : ∀ q ∈ lw_privs_3, lw_okq q := List.forall_mem_cons.mpr ⟨lw_p32, List.forall_mem_cons.mpr ⟨lw_p33, List.forall_mem_cons.mpr ⟨lw_p34, List.forall_mem_cons.mpr ⟨lw_p35, List.forall_mem_cons.mpr ⟨lw_p36, List.forall_mem_cons.mpr ⟨lw_p37, List.forall_mem_cons.mpr ⟨lw_p38, List.forall_mem_cons.mpr ⟨lw_p39, fun _ h => absurd h List.not_mem_nil⟩⟩⟩⟩⟩⟩⟩⟩
def lw_privs : List (MethodName × Nat) := lw_privs_1 ++ (lw_privs_2 ++ (lw_privs_3))
def lw_tbl : List Cond := k2_sels lw_privs ++ tables_1
theorem lw_privs_ok : ∀ q ∈ lw_privs, lw_okq q := by
  show ∀ q ∈ lw_privs_1 ++ (lw_privs_2 ++ (lw_privs_3)), lw_okq q
  exact List.forall_mem_append.mpr ⟨lw_r1, List.forall_mem_append.mpr ⟨lw_r2, lw_r3⟩⟩
def RX0 : String := "InterfaceRules$Caller"
def TX0 : u_T := fun k => match k with
  | 0 => ("InterfaceRules$Caller", "types", "LInterfaceRules$TypeTable;", true)
  | 1 => ("InterfaceRules$Caller", "members", "LInterfaceRules$MemberTable;", true)
  | 2 => ("InterfaceRules$Caller", "holdings", "LInterfaceRules$Holdings;", true)
  | 3 => ("InterfaceRules$Caller", "hasPerformed", "Z", false)
  | 4 => ("InterfaceRules$Caller", "entered", "I", false)
  | 5 => ("InterfaceRules$Caller", "last", "I", false)
  | _ => ("InterfaceRules$Caller", "end", "I", false)
def tyX0 : Nat → FieldType := fun k => match k with
  | 0 => .object "InterfaceRules$TypeTable"
  | 1 => .object "InterfaceRules$MemberTable"
  | 2 => .object "InterfaceRules$Holdings"
  | 3 => .boolean
  | 4 => .int
  | 5 => .int
  | _ => .int
abbrev wsX00 : List Cond := u_ws RX0 TX0 7
theorem nmX0 : ∀ a, a < 7 → ∀ b, b < 7 → a ≠ b → (TX0 a).2.1 ≠ (TX0 b).2.1 := by decide +kernel
theorem tyX0_ok : ∀ k, k < 7 → parseFieldDescriptor (TX0 k).2.2.1 = some (tyX0 k) := by decide +kernel
abbrev cX0_init : ByteArray := prog_2_method_1_code
def yX0_init : MethodName := ⟨RX0, "<init>", "(LInterfaceRules$TypeTable;LInterfaceRules$MemberTable;LInterfaceRules$Holdings;)V"⟩
abbrev cX0_perform : ByteArray := prog_2_method_2_code
def yX0_perform : MethodName := ⟨RX0, "perform", "(II)I"⟩
abbrev cX0_following : ByteArray := prog_2_method_3_code
def yX0_following : MethodName := ⟨RX0, "following", "(II)I"⟩
abbrev cX0_runnerFromInside : ByteArray := prog_2_method_4_code
def yX0_runnerFromInside : MethodName := ⟨RX0, "runnerFromInside", "(III)I"⟩
def RX1 : String := "InterfaceRules$FaultList"
def TX1 : u_T := fun k => match k with
  | 0 => ("InterfaceRules$FaultList", "types", "LInterfaceRules$TypeTable;", true)
  | 1 => ("InterfaceRules$FaultList", "members", "LInterfaceRules$MemberTable;", true)
  | 2 => ("InterfaceRules$FaultList", "holdings", "LInterfaceRules$Holdings;", true)
  | 3 => ("InterfaceRules$FaultList", "codes", "[I", true)
  | 4 => ("InterfaceRules$FaultList", "numbers", "[I", true)
  | _ => ("InterfaceRules$FaultList", "size", "I", false)
def tyX1 : Nat → FieldType := fun k => match k with
  | 0 => .object "InterfaceRules$TypeTable"
  | 1 => .object "InterfaceRules$MemberTable"
  | 2 => .object "InterfaceRules$Holdings"
  | 3 => .array .int
  | 4 => .array .int
  | _ => .int
abbrev wsX10 : List Cond := u_ws RX1 TX1 6
theorem nmX1 : ∀ a, a < 6 → ∀ b, b < 6 → a ≠ b → (TX1 a).2.1 ≠ (TX1 b).2.1 := by decide +kernel
theorem tyX1_ok : ∀ k, k < 6 → parseFieldDescriptor (TX1 k).2.2.1 = some (tyX1 k) := by decide +kernel
abbrev cX1_init : ByteArray := prog_3_method_1_code
def yX1_init : MethodName := ⟨RX1, "<init>", "(LInterfaceRules$TypeTable;LInterfaceRules$MemberTable;LInterfaceRules$Holdings;)V"⟩
abbrev cX1_collect : ByteArray := prog_3_method_2_code
def yX1_collect : MethodName := ⟨RX1, "collect", "(I)I"⟩
abbrev cX1_addIfAny : ByteArray := prog_3_method_3_code
def yX1_addIfAny : MethodName := ⟨RX1, "addIfAny", "(II)V"⟩
abbrev cX1_addOwn : ByteArray := prog_3_method_4_code
def yX1_addOwn : MethodName := ⟨RX1, "addOwn", "(III)V"⟩
abbrev cX1_isAgainstRoot : ByteArray := prog_3_method_5_code
def yX1_isAgainstRoot : MethodName := ⟨RX1, "isAgainstRoot", "(II)Z"⟩
abbrev cX1_faultAgainst : ByteArray := prog_3_method_6_code
def yX1_faultAgainst : MethodName := ⟨RX1, "faultAgainst", "(II)I"⟩
abbrev cX1_addInherited : ByteArray := prog_3_method_7_code
def yX1_addInherited : MethodName := ⟨RX1, "addInherited", "(II)V"⟩
abbrev cX1_faultOfCall : ByteArray := prog_3_method_8_code
def yX1_faultOfCall : MethodName := ⟨RX1, "faultOfCall", "(II)I"⟩
abbrev cX1_isSuperRunning : ByteArray := prog_3_method_9_code
def yX1_isSuperRunning : MethodName := ⟨RX1, "isSuperRunning", "(II)Z"⟩
abbrev cX1_faultOfFaceCall : ByteArray := prog_3_method_10_code
def yX1_faultOfFaceCall : MethodName := ⟨RX1, "faultOfFaceCall", "(III)I"⟩
abbrev cX1_addSealed : ByteArray := prog_3_method_11_code
def yX1_addSealed : MethodName := ⟨RX1, "addSealed", "(I)V"⟩
def RX2 : String := "InterfaceRules$Holdings"
def TX2 : u_T := fun k => match k with
  | 0 => ("InterfaceRules$Holdings", "types", "LInterfaceRules$TypeTable;", true)
  | 1 => ("InterfaceRules$Holdings", "members", "LInterfaceRules$MemberTable;", true)
  | 2 => ("InterfaceRules$Holdings", "isFresh", "[Z", true)
  | 3 => ("InterfaceRules$Holdings", "counts", "[I", true)
  | 4 => ("InterfaceRules$Holdings", "held", "[I", true)
  | 5 => ("InterfaceRules$Holdings", "given", "[I", true)
  | _ => ("InterfaceRules$Holdings", "givenCount", "I", false)
def tyX2 : Nat → FieldType := fun k => match k with
  | 0 => .object "InterfaceRules$TypeTable"
  | 1 => .object "InterfaceRules$MemberTable"
  | 2 => .array .boolean
  | 3 => .array .int
  | 4 => .array .int
  | 5 => .array .int
  | _ => .int
abbrev wsX20 : List Cond := u_ws RX2 TX2 7
theorem nmX2 : ∀ a, a < 7 → ∀ b, b < 7 → a ≠ b → (TX2 a).2.1 ≠ (TX2 b).2.1 := by decide +kernel
theorem tyX2_ok : ∀ k, k < 7 → parseFieldDescriptor (TX2 k).2.2.1 = some (tyX2 k) := by decide +kernel
abbrev cX2_init : ByteArray := prog_4_method_1_code
def yX2_init : MethodName := ⟨RX2, "<init>", "(LInterfaceRules$TypeTable;LInterfaceRules$MemberTable;)V"⟩
abbrev cX2_forgetAll : ByteArray := prog_4_method_2_code
def yX2_forgetAll : MethodName := ⟨RX2, "forgetAll", "()V"⟩
abbrev cX2_forget : ByteArray := prog_4_method_3_code
def yX2_forget : MethodName := ⟨RX2, "forget", "(I)V"⟩
abbrev cX2_refreshAll : ByteArray := prog_4_method_4_code
def yX2_refreshAll : MethodName := ⟨RX2, "refreshAll", "()V"⟩
abbrev cX2_refresh : ByteArray := prog_4_method_5_code
def yX2_refresh : MethodName := ⟨RX2, "refresh", "(I)V"⟩
abbrev cX2_countOf : ByteArray := prog_4_method_6_code
def yX2_countOf : MethodName := ⟨RX2, "countOf", "(II)I"⟩
abbrev cX2_heldAt : ByteArray := prog_4_method_7_code
def yX2_heldAt : MethodName := ⟨RX2, "heldAt", "(III)I"⟩
abbrev cX2_settle : ByteArray := prog_4_method_8_code
def yX2_settle : MethodName := ⟨RX2, "settle", "(II)V"⟩
abbrev cX2_hold : ByteArray := prog_4_method_9_code
def yX2_hold : MethodName := ⟨RX2, "hold", "(III)V"⟩
abbrev cX2_gather : ByteArray := prog_4_method_10_code
def yX2_gather : MethodName := ⟨RX2, "gather", "(II)V"⟩
abbrev cX2_isHandedOn : ByteArray := prog_4_method_11_code
def yX2_isHandedOn : MethodName := ⟨RX2, "isHandedOn", "(I)Z"⟩
abbrev cX2_isClassBodyGiven : ByteArray := prog_4_method_12_code
def yX2_isClassBodyGiven : MethodName := ⟨RX2, "isClassBodyGiven", "()Z"⟩
abbrev cX2_ancestorsOfGiven : ByteArray := prog_4_method_13_code
def yX2_ancestorsOfGiven : MethodName := ⟨RX2, "ancestorsOfGiven", "()I"⟩
abbrev cX2_runner : ByteArray := prog_4_method_14_code
def yX2_runner : MethodName := ⟨RX2, "runner", "(II)I"⟩
abbrev cX2_staticOf : ByteArray := prog_4_method_15_code
def yX2_staticOf : MethodName := ⟨RX2, "staticOf", "(II)I"⟩
abbrev cX2_holdsSort : ByteArray := prog_4_method_16_code
def yX2_holdsSort : MethodName := ⟨RX2, "holdsSort", "(III)Z"⟩
abbrev cX2_onlyAbstractName : ByteArray := prog_4_method_17_code
def yX2_onlyAbstractName : MethodName := ⟨RX2, "onlyAbstractName", "(I)I"⟩
abbrev cX2_firstServingAll : ByteArray := prog_4_method_18_code
def yX2_firstServingAll : MethodName := ⟨RX2, "firstServingAll", "(II)I"⟩
abbrev cX2_servesAll : ByteArray := prog_4_method_19_code
def yX2_servesAll : MethodName := ⟨RX2, "servesAll", "(III)Z"⟩
def RX3 : String := "InterfaceRules$MemberTable"
def TX3 : u_T := fun k => match k with
  | 0 => ("InterfaceRules$MemberTable", "count", "I", false)
  | 1 => ("InterfaceRules$MemberTable", "owner", "[I", true)
  | 2 => ("InterfaceRules$MemberTable", "sort", "[I", true)
  | 3 => ("InterfaceRules$MemberTable", "added", "[I", true)
  | 4 => ("InterfaceRules$MemberTable", "callKind", "[I", true)
  | 5 => ("InterfaceRules$MemberTable", "callType", "[I", true)
  | 6 => ("InterfaceRules$MemberTable", "callName", "[I", true)
  | 7 => ("InterfaceRules$MemberTable", "result", "[I", true)
  | _ => ("InterfaceRules$MemberTable", "own", "[I", true)
def tyX3 : Nat → FieldType := fun k => match k with
  | 0 => .int
  | 1 => .array .int
  | 2 => .array .int
  | 3 => .array .int
  | 4 => .array .int
  | 5 => .array .int
  | 6 => .array .int
  | 7 => .array .int
  | _ => .array .int
abbrev wsX30 : List Cond := u_ws RX3 TX3 9
theorem nmX3 : ∀ a, a < 9 → ∀ b, b < 9 → a ≠ b → (TX3 a).2.1 ≠ (TX3 b).2.1 := by decide +kernel
theorem tyX3_ok : ∀ k, k < 9 → parseFieldDescriptor (TX3 k).2.2.1 = some (tyX3 k) := by decide +kernel
abbrev cX3_init : ByteArray := prog_5_method_1_code
def yX3_init : MethodName := ⟨RX3, "<init>", "()V"⟩
abbrev cX3_exists : ByteArray := prog_5_method_2_code
def yX3_exists : MethodName := ⟨RX3, "exists", "(I)Z"⟩
abbrev cX3_append : ByteArray := prog_5_method_3_code
def yX3_append : MethodName := ⟨RX3, "append", "(IIII)I"⟩
abbrev cX3_tell : ByteArray := prog_5_method_4_code
def yX3_tell : MethodName := ⟨RX3, "tell", "(IIIII)V"⟩
abbrev cX3_ownOf : ByteArray := prog_5_method_5_code
def yX3_ownOf : MethodName := ⟨RX3, "ownOf", "(II)I"⟩
abbrev cX3_serves : ByteArray := prog_5_method_6_code
def yX3_serves : MethodName := ⟨RX3, "serves", "(II)Z"⟩
def RX4 : String := "InterfaceRules$TypeTable"
def TX4 : u_T := fun k => match k with
  | 0 => ("InterfaceRules$TypeTable", "count", "I", false)
  | 1 => ("InterfaceRules$TypeTable", "kind", "[I", true)
  | 2 => ("InterfaceRules$TypeTable", "superOf", "[I", true)
  | 3 => ("InterfaceRules$TypeTable", "faceCount", "[I", true)
  | 4 => ("InterfaceRules$TypeTable", "permitted", "[I", true)
  | 5 => ("InterfaceRules$TypeTable", "isSealed", "[Z", true)
  | 6 => ("InterfaceRules$TypeTable", "faces", "[I", true)
  | 7 => ("InterfaceRules$TypeTable", "ancestors", "[I", true)
  | 8 => ("InterfaceRules$TypeTable", "parentsAncestors", "[I", true)
  | 9 => ("InterfaceRules$TypeTable", "isTold", "[Z", true)
  | 10 => ("InterfaceRules$TypeTable", "constants", "[I", true)
  | _ => ("InterfaceRules$TypeTable", "seen", "[I", true)
def tyX4 : Nat → FieldType := fun k => match k with
  | 0 => .int
  | 1 => .array .int
  | 2 => .array .int
  | 3 => .array .int
  | 4 => .array .int
  | 5 => .array .boolean
  | 6 => .array .int
  | 7 => .array .int
  | 8 => .array .int
  | 9 => .array .boolean
  | 10 => .array .int
  | _ => .array .int
abbrev wsX40 : List Cond := u_ws RX4 TX4 12
theorem nmX4 : ∀ a, a < 12 → ∀ b, b < 12 → a ≠ b → (TX4 a).2.1 ≠ (TX4 b).2.1 := by decide +kernel
theorem tyX4_ok : ∀ k, k < 12 → parseFieldDescriptor (TX4 k).2.2.1 = some (tyX4 k) := by decide +kernel
abbrev cX4_init : ByteArray := prog_6_method_1_code
def yX4_init : MethodName := ⟨RX4, "<init>", "()V"⟩
abbrev cX4_exists : ByteArray := prog_6_method_2_code
def yX4_exists : MethodName := ⟨RX4, "exists", "(I)Z"⟩
abbrev cX4_isFace : ByteArray := prog_6_method_3_code
def yX4_isFace : MethodName := ⟨RX4, "isFace", "(I)Z"⟩
abbrev cX4_isClass : ByteArray := prog_6_method_4_code
def yX4_isClass : MethodName := ⟨RX4, "isClass", "(I)Z"⟩
abbrev cX4_takesSort : ByteArray := prog_6_method_5_code
def yX4_takesSort : MethodName := ⟨RX4, "takesSort", "(II)Z"⟩
abbrev cX4_append : ByteArray := prog_6_method_6_code
def yX4_append : MethodName := ⟨RX4, "append", "(I)I"⟩
abbrev cX4_changeSuper : ByteArray := prog_6_method_7_code
def yX4_changeSuper : MethodName := ⟨RX4, "changeSuper", "(II)I"⟩
abbrev cX4_appendFace : ByteArray := prog_6_method_8_code
def yX4_appendFace : MethodName := ⟨RX4, "appendFace", "(II)I"⟩
abbrev cX4_faceAt : ByteArray := prog_6_method_9_code
def yX4_faceAt : MethodName := ⟨RX4, "faceAt", "(II)I"⟩
abbrev cX4_isFaceOf : ByteArray := prog_6_method_10_code
def yX4_isFaceOf : MethodName := ⟨RX4, "isFaceOf", "(II)Z"⟩
abbrev cX4_hasSuper : ByteArray := prog_6_method_11_code
def yX4_hasSuper : MethodName := ⟨RX4, "hasSuper", "(I)Z"⟩
abbrev cX4_parentCount : ByteArray := prog_6_method_12_code
def yX4_parentCount : MethodName := ⟨RX4, "parentCount", "(I)I"⟩
abbrev cX4_parentAt : ByteArray := prog_6_method_13_code
def yX4_parentAt : MethodName := ⟨RX4, "parentAt", "(II)I"⟩
abbrev cX4_hasAncestor : ByteArray := prog_6_method_14_code
def yX4_hasAncestor : MethodName := ⟨RX4, "hasAncestor", "(II)Z"⟩
abbrev cX4_hasAncestorOfParent : ByteArray := prog_6_method_15_code
def yX4_hasAncestorOfParent : MethodName := ⟨RX4, "hasAncestorOfParent", "(II)Z"⟩
abbrev cX4_permits : ByteArray := prog_6_method_16_code
def yX4_permits : MethodName := ⟨RX4, "permits", "(II)Z"⟩
abbrev cX4_settleAncestors : ByteArray := prog_6_method_17_code
def yX4_settleAncestors : MethodName := ⟨RX4, "settleAncestors", "(I)V"⟩
abbrev cX4_tellConstant : ByteArray := prog_6_method_18_code
def yX4_tellConstant : MethodName := ⟨RX4, "tellConstant", "(III)Z"⟩
abbrev cX4_constantOf : ByteArray := prog_6_method_19_code
def yX4_constantOf : MethodName := ⟨RX4, "constantOf", "(II)I"⟩
abbrev cX4_seenFrom : ByteArray := prog_6_method_20_code
def yX4_seenFrom : MethodName := ⟨RX4, "seenFrom", "(II)I"⟩
abbrev cX4_seenByParents : ByteArray := prog_6_method_21_code
def yX4_seenByParents : MethodName := ⟨RX4, "seenByParents", "(I)I"⟩
def RX5 : String := "InterfaceRules"
def TX5 : u_T := fun k => match k with
  | 0 => ("InterfaceRules", "types", "LInterfaceRules$TypeTable;", true)
  | 1 => ("InterfaceRules", "members", "LInterfaceRules$MemberTable;", true)
  | 2 => ("InterfaceRules", "holdings", "LInterfaceRules$Holdings;", true)
  | 3 => ("InterfaceRules", "faultList", "LInterfaceRules$FaultList;", true)
  | _ => ("InterfaceRules", "caller", "LInterfaceRules$Caller;", true)
def tyX5 : Nat → FieldType := fun k => match k with
  | 0 => .object "InterfaceRules$TypeTable"
  | 1 => .object "InterfaceRules$MemberTable"
  | 2 => .object "InterfaceRules$Holdings"
  | 3 => .object "InterfaceRules$FaultList"
  | _ => .object "InterfaceRules$Caller"
abbrev wsX50 : List Cond := u_ws RX5 TX5 5
theorem nmX5 : ∀ a, a < 5 → ∀ b, b < 5 → a ≠ b → (TX5 a).2.1 ≠ (TX5 b).2.1 := by decide +kernel
theorem tyX5_ok : ∀ k, k < 5 → parseFieldDescriptor (TX5 k).2.2.1 = some (tyX5 k) := by decide +kernel
abbrev cX5_init : ByteArray := prog_1_method_1_code
def yX5_init : MethodName := ⟨RX5, "<init>", "()V"⟩
abbrev cX5_type : ByteArray := prog_1_method_2_code
def yX5_type : MethodName := ⟨RX5, "type", "(I)I"⟩
abbrev cX5_extend : ByteArray := prog_1_method_3_code
def yX5_extend : MethodName := ⟨RX5, "extend", "(II)I"⟩
abbrev cX5_face : ByteArray := prog_1_method_4_code
def yX5_face : MethodName := ⟨RX5, "face", "(II)I"⟩
abbrev cX5_seal : ByteArray := prog_1_method_5_code
def yX5_seal : MethodName := ⟨RX5, "seal", "(II)I"⟩
abbrev cX5_member : ByteArray := prog_1_method_6_code
def yX5_member : MethodName := ⟨RX5, "member", "(IIII)I"⟩
abbrev cX5_does : ByteArray := prog_1_method_7_code
def yX5_does : MethodName := ⟨RX5, "does", "(IIIII)I"⟩
abbrev cX5_constant : ByteArray := prog_1_method_8_code
def yX5_constant : MethodName := ⟨RX5, "constant", "(III)I"⟩
abbrev cX5_has : ByteArray := prog_1_method_9_code
def yX5_has : MethodName := ⟨RX5, "has", "(III)I"⟩
abbrev cX5_runs : ByteArray := prog_1_method_10_code
def yX5_runs : MethodName := ⟨RX5, "runs", "(II)I"⟩
abbrev cX5_faults : ByteArray := prog_1_method_11_code
def yX5_faults : MethodName := ⟨RX5, "faults", "(III)I"⟩
abbrev cX5_functional : ByteArray := prog_1_method_12_code
def yX5_functional : MethodName := ⟨RX5, "functional", "(I)I"⟩
abbrev cX5_sees : ByteArray := prog_1_method_13_code
def yX5_sees : MethodName := ⟨RX5, "sees", "(II)I"⟩
abbrev cX5_value : ByteArray := prog_1_method_14_code
def yX5_value : MethodName := ⟨RX5, "value", "(II)I"⟩
abbrev cX5_below : ByteArray := prog_1_method_15_code
def yX5_below : MethodName := ⟨RX5, "below", "(II)I"⟩
abbrev cX5_call : ByteArray := prog_1_method_16_code
def yX5_call : MethodName := ⟨RX5, "call", "(II)I"⟩
abbrev cX5_latest : ByteArray := prog_1_method_17_code
def yX5_latest : MethodName := ⟨RX5, "latest", "(I)I"⟩
abbrev cX5_told : ByteArray := prog_1_method_18_code
def yX5_told : MethodName := ⟨RX5, "told", "(I)I"⟩
abbrev cX5_countFaultless : ByteArray := prog_1_method_19_code
def yX5_countFaultless : MethodName := ⟨RX5, "countFaultless", "()I"⟩
abbrev cX5_isCall : ByteArray := prog_1_method_20_code
def yX5_isCall : MethodName := ⟨RX5, "isCall", "(III)Z"⟩
abbrev cX5_isName : ByteArray := prog_1_method_21_code
def yX5_isName : MethodName := ⟨RX5, "isName", "(I)Z"⟩
abbrev cX5_isConstant : ByteArray := prog_1_method_22_code
def yX5_isConstant : MethodName := ⟨RX5, "isConstant", "(I)Z"⟩
def RX6 : String := "InterfaceRulesModel"
def TX6 : u_T := fun k => match k with
  | 0 => ("InterfaceRulesModel", "types", "I", false)
  | 1 => ("InterfaceRulesModel", "kind", "[I", true)
  | 2 => ("InterfaceRulesModel", "over", "[I", true)
  | 3 => ("InterfaceRulesModel", "faces", "[I", true)
  | 4 => ("InterfaceRulesModel", "faceMany", "[I", true)
  | 5 => ("InterfaceRulesModel", "isSealed", "[Z", true)
  | 6 => ("InterfaceRulesModel", "permits", "[I", true)
  | 7 => ("InterfaceRulesModel", "members", "I", false)
  | 8 => ("InterfaceRulesModel", "type", "[I", true)
  | 9 => ("InterfaceRulesModel", "name", "[I", true)
  | 10 => ("InterfaceRulesModel", "sort", "[I", true)
  | 11 => ("InterfaceRulesModel", "result", "[I", true)
  | 12 => ("InterfaceRulesModel", "adds", "[I", true)
  | 13 => ("InterfaceRulesModel", "calls", "[I", true)
  | 14 => ("InterfaceRulesModel", "callType", "[I", true)
  | 15 => ("InterfaceRulesModel", "callName", "[I", true)
  | 16 => ("InterfaceRulesModel", "own", "[I", true)
  | 17 => ("InterfaceRulesModel", "hasConstant", "[Z", true)
  | 18 => ("InterfaceRulesModel", "constants", "[I", true)
  | 19 => ("InterfaceRulesModel", "isFresh", "Z", false)
  | 20 => ("InterfaceRulesModel", "ancestors", "[I", true)
  | 21 => ("InterfaceRulesModel", "given", "[I", true)
  | 22 => ("InterfaceRulesModel", "givenMany", "[I", true)
  | 23 => ("InterfaceRulesModel", "had", "[I", true)
  | 24 => ("InterfaceRulesModel", "hadMany", "[I", true)
  | 25 => ("InterfaceRulesModel", "wasCalled", "Z", false)
  | 26 => ("InterfaceRulesModel", "stopped", "I", false)
  | 27 => ("InterfaceRulesModel", "entered", "I", false)
  | 28 => ("InterfaceRulesModel", "last", "I", false)
  | 29 => ("InterfaceRulesModel", "wanted", "I", false)
  | 30 => ("InterfaceRulesModel", "found", "I", false)
  | 31 => ("InterfaceRulesModel", "code", "I", false)
  | 32 => ("InterfaceRulesModel", "number", "I", false)
  | _ => ("InterfaceRulesModel", "seen", "[I", true)
def tyX6 : Nat → FieldType := fun k => match k with
  | 0 => .int
  | 1 => .array .int
  | 2 => .array .int
  | 3 => .array .int
  | 4 => .array .int
  | 5 => .array .boolean
  | 6 => .array .int
  | 7 => .int
  | 8 => .array .int
  | 9 => .array .int
  | 10 => .array .int
  | 11 => .array .int
  | 12 => .array .int
  | 13 => .array .int
  | 14 => .array .int
  | 15 => .array .int
  | 16 => .array .int
  | 17 => .array .boolean
  | 18 => .array .int
  | 19 => .boolean
  | 20 => .array .int
  | 21 => .array .int
  | 22 => .array .int
  | 23 => .array .int
  | 24 => .array .int
  | 25 => .boolean
  | 26 => .int
  | 27 => .int
  | 28 => .int
  | 29 => .int
  | 30 => .int
  | 31 => .int
  | 32 => .int
  | _ => .array .int
abbrev wsX60 : List Cond := u_ws RX6 TX6 34
theorem nmX6 : ∀ a, a < 34 → ∀ b, b < 34 → a ≠ b → (TX6 a).2.1 ≠ (TX6 b).2.1 := by decide +kernel
theorem tyX6_ok : ∀ k, k < 34 → parseFieldDescriptor (TX6 k).2.2.1 = some (tyX6 k) := by decide +kernel
abbrev cX6_init : ByteArray := prog_8_method_1_code
def yX6_init : MethodName := ⟨RX6, "<init>", "()V"⟩
abbrev cX6_in : ByteArray := prog_8_method_2_code
def yX6_in : MethodName := ⟨RX6, "in", "(III)Z"⟩
abbrev cX6_isType : ByteArray := prog_8_method_3_code
def yX6_isType : MethodName := ⟨RX6, "isType", "(I)Z"⟩
abbrev cX6_isFace : ByteArray := prog_8_method_4_code
def yX6_isFace : MethodName := ⟨RX6, "isFace", "(I)Z"⟩
abbrev cX6_addType : ByteArray := prog_8_method_5_code
def yX6_addType : MethodName := ⟨RX6, "addType", "(I)V"⟩
abbrev cX6_addMember : ByteArray := prog_8_method_6_code
def yX6_addMember : MethodName := ⟨RX6, "addMember", "(IIII)V"⟩
abbrev cX6_parents : ByteArray := prog_8_method_7_code
def yX6_parents : MethodName := ⟨RX6, "parents", "(I)I"⟩
abbrev cX6_parent : ByteArray := prog_8_method_8_code
def yX6_parent : MethodName := ⟨RX6, "parent", "(II)I"⟩
abbrev cX6_freshen : ByteArray := prog_8_method_9_code
def yX6_freshen : MethodName := ⟨RX6, "freshen", "()V"⟩
abbrev cX6_list : ByteArray := prog_8_method_10_code
def yX6_list : MethodName := ⟨RX6, "list", "(II)V"⟩
abbrev cX6_give : ByteArray := prog_8_method_11_code
def yX6_give : MethodName := ⟨RX6, "give", "(II)V"⟩
abbrev cX6_isLost : ByteArray := prog_8_method_12_code
def yX6_isLost : MethodName := ⟨RX6, "isLost", "(II)Z"⟩
abbrev cX6_runsOf : ByteArray := prog_8_method_13_code
def yX6_runsOf : MethodName := ⟨RX6, "runsOf", "(II)I"⟩
abbrev cX6_serves : ByteArray := prog_8_method_14_code
def yX6_serves : MethodName := ⟨RX6, "serves", "(II)Z"⟩
abbrev cX6_server : ByteArray := prog_8_method_15_code
def yX6_server : MethodName := ⟨RX6, "server", "(I)I"⟩
abbrev cX6_fault : ByteArray := prog_8_method_16_code
def yX6_fault : MethodName := ⟨RX6, "fault", "(II)V"⟩
abbrev cX6_ownFaults : ByteArray := prog_8_method_17_code
def yX6_ownFaults : MethodName := ⟨RX6, "ownFaults", "(II)V"⟩
abbrev cX6_nameFaults : ByteArray := prog_8_method_18_code
def yX6_nameFaults : MethodName := ⟨RX6, "nameFaults", "(II)V"⟩
abbrev cX6_staticOf : ByteArray := prog_8_method_19_code
def yX6_staticOf : MethodName := ⟨RX6, "staticOf", "(II)I"⟩
abbrev cX6_callFault : ByteArray := prog_8_method_20_code
def yX6_callFault : MethodName := ⟨RX6, "callFault", "(II)I"⟩
abbrev cX6_look : ByteArray := prog_8_method_21_code
def yX6_look : MethodName := ⟨RX6, "look", "(II)V"⟩
abbrev cX6_type : ByteArray := prog_8_method_22_code
def yX6_type : MethodName := ⟨RX6, "type", "(I)I"⟩
abbrev cX6_extend : ByteArray := prog_8_method_23_code
def yX6_extend : MethodName := ⟨RX6, "extend", "(II)I"⟩
abbrev cX6_face : ByteArray := prog_8_method_24_code
def yX6_face : MethodName := ⟨RX6, "face", "(II)I"⟩
abbrev cX6_seal : ByteArray := prog_8_method_25_code
def yX6_seal : MethodName := ⟨RX6, "seal", "(II)I"⟩
abbrev cX6_member : ByteArray := prog_8_method_26_code
def yX6_member : MethodName := ⟨RX6, "member", "(IIII)I"⟩
abbrev cX6_does : ByteArray := prog_8_method_27_code
def yX6_does : MethodName := ⟨RX6, "does", "(IIIII)I"⟩
abbrev cX6_constant : ByteArray := prog_8_method_28_code
def yX6_constant : MethodName := ⟨RX6, "constant", "(III)I"⟩
abbrev cX6_has : ByteArray := prog_8_method_29_code
def yX6_has : MethodName := ⟨RX6, "has", "(III)I"⟩
abbrev cX6_runs : ByteArray := prog_8_method_30_code
def yX6_runs : MethodName := ⟨RX6, "runs", "(II)I"⟩
abbrev cX6_faults : ByteArray := prog_8_method_31_code
def yX6_faults : MethodName := ⟨RX6, "faults", "(III)I"⟩
abbrev cX6_functional : ByteArray := prog_8_method_32_code
def yX6_functional : MethodName := ⟨RX6, "functional", "(I)I"⟩
abbrev cX6_seesOf : ByteArray := prog_8_method_33_code
def yX6_seesOf : MethodName := ⟨RX6, "seesOf", "(II)I"⟩
abbrev cX6_sees : ByteArray := prog_8_method_34_code
def yX6_sees : MethodName := ⟨RX6, "sees", "(II)I"⟩
abbrev cX6_value : ByteArray := prog_8_method_35_code
def yX6_value : MethodName := ⟨RX6, "value", "(II)I"⟩
abbrev cX6_below : ByteArray := prog_8_method_36_code
def yX6_below : MethodName := ⟨RX6, "below", "(II)I"⟩
abbrev cX6_next : ByteArray := prog_8_method_37_code
def yX6_next : MethodName := ⟨RX6, "next", "(IIZ)I"⟩
abbrev cX6_call : ByteArray := prog_8_method_38_code
def yX6_call : MethodName := ⟨RX6, "call", "(II)I"⟩
abbrev cX6_latest : ByteArray := prog_8_method_39_code
def yX6_latest : MethodName := ⟨RX6, "latest", "(I)I"⟩
abbrev cX6_told : ByteArray := prog_8_method_40_code
def yX6_told : MethodName := ⟨RX6, "told", "(I)I"⟩
def RJ7 : String := "java/util/Arrays"
def TJ7 : u_T := fun k => match k with
  | _ => ("", "", "", false)
def tyJ7 : Nat → FieldType := fun k => match k with
  | _ => .int
abbrev wsJ70 : List Cond := u_ws RJ7 TJ7 0
theorem nmJ7 : ∀ a, a < 0 → ∀ b, b < 0 → a ≠ b → (TJ7 a).2.1 ≠ (TJ7 b).2.1 := by decide +kernel
theorem tyJ7_ok : ∀ k, k < 0 → parseFieldDescriptor (TJ7 k).2.2.1 = some (tyJ7 k) := by decide +kernel
abbrev cJ7_fill_53178 : ByteArray := prog_9_method_103_code
def yJ7_fill_53178 : MethodName := ⟨RJ7, "fill", "([II)V"⟩
def RL : String := "InterfaceRulesLaw"
abbrev cL_law : ByteArray := code
def yL_law : MethodName := ⟨RL, "law", "([I)Z"⟩
abbrev vwCl : List vw_C := [(RX0, TX0, 7), (RX1, TX1, 6), (RX2, TX2, 7), (RX3, TX3, 9), (RX4, TX4, 12), (RX5, TX5, 5), (RX6, TX6, 34)]
