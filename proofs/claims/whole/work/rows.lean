section
-- ===== PART A: goes FIRST, ahead of the names: the tables' words, and 'selects' of the private methods out of them =====
/-- a private method of a class that the tables say can be made, by its rows of tables_1 -/
def lw_okq (q : MethodName × Nat) : Prop := (q.1.cls ≠ "java/lang/invoke/MethodHandle" ∧ q.1.cls ≠ "java/lang/invoke/VarHandle") ∧ Cond.instantiable q.1.cls q.2 ∈ tables_1 ∧ Cond.privateMethod q.1 ∈ tables_1 ∧ Cond.instanceMethod q.1 ∈ tables_1
theorem lw_p0 : lw_okq (⟨"ReplicaDocument$Operation", "hasSoundValue", "()Z"⟩, 7) := ⟨⟨by decide +kernel, by decide +kernel⟩, List.mem_of_getElem? (i := 26) (by decide +kernel), List.mem_of_getElem? (i := 172) (by decide +kernel), List.mem_of_getElem? (i := 173) (by decide +kernel)⟩
theorem lw_p1 : lw_okq (⟨"ReplicaDocument$Replica", "findInsert", "(I)I"⟩, 7) := ⟨⟨by decide +kernel, by decide +kernel⟩, List.mem_of_getElem? (i := 19) (by decide +kernel), List.mem_of_getElem? (i := 180) (by decide +kernel), List.mem_of_getElem? (i := 181) (by decide +kernel)⟩
theorem lw_p2 : lw_okq (⟨"ReplicaDocument$Replica", "greatestCount", "()I"⟩, 7) := ⟨⟨by decide +kernel, by decide +kernel⟩, List.mem_of_getElem? (i := 19) (by decide +kernel), List.mem_of_getElem? (i := 200) (by decide +kernel), List.mem_of_getElem? (i := 201) (by decide +kernel)⟩
theorem lw_p3 : lw_okq (⟨"ReplicaDocument$Replica", "gatherBefore", "(LReplicaDocument$Operation;)Z"⟩, 7) := ⟨⟨by decide +kernel, by decide +kernel⟩, List.mem_of_getElem? (i := 19) (by decide +kernel), List.mem_of_getElem? (i := 204) (by decide +kernel), List.mem_of_getElem? (i := 205) (by decide +kernel)⟩
theorem lw_p4 : lw_okq (⟨"ReplicaDocument$Replica", "keep", "(LReplicaDocument$Operation;)V"⟩, 7) := ⟨⟨by decide +kernel, by decide +kernel⟩, List.mem_of_getElem? (i := 19) (by decide +kernel), List.mem_of_getElem? (i := 224) (by decide +kernel), List.mem_of_getElem? (i := 225) (by decide +kernel)⟩
theorem lw_p5 : lw_okq (⟨"ReplicaDocument$Replica", "applyWaiting", "(I)V"⟩, 7) := ⟨⟨by decide +kernel, by decide +kernel⟩, List.mem_of_getElem? (i := 19) (by decide +kernel), List.mem_of_getElem? (i := 236) (by decide +kernel), List.mem_of_getElem? (i := 237) (by decide +kernel)⟩
theorem lw_p6 : lw_okq (⟨"ReplicaDocument$Replica", "gatherPast", "(LReplicaDocument$Operation;)I"⟩, 7) := ⟨⟨by decide +kernel, by decide +kernel⟩, List.mem_of_getElem? (i := 19) (by decide +kernel), List.mem_of_getElem? (i := 240) (by decide +kernel), List.mem_of_getElem? (i := 241) (by decide +kernel)⟩
theorem lw_p7 : lw_okq (⟨"ReplicaDocument$Replica", "fileById", "(I)V"⟩, 7) := ⟨⟨by decide +kernel, by decide +kernel⟩, List.mem_of_getElem? (i := 19) (by decide +kernel), List.mem_of_getElem? (i := 245) (by decide +kernel), List.mem_of_getElem? (i := 246) (by decide +kernel)⟩
theorem lw_p8 : lw_okq (⟨"ReplicaDocument$Replica", "settle", "()I"⟩, 7) := ⟨⟨by decide +kernel, by decide +kernel⟩, List.mem_of_getElem? (i := 19) (by decide +kernel), List.mem_of_getElem? (i := 249) (by decide +kernel), List.mem_of_getElem? (i := 250) (by decide +kernel)⟩
theorem lw_p9 : lw_okq (⟨"ReplicaDocument$Replica", "findLeastReady", "()I"⟩, 7) := ⟨⟨by decide +kernel, by decide +kernel⟩, List.mem_of_getElem? (i := 19) (by decide +kernel), List.mem_of_getElem? (i := 253) (by decide +kernel), List.mem_of_getElem? (i := 254) (by decide +kernel)⟩
theorem lw_p10 : lw_okq (⟨"ReplicaDocument$Replica", "isReady", "(LReplicaDocument$Operation;)Z"⟩, 7) := ⟨⟨by decide +kernel, by decide +kernel⟩, List.mem_of_getElem? (i := 19) (by decide +kernel), List.mem_of_getElem? (i := 257) (by decide +kernel), List.mem_of_getElem? (i := 258) (by decide +kernel)⟩
theorem lw_p11 : lw_okq (⟨"ReplicaDocument$Contents", "isEntryAt", "(LReplicaDocument$Replica;III)Z"⟩, 2) := ⟨⟨by decide +kernel, by decide +kernel⟩, List.mem_of_getElem? (i := 105) (by decide +kernel), List.mem_of_getElem? (i := 361) (by decide +kernel), List.mem_of_getElem? (i := 362) (by decide +kernel)⟩
theorem lw_p12 : lw_okq (⟨"ReplicaDocument$Contents", "isEntry", "(LReplicaDocument$Replica;I)Z"⟩, 2) := ⟨⟨by decide +kernel, by decide +kernel⟩, List.mem_of_getElem? (i := 105) (by decide +kernel), List.mem_of_getElem? (i := 365) (by decide +kernel), List.mem_of_getElem? (i := 366) (by decide +kernel)⟩
theorem lw_p13 : lw_okq (⟨"ReplicaDocument$Contents", "writesSamePlace", "(LReplicaDocument$Replica;ILReplicaDocument$Operation;)Z"⟩, 2) := ⟨⟨by decide +kernel, by decide +kernel⟩, List.mem_of_getElem? (i := 105) (by decide +kernel), List.mem_of_getElem? (i := 371) (by decide +kernel), List.mem_of_getElem? (i := 372) (by decide +kernel)⟩
theorem lw_p14 : lw_okq (⟨"ReplicaDocument$Contents", "arrange", "(LReplicaDocument$Replica;I)I"⟩, 2) := ⟨⟨by decide +kernel, by decide +kernel⟩, List.mem_of_getElem? (i := 105) (by decide +kernel), List.mem_of_getElem? (i := 384) (by decide +kernel), List.mem_of_getElem? (i := 385) (by decide +kernel)⟩
theorem lw_p15 : lw_okq (⟨"ReplicaDocument$Contents", "placeBehind", "(LReplicaDocument$Replica;III)V"⟩, 2) := ⟨⟨by decide +kernel, by decide +kernel⟩, List.mem_of_getElem? (i := 105) (by decide +kernel), List.mem_of_getElem? (i := 388) (by decide +kernel), List.mem_of_getElem? (i := 389) (by decide +kernel)⟩
def lw_privs_1 : List (MethodName × Nat) := [(⟨"ReplicaDocument$Operation", "hasSoundValue", "()Z"⟩, 7), (⟨"ReplicaDocument$Replica", "findInsert", "(I)I"⟩, 7), (⟨"ReplicaDocument$Replica", "greatestCount", "()I"⟩, 7), (⟨"ReplicaDocument$Replica", "gatherBefore", "(LReplicaDocument$Operation;)Z"⟩, 7), (⟨"ReplicaDocument$Replica", "keep", "(LReplicaDocument$Operation;)V"⟩, 7), (⟨"ReplicaDocument$Replica", "applyWaiting", "(I)V"⟩, 7), (⟨"ReplicaDocument$Replica", "gatherPast", "(LReplicaDocument$Operation;)I"⟩, 7), (⟨"ReplicaDocument$Replica", "fileById", "(I)V"⟩, 7), (⟨"ReplicaDocument$Replica", "settle", "()I"⟩, 7), (⟨"ReplicaDocument$Replica", "findLeastReady", "()I"⟩, 7), (⟨"ReplicaDocument$Replica", "isReady", "(LReplicaDocument$Operation;)Z"⟩, 7), (⟨"ReplicaDocument$Contents", "isEntryAt", "(LReplicaDocument$Replica;III)Z"⟩, 2), (⟨"ReplicaDocument$Contents", "isEntry", "(LReplicaDocument$Replica;I)Z"⟩, 2), (⟨"ReplicaDocument$Contents", "writesSamePlace", "(LReplicaDocument$Replica;ILReplicaDocument$Operation;)Z"⟩, 2), (⟨"ReplicaDocument$Contents", "arrange", "(LReplicaDocument$Replica;I)I"⟩, 2), (⟨"ReplicaDocument$Contents", "placeBehind", "(LReplicaDocument$Replica;III)V"⟩, 2)]
theorem lw_r1 : ∀ q ∈ lw_privs_1, lw_okq q := List.forall_mem_cons.mpr ⟨lw_p0, List.forall_mem_cons.mpr ⟨lw_p1, List.forall_mem_cons.mpr ⟨lw_p2, List.forall_mem_cons.mpr ⟨lw_p3, List.forall_mem_cons.mpr ⟨lw_p4, List.forall_mem_cons.mpr ⟨lw_p5, List.forall_mem_cons.mpr ⟨lw_p6, List.forall_mem_cons.mpr ⟨lw_p7, List.forall_mem_cons.mpr ⟨lw_p8, List.forall_mem_cons.mpr ⟨lw_p9, List.forall_mem_cons.mpr ⟨lw_p10, List.forall_mem_cons.mpr ⟨lw_p11, List.forall_mem_cons.mpr ⟨lw_p12, List.forall_mem_cons.mpr ⟨lw_p13, List.forall_mem_cons.mpr ⟨lw_p14, List.forall_mem_cons.mpr ⟨lw_p15, fun _ h => absurd h List.not_mem_nil⟩⟩⟩⟩⟩⟩⟩⟩⟩⟩⟩⟩⟩⟩⟩⟩
theorem lw_p16 : lw_okq (⟨"ReplicaDocument$Contents", "isGone", "(LReplicaDocument$Replica;I)Z"⟩, 2) := ⟨⟨by decide +kernel, by decide +kernel⟩, List.mem_of_getElem? (i := 105) (by decide +kernel), List.mem_of_getElem? (i := 392) (by decide +kernel), List.mem_of_getElem? (i := 393) (by decide +kernel)⟩
theorem lw_p17 : lw_okq (⟨"ReplicaDocument$Contents", "isShown", "(LReplicaDocument$Replica;I)Z"⟩, 2) := ⟨⟨by decide +kernel, by decide +kernel⟩, List.mem_of_getElem? (i := 105) (by decide +kernel), List.mem_of_getElem? (i := 409) (by decide +kernel), List.mem_of_getElem? (i := 410) (by decide +kernel)⟩
theorem lw_p18 : lw_okq (⟨"ReplicaDocument$Contents", "addUpMap", "(LReplicaDocument$Replica;I)I"⟩, 2) := ⟨⟨by decide +kernel, by decide +kernel⟩, List.mem_of_getElem? (i := 105) (by decide +kernel), List.mem_of_getElem? (i := 421) (by decide +kernel), List.mem_of_getElem? (i := 422) (by decide +kernel)⟩
theorem lw_p19 : lw_okq (⟨"ReplicaDocument$Contents", "addUpList", "(LReplicaDocument$Replica;I)I"⟩, 2) := ⟨⟨by decide +kernel, by decide +kernel⟩, List.mem_of_getElem? (i := 105) (by decide +kernel), List.mem_of_getElem? (i := 425) (by decide +kernel), List.mem_of_getElem? (i := 426) (by decide +kernel)⟩
theorem lw_p20 : lw_okq (⟨"ReplicaDocumentModel", "study", "(I)V"⟩, 12) := ⟨⟨by decide +kernel, by decide +kernel⟩, List.mem_of_getElem? (i := 437) (by decide +kernel), List.mem_of_getElem? (i := 487) (by decide +kernel), List.mem_of_getElem? (i := 488) (by decide +kernel)⟩
theorem lw_p21 : lw_okq (⟨"ReplicaDocumentModel", "done", "(I)Z"⟩, 12) := ⟨⟨by decide +kernel, by decide +kernel⟩, List.mem_of_getElem? (i := 437) (by decide +kernel), List.mem_of_getElem? (i := 491) (by decide +kernel), List.mem_of_getElem? (i := 492) (by decide +kernel)⟩
theorem lw_p22 : lw_okq (⟨"ReplicaDocumentModel", "part", "(II)I"⟩, 12) := ⟨⟨by decide +kernel, by decide +kernel⟩, List.mem_of_getElem? (i := 437) (by decide +kernel), List.mem_of_getElem? (i := 495) (by decide +kernel), List.mem_of_getElem? (i := 496) (by decide +kernel)⟩
theorem lw_p23 : lw_okq (⟨"ReplicaDocumentModel", "fits", "(III)Z"⟩, 12) := ⟨⟨by decide +kernel, by decide +kernel⟩, List.mem_of_getElem? (i := 437) (by decide +kernel), List.mem_of_getElem? (i := 499) (by decide +kernel), List.mem_of_getElem? (i := 500) (by decide +kernel)⟩
theorem lw_p24 : lw_okq (⟨"ReplicaDocumentModel", "find", "(IZ)I"⟩, 12) := ⟨⟨by decide +kernel, by decide +kernel⟩, List.mem_of_getElem? (i := 437) (by decide +kernel), List.mem_of_getElem? (i := 503) (by decide +kernel), List.mem_of_getElem? (i := 504) (by decide +kernel)⟩
theorem lw_p25 : lw_okq (⟨"ReplicaDocumentModel", "widen", "(I)V"⟩, 12) := ⟨⟨by decide +kernel, by decide +kernel⟩, List.mem_of_getElem? (i := 437) (by decide +kernel), List.mem_of_getElem? (i := 507) (by decide +kernel), List.mem_of_getElem? (i := 508) (by decide +kernel)⟩
theorem lw_p26 : lw_okq (⟨"ReplicaDocumentModel", "has", "(II)Z"⟩, 12) := ⟨⟨by decide +kernel, by decide +kernel⟩, List.mem_of_getElem? (i := 437) (by decide +kernel), List.mem_of_getElem? (i := 511) (by decide +kernel), List.mem_of_getElem? (i := 512) (by decide +kernel)⟩
theorem lw_p27 : lw_okq (⟨"ReplicaDocumentModel", "isHead", "(I)Z"⟩, 12) := ⟨⟨by decide +kernel, by decide +kernel⟩, List.mem_of_getElem? (i := 437) (by decide +kernel), List.mem_of_getElem? (i := 515) (by decide +kernel), List.mem_of_getElem? (i := 516) (by decide +kernel)⟩
theorem lw_p28 : lw_okq (⟨"ReplicaDocumentModel", "apply", "(I)V"⟩, 12) := ⟨⟨by decide +kernel, by decide +kernel⟩, List.mem_of_getElem? (i := 437) (by decide +kernel), List.mem_of_getElem? (i := 519) (by decide +kernel), List.mem_of_getElem? (i := 520) (by decide +kernel)⟩
theorem lw_p29 : lw_okq (⟨"ReplicaDocumentModel", "settle", "()I"⟩, 12) := ⟨⟨by decide +kernel, by decide +kernel⟩, List.mem_of_getElem? (i := 437) (by decide +kernel), List.mem_of_getElem? (i := 523) (by decide +kernel), List.mem_of_getElem? (i := 524) (by decide +kernel)⟩
theorem lw_p30 : lw_okq (⟨"ReplicaDocumentModel", "ready", "(I)Z"⟩, 12) := ⟨⟨by decide +kernel, by decide +kernel⟩, List.mem_of_getElem? (i := 437) (by decide +kernel), List.mem_of_getElem? (i := 527) (by decide +kernel), List.mem_of_getElem? (i := 528) (by decide +kernel)⟩
theorem lw_p31 : lw_okq (⟨"ReplicaDocumentModel", "wellFormed", "()Z"⟩, 12) := ⟨⟨by decide +kernel, by decide +kernel⟩, List.mem_of_getElem? (i := 437) (by decide +kernel), List.mem_of_getElem? (i := 551) (by decide +kernel), List.mem_of_getElem? (i := 552) (by decide +kernel)⟩
def lw_privs_2 : List (MethodName × Nat) := [(⟨"ReplicaDocument$Contents", "isGone", "(LReplicaDocument$Replica;I)Z"⟩, 2), (⟨"ReplicaDocument$Contents", "isShown", "(LReplicaDocument$Replica;I)Z"⟩, 2), (⟨"ReplicaDocument$Contents", "addUpMap", "(LReplicaDocument$Replica;I)I"⟩, 2), (⟨"ReplicaDocument$Contents", "addUpList", "(LReplicaDocument$Replica;I)I"⟩, 2), (⟨"ReplicaDocumentModel", "study", "(I)V"⟩, 12), (⟨"ReplicaDocumentModel", "done", "(I)Z"⟩, 12), (⟨"ReplicaDocumentModel", "part", "(II)I"⟩, 12), (⟨"ReplicaDocumentModel", "fits", "(III)Z"⟩, 12), (⟨"ReplicaDocumentModel", "find", "(IZ)I"⟩, 12), (⟨"ReplicaDocumentModel", "widen", "(I)V"⟩, 12), (⟨"ReplicaDocumentModel", "has", "(II)Z"⟩, 12), (⟨"ReplicaDocumentModel", "isHead", "(I)Z"⟩, 12), (⟨"ReplicaDocumentModel", "apply", "(I)V"⟩, 12), (⟨"ReplicaDocumentModel", "settle", "()I"⟩, 12), (⟨"ReplicaDocumentModel", "ready", "(I)Z"⟩, 12), (⟨"ReplicaDocumentModel", "wellFormed", "()Z"⟩, 12)]
theorem lw_r2 : ∀ q ∈ lw_privs_2, lw_okq q := List.forall_mem_cons.mpr ⟨lw_p16, List.forall_mem_cons.mpr ⟨lw_p17, List.forall_mem_cons.mpr ⟨lw_p18, List.forall_mem_cons.mpr ⟨lw_p19, List.forall_mem_cons.mpr ⟨lw_p20, List.forall_mem_cons.mpr ⟨lw_p21, List.forall_mem_cons.mpr ⟨lw_p22, List.forall_mem_cons.mpr ⟨lw_p23, List.forall_mem_cons.mpr ⟨lw_p24, List.forall_mem_cons.mpr ⟨lw_p25, List.forall_mem_cons.mpr ⟨lw_p26, List.forall_mem_cons.mpr ⟨lw_p27, List.forall_mem_cons.mpr ⟨lw_p28, List.forall_mem_cons.mpr ⟨lw_p29, List.forall_mem_cons.mpr ⟨lw_p30, List.forall_mem_cons.mpr ⟨lw_p31, fun _ h => absurd h List.not_mem_nil⟩⟩⟩⟩⟩⟩⟩⟩⟩⟩⟩⟩⟩⟩⟩⟩
theorem lw_p32 : lw_okq (⟨"ReplicaDocumentModel", "sameAsLine", "(I)Z"⟩, 12) := ⟨⟨by decide +kernel, by decide +kernel⟩, List.mem_of_getElem? (i := 437) (by decide +kernel), List.mem_of_getElem? (i := 558) (by decide +kernel), List.mem_of_getElem? (i := 559) (by decide +kernel)⟩
theorem lw_p33 : lw_okq (⟨"ReplicaDocumentModel", "says", "(I)Z"⟩, 12) := ⟨⟨by decide +kernel, by decide +kernel⟩, List.mem_of_getElem? (i := 437) (by decide +kernel), List.mem_of_getElem? (i := 562) (by decide +kernel), List.mem_of_getElem? (i := 563) (by decide +kernel)⟩
theorem lw_p34 : lw_okq (⟨"ReplicaDocumentModel", "alike", "(II)Z"⟩, 12) := ⟨⟨by decide +kernel, by decide +kernel⟩, List.mem_of_getElem? (i := 437) (by decide +kernel), List.mem_of_getElem? (i := 590) (by decide +kernel), List.mem_of_getElem? (i := 591) (by decide +kernel)⟩
theorem lw_p35 : lw_okq (⟨"ReplicaDocumentModel", "isKind", "(II)Z"⟩, 12) := ⟨⟨by decide +kernel, by decide +kernel⟩, List.mem_of_getElem? (i := 437) (by decide +kernel), List.mem_of_getElem? (i := 598) (by decide +kernel), List.mem_of_getElem? (i := 599) (by decide +kernel)⟩
theorem lw_p36 : lw_okq (⟨"ReplicaDocumentModel", "entryPlace", "(III)I"⟩, 12) := ⟨⟨by decide +kernel, by decide +kernel⟩, List.mem_of_getElem? (i := 437) (by decide +kernel), List.mem_of_getElem? (i := 602) (by decide +kernel), List.mem_of_getElem? (i := 603) (by decide +kernel)⟩
theorem lw_p37 : lw_okq (⟨"ReplicaDocumentModel", "isEntry", "(I)Z"⟩, 12) := ⟨⟨by decide +kernel, by decide +kernel⟩, List.mem_of_getElem? (i := 437) (by decide +kernel), List.mem_of_getElem? (i := 606) (by decide +kernel), List.mem_of_getElem? (i := 607) (by decide +kernel)⟩
theorem lw_p38 : lw_okq (⟨"ReplicaDocumentModel", "elementPlace", "(II)I"⟩, 12) := ⟨⟨by decide +kernel, by decide +kernel⟩, List.mem_of_getElem? (i := 437) (by decide +kernel), List.mem_of_getElem? (i := 614) (by decide +kernel), List.mem_of_getElem? (i := 615) (by decide +kernel)⟩
theorem lw_p39 : lw_okq (⟨"ReplicaDocumentModel", "isElement", "(II)Z"⟩, 12) := ⟨⟨by decide +kernel, by decide +kernel⟩, List.mem_of_getElem? (i := 437) (by decide +kernel), List.mem_of_getElem? (i := 618) (by decide +kernel), List.mem_of_getElem? (i := 619) (by decide +kernel)⟩
theorem lw_p40 : lw_okq (⟨"ReplicaDocumentModel", "gone", "(I)Z"⟩, 12) := ⟨⟨by decide +kernel, by decide +kernel⟩, List.mem_of_getElem? (i := 437) (by decide +kernel), List.mem_of_getElem? (i := 622) (by decide +kernel), List.mem_of_getElem? (i := 623) (by decide +kernel)⟩
theorem lw_p41 : lw_okq (⟨"ReplicaDocumentModel", "ahead", "(II)Z"⟩, 12) := ⟨⟨by decide +kernel, by decide +kernel⟩, List.mem_of_getElem? (i := 437) (by decide +kernel), List.mem_of_getElem? (i := 626) (by decide +kernel), List.mem_of_getElem? (i := 627) (by decide +kernel)⟩
theorem lw_p42 : lw_okq (⟨"ReplicaDocumentModel", "steps", "(I)I"⟩, 12) := ⟨⟨by decide +kernel, by decide +kernel⟩, List.mem_of_getElem? (i := 437) (by decide +kernel), List.mem_of_getElem? (i := 630) (by decide +kernel), List.mem_of_getElem? (i := 631) (by decide +kernel)⟩
theorem lw_p43 : lw_okq (⟨"ReplicaDocumentModel", "up", "(II)I"⟩, 12) := ⟨⟨by decide +kernel, by decide +kernel⟩, List.mem_of_getElem? (i := 437) (by decide +kernel), List.mem_of_getElem? (i := 634) (by decide +kernel), List.mem_of_getElem? (i := 635) (by decide +kernel)⟩
theorem lw_p44 : lw_okq (⟨"ReplicaDocumentModel", "mapTotal", "(I)I"⟩, 12) := ⟨⟨by decide +kernel, by decide +kernel⟩, List.mem_of_getElem? (i := 437) (by decide +kernel), List.mem_of_getElem? (i := 646) (by decide +kernel), List.mem_of_getElem? (i := 647) (by decide +kernel)⟩
theorem lw_p45 : lw_okq (⟨"ReplicaDocumentModel", "listTotal", "(I)I"⟩, 12) := ⟨⟨by decide +kernel, by decide +kernel⟩, List.mem_of_getElem? (i := 437) (by decide +kernel), List.mem_of_getElem? (i := 650) (by decide +kernel), List.mem_of_getElem? (i := 651) (by decide +kernel)⟩
def lw_privs_3 : List (MethodName × Nat) := [(⟨"ReplicaDocumentModel", "sameAsLine", "(I)Z"⟩, 12), (⟨"ReplicaDocumentModel", "says", "(I)Z"⟩, 12), (⟨"ReplicaDocumentModel", "alike", "(II)Z"⟩, 12), (⟨"ReplicaDocumentModel", "isKind", "(II)Z"⟩, 12), (⟨"ReplicaDocumentModel", "entryPlace", "(III)I"⟩, 12), (⟨"ReplicaDocumentModel", "isEntry", "(I)Z"⟩, 12), (⟨"ReplicaDocumentModel", "elementPlace", "(II)I"⟩, 12), (⟨"ReplicaDocumentModel", "isElement", "(II)Z"⟩, 12), (⟨"ReplicaDocumentModel", "gone", "(I)Z"⟩, 12), (⟨"ReplicaDocumentModel", "ahead", "(II)Z"⟩, 12), (⟨"ReplicaDocumentModel", "steps", "(I)I"⟩, 12), (⟨"ReplicaDocumentModel", "up", "(II)I"⟩, 12), (⟨"ReplicaDocumentModel", "mapTotal", "(I)I"⟩, 12), (⟨"ReplicaDocumentModel", "listTotal", "(I)I"⟩, 12)]
theorem lw_r3 : ∀ q ∈ lw_privs_3, lw_okq q := List.forall_mem_cons.mpr ⟨lw_p32, List.forall_mem_cons.mpr ⟨lw_p33, List.forall_mem_cons.mpr ⟨lw_p34, List.forall_mem_cons.mpr ⟨lw_p35, List.forall_mem_cons.mpr ⟨lw_p36, List.forall_mem_cons.mpr ⟨lw_p37, List.forall_mem_cons.mpr ⟨lw_p38, List.forall_mem_cons.mpr ⟨lw_p39, List.forall_mem_cons.mpr ⟨lw_p40, List.forall_mem_cons.mpr ⟨lw_p41, List.forall_mem_cons.mpr ⟨lw_p42, List.forall_mem_cons.mpr ⟨lw_p43, List.forall_mem_cons.mpr ⟨lw_p44, List.forall_mem_cons.mpr ⟨lw_p45, fun _ h => absurd h List.not_mem_nil⟩⟩⟩⟩⟩⟩⟩⟩⟩⟩⟩⟩⟩⟩
def lw_privs : List (MethodName × Nat) := lw_privs_1 ++ (lw_privs_2 ++ (lw_privs_3))
def lw_tbl : List Cond := k2_sels lw_privs ++ tables_1
theorem lw_privs_ok : ∀ q ∈ lw_privs, lw_okq q := by
  show ∀ q ∈ lw_privs_1 ++ (lw_privs_2 ++ (lw_privs_3)), lw_okq q
  exact List.forall_mem_append.mpr ⟨lw_r1, List.forall_mem_append.mpr ⟨lw_r2, lw_r3⟩⟩
end
section
/-! own names: fields, words -/
def mCop : String := "ReplicaDocument$Operation"
def mCre : String := "ReplicaDocument$Replica"
abbrev mIop : Nat := 1
abbrev mIre : Nat := 3
def mT0 : u_T := fun k => match k with
  | 0 => ("ReplicaDocument", "replicas", "[LReplicaDocument$Replica;", true)
  | 1 => ("ReplicaDocument", "contents", "LReplicaDocument$Contents;", true)
  | 2 => ("ReplicaDocument", "line", "LReplicaDocument$Wire;", true)
  | _ => ("ReplicaDocument", "draft", "LReplicaDocument$Operation;", true)
def mY0 : Nat → FieldType := fun k => match k with
  | 0 => .array (.object "ReplicaDocument$Replica")
  | 1 => .object "ReplicaDocument$Contents"
  | 2 => .object "ReplicaDocument$Wire"
  | _ => .object "ReplicaDocument$Operation"
def mT1 : u_T := fun k => match k with
  | 0 => ("ReplicaDocument$Operation", "before", "[I", true)
  | 1 => ("ReplicaDocument$Operation", "beforeCount", "I", false)
  | 2 => ("ReplicaDocument$Operation", "id", "I", false)
  | 3 => ("ReplicaDocument$Operation", "kind", "I", false)
  | 4 => ("ReplicaDocument$Operation", "target", "I", false)
  | 5 => ("ReplicaDocument$Operation", "slot", "I", false)
  | _ => ("ReplicaDocument$Operation", "value", "I", false)
def mY1 : Nat → FieldType := fun k => match k with
  | 0 => .array .int
  | 1 => .int
  | 2 => .int
  | 3 => .int
  | 4 => .int
  | 5 => .int
  | _ => .int
def mT2 : u_T := fun k => match k with
  | 0 => ("ReplicaDocument$Wire", "bytes", "[I", true)
  | _ => ("ReplicaDocument$Wire", "length", "I", false)
def mY2 : Nat → FieldType := fun k => match k with
  | 0 => .array .int
  | _ => .int
def mT3 : u_T := fun k => match k with
  | 0 => ("ReplicaDocument$Replica", "number", "I", true)
  | 1 => ("ReplicaDocument$Replica", "operations", "[LReplicaDocument$Operation;", true)
  | 2 => ("ReplicaDocument$Replica", "pasts", "[I", true)
  | 3 => ("ReplicaDocument$Replica", "fitting", "[Z", true)
  | 4 => ("ReplicaDocument$Replica", "byId", "[I", true)
  | 5 => ("ReplicaDocument$Replica", "appliedCount", "I", false)
  | _ => ("ReplicaDocument$Replica", "heldCount", "I", false)
def mY3 : Nat → FieldType := fun k => match k with
  | 0 => .int
  | 1 => .array (.object "ReplicaDocument$Operation")
  | 2 => .array .int
  | 3 => .array .boolean
  | 4 => .array .int
  | 5 => .int
  | _ => .int
def mT4 : u_T := fun k => match k with
  | 0 => ("ReplicaDocument$Contents", "arranged", "[I", true)
  | _ => ("ReplicaDocument$Contents", "sums", "[I", true)
def mY4 : Nat → FieldType := fun k => match k with
  | 0 => .array .int
  | _ => .array .int
def mT5 : u_T := fun k => match k with
  | 0 => ("ReplicaDocumentModel", "bytes", "[I", false)
  | 1 => ("ReplicaDocumentModel", "holds", "[I", false)
  | 2 => ("ReplicaDocumentModel", "applied", "[Z", false)
  | 3 => ("ReplicaDocumentModel", "order", "[I", false)
  | 4 => ("ReplicaDocumentModel", "logged", "[I", false)
  | 5 => ("ReplicaDocumentModel", "line", "[I", false)
  | 6 => ("ReplicaDocumentModel", "many", "I", false)
  | 7 => ("ReplicaDocumentModel", "me", "I", false)
  | 8 => ("ReplicaDocumentModel", "fit", "[Z", false)
  | 9 => ("ReplicaDocumentModel", "pasts", "[I", false)
  | 10 => ("ReplicaDocumentModel", "totals", "[I", false)
  | _ => ("ReplicaDocumentModel", "fresh", "[I", false)
def mY5 : Nat → FieldType := fun k => match k with
  | 0 => .array .int
  | 1 => .array .int
  | 2 => .array .boolean
  | 3 => .array .int
  | 4 => .array .int
  | 5 => .array .int
  | 6 => .int
  | 7 => .int
  | 8 => .array .boolean
  | 9 => .array .int
  | 10 => .array .int
  | _ => .array .int
abbrev mCls : List vw_C := [("ReplicaDocument", mT0, 4), ("ReplicaDocument$Operation", mT1, 7), ("ReplicaDocument$Wire", mT2, 2), ("ReplicaDocument$Replica", mT3, 7), ("ReplicaDocument$Contents", mT4, 2), ("ReplicaDocumentModel", mT5, 12)]
def mFT (c : Nat) : Nat → FieldType := match c with
  | 0 => mY0
  | 1 => mY1
  | 2 => mY2
  | 3 => mY3
  | 4 => mY4
  | _ => mY5
def mWd : List Cond := lw_tbl.filter goodWord
theorem mWd_good : ∀ w ∈ mWd, goodWord w = true := fun w h => (List.mem_filter.mp h).2
theorem mWd_tbl : ∀ w ∈ mWd, w ∈ lw_tbl := fun w h => (List.mem_filter.mp h).1
theorem tw_p {w : Cond} (i : Nat) (h : (k2_sels lw_privs)[i]? = some w) (g : goodWord w = true) : w ∈ mWd := List.mem_filter.mpr ⟨List.mem_append_left _ (List.mem_of_getElem? h), g⟩
theorem tw_1 {w : Cond} (i : Nat) (h : tables_1_1[i]? = some w) (g : goodWord w = true) : w ∈ mWd := List.mem_filter.mpr ⟨List.mem_append_right _ (List.mem_append_left _ (List.mem_of_getElem? h)), g⟩
theorem tw_2 {w : Cond} (i : Nat) (h : tables_1_2[i]? = some w) (g : goodWord w = true) : w ∈ mWd := List.mem_filter.mpr ⟨List.mem_append_right _ (List.mem_append_right _ (List.mem_append_left _ (List.mem_of_getElem? h))), g⟩
theorem tw_3 {w : Cond} (i : Nat) (h : tables_1_3[i]? = some w) (g : goodWord w = true) : w ∈ mWd := List.mem_filter.mpr ⟨List.mem_append_right _ (List.mem_append_right _ (List.mem_append_right _ (List.mem_of_getElem? h))), g⟩
def mNw : List (String × Nat × MethodName × String) := [("ReplicaDocument$Operation", 52, ⟨"ReplicaDocument","isId","(I)Z"⟩, "ReplicaDocument"), ("ReplicaDocument$Operation", 55, ⟨"ReplicaDocument","isKey","(I)Z"⟩, "ReplicaDocument"), ("ReplicaDocument$Wire", 58, ⟨"ReplicaDocument","isId","(I)Z"⟩, "ReplicaDocument")]
theorem mNw_tbl : ∀ q ∈ mNw, Cond.methodLinkNest q.1 q.2.1 q.2.2.1 q.2.2.2 ∈ lw_tbl := by decide +kernel
theorem mIn0 : ∀ w ∈ u_ws "ReplicaDocument" mT0 4, w ∈ lw_tbl := by decide +kernel
theorem mGd0 : ∀ w ∈ u_ws "ReplicaDocument" mT0 4, goodWord w = true := by decide +kernel
theorem mPf0 : ∀ k, k < 4 → parseFieldDescriptor (mT0 k).2.2.1 = some (mY0 k) := by decide +kernel
theorem mNm0 : ∀ a, a < 4 → ∀ b, b < 4 → a ≠ b → (mT0 a).2.1 ≠ (mT0 b).2.1 := by decide +kernel
theorem mRf0 : ∀ k, k < 4 → mY0 k = .int ∨ (mY0 k).isReference = true := by decide +kernel
theorem mIn1 : ∀ w ∈ u_ws "ReplicaDocument$Operation" mT1 7, w ∈ lw_tbl := by decide +kernel
theorem mGd1 : ∀ w ∈ u_ws "ReplicaDocument$Operation" mT1 7, goodWord w = true := by decide +kernel
theorem mPf1 : ∀ k, k < 7 → parseFieldDescriptor (mT1 k).2.2.1 = some (mY1 k) := by decide +kernel
theorem mNm1 : ∀ a, a < 7 → ∀ b, b < 7 → a ≠ b → (mT1 a).2.1 ≠ (mT1 b).2.1 := by decide +kernel
theorem mRf1 : ∀ k, k < 7 → mY1 k = .int ∨ (mY1 k).isReference = true := by decide +kernel
theorem mIn2 : ∀ w ∈ u_ws "ReplicaDocument$Wire" mT2 2, w ∈ lw_tbl := by decide +kernel
theorem mGd2 : ∀ w ∈ u_ws "ReplicaDocument$Wire" mT2 2, goodWord w = true := by decide +kernel
theorem mPf2 : ∀ k, k < 2 → parseFieldDescriptor (mT2 k).2.2.1 = some (mY2 k) := by decide +kernel
theorem mNm2 : ∀ a, a < 2 → ∀ b, b < 2 → a ≠ b → (mT2 a).2.1 ≠ (mT2 b).2.1 := by decide +kernel
theorem mRf2 : ∀ k, k < 2 → mY2 k = .int ∨ (mY2 k).isReference = true := by decide +kernel
theorem mIn3 : ∀ w ∈ u_ws "ReplicaDocument$Replica" mT3 7, w ∈ lw_tbl := by decide +kernel
theorem mGd3 : ∀ w ∈ u_ws "ReplicaDocument$Replica" mT3 7, goodWord w = true := by decide +kernel
theorem mPf3 : ∀ k, k < 7 → parseFieldDescriptor (mT3 k).2.2.1 = some (mY3 k) := by decide +kernel
theorem mNm3 : ∀ a, a < 7 → ∀ b, b < 7 → a ≠ b → (mT3 a).2.1 ≠ (mT3 b).2.1 := by decide +kernel
theorem mRf3 : ∀ k, k < 7 → mY3 k = .int ∨ (mY3 k).isReference = true := by decide +kernel
theorem mIn4 : ∀ w ∈ u_ws "ReplicaDocument$Contents" mT4 2, w ∈ lw_tbl := by decide +kernel
theorem mGd4 : ∀ w ∈ u_ws "ReplicaDocument$Contents" mT4 2, goodWord w = true := by decide +kernel
theorem mPf4 : ∀ k, k < 2 → parseFieldDescriptor (mT4 k).2.2.1 = some (mY4 k) := by decide +kernel
theorem mNm4 : ∀ a, a < 2 → ∀ b, b < 2 → a ≠ b → (mT4 a).2.1 ≠ (mT4 b).2.1 := by decide +kernel
theorem mRf4 : ∀ k, k < 2 → mY4 k = .int ∨ (mY4 k).isReference = true := by decide +kernel
theorem mIn5 : ∀ w ∈ u_ws "ReplicaDocumentModel" mT5 12, w ∈ lw_tbl := by decide +kernel
theorem mGd5 : ∀ w ∈ u_ws "ReplicaDocumentModel" mT5 12, goodWord w = true := by decide +kernel
theorem mPf5 : ∀ k, k < 12 → parseFieldDescriptor (mT5 k).2.2.1 = some (mY5 k) := by decide +kernel
theorem mNm5 : ∀ a, a < 12 → ∀ b, b < 12 → a ≠ b → (mT5 a).2.1 ≠ (mT5 b).2.1 := by decide +kernel
theorem mRf5 : ∀ k, k < 12 → mY5 k = .int ∨ (mY5 k).isReference = true := by decide +kernel
theorem mClsOk : ∀ (c : Nat) (q : vw_C), mCls[c]? = some q → (∀ w ∈ u_ws q.1 q.2.1 q.2.2, w ∈ mWd) ∧ (∀ k, k < q.2.2 → parseFieldDescriptor (q.2.1 k).2.2.1 = some (mFT c k)) ∧ (∀ a, a < q.2.2 → ∀ b, b < q.2.2 → a ≠ b → (q.2.1 a).2.1 ≠ (q.2.1 b).2.1) ∧ ∀ k, k < q.2.2 → mFT c k = .int ∨ (mFT c k).isReference = true := by
  intro c q hq
  match c, hq with
  | 0, hq => cases hq; exact ⟨fun w h => List.mem_filter.mpr ⟨mIn0 w h, mGd0 w h⟩, mPf0, mNm0, mRf0⟩
  | 1, hq => cases hq; exact ⟨fun w h => List.mem_filter.mpr ⟨mIn1 w h, mGd1 w h⟩, mPf1, mNm1, mRf1⟩
  | 2, hq => cases hq; exact ⟨fun w h => List.mem_filter.mpr ⟨mIn2 w h, mGd2 w h⟩, mPf2, mNm2, mRf2⟩
  | 3, hq => cases hq; exact ⟨fun w h => List.mem_filter.mpr ⟨mIn3 w h, mGd3 w h⟩, mPf3, mNm3, mRf3⟩
  | 4, hq => cases hq; exact ⟨fun w h => List.mem_filter.mpr ⟨mIn4 w h, mGd4 w h⟩, mPf4, mNm4, mRf4⟩
  | 5, hq => cases hq; exact ⟨fun w h => List.mem_filter.mpr ⟨mIn5 w h, mGd5 w h⟩, mPf5, mNm5, mRf5⟩
  | c + 6, hq => simp at hq
theorem mIop_ok : ∃ q : vw_C, mCls[mIop]? = some q ∧ q.1 = mCop := ⟨_, rfl, rfl⟩
theorem mIre_ok : ∃ q : vw_C, mCls[mIre]? = some q ∧ q.1 = mCre := ⟨_, rfl, rfl⟩
theorem mIop_lt : mIop < 19 := by decide
theorem mIre_lt : mIre < 19 := by decide
end
section
/-! THE MEMORY: tags, lengths, ints, pointers, the heap's size -/
abbrev mW : Type := (Nat → Nat) × (Nat → Nat) × (Nat → Nat → Int32) × (Nat → Nat → Nat) × Nat
def mT (w : mW) (a : Nat) : Nat := w.1 a
def mL (w : mW) (a : Nat) : Nat := w.2.1 a
def mI (w : mW) (a : Nat) : Nat → Int32 := w.2.2.1 a
def mP (w : mW) (a : Nat) : Nat → Nat := w.2.2.2.1 a
def mZ (w : mW) : Nat := w.2.2.2.2
def wrI (w : mW) (a k : Nat) (v : Int32) : mW := (w.1, w.2.1, fun b j => if b = a ∧ j = k then v else w.2.2.1 b j, w.2.2.2.1, w.2.2.2.2)
def wrP (w : mW) (a k : Nat) (v : Nat) : mW := (w.1, w.2.1, w.2.2.1, fun b j => if b = a ∧ j = k then v else w.2.2.2.1 b j, w.2.2.2.2)
def wrN (w : mW) (t n : Nat) : mW := (fun b => if b = w.2.2.2.2 then t else w.1 b, fun b => if b = w.2.2.2.2 then n else w.2.1 b, fun b j => if b = w.2.2.2.2 then 0 else w.2.2.1 b j, fun b j => if b = w.2.2.2.2 then 0 else w.2.2.2.1 b j, w.2.2.2.2 + 1)
def wrC (w : mW) (x sp y dp n : Nat) : mW := (w.1, w.2.1, fun b j => if b = y ∧ dp ≤ j ∧ j < dp + n then w.2.2.1 x (sp + (j - dp)) else w.2.2.1 b j, w.2.2.2.1, w.2.2.2.2)
section MEM
variable (w : mW) (a k b j t n x sp y dp v : Nat) (z : Int32)
theorem mT_wrI : mT (wrI w a k z) b = mT w b := rfl
theorem mL_wrI : mL (wrI w a k z) b = mL w b := rfl
theorem mP_wrI : mP (wrI w a k z) b j = mP w b j := rfl
theorem mZ_wrI : mZ (wrI w a k z) = mZ w := rfl
theorem mI_wrI : mI (wrI w a k z) b j = if b = a ∧ j = k then z else mI w b j := rfl
theorem mT_wrP : mT (wrP w a k v) b = mT w b := rfl
theorem mL_wrP : mL (wrP w a k v) b = mL w b := rfl
theorem mI_wrP : mI (wrP w a k v) b j = mI w b j := rfl
theorem mZ_wrP : mZ (wrP w a k v) = mZ w := rfl
theorem mP_wrP : mP (wrP w a k v) b j = if b = a ∧ j = k then v else mP w b j := rfl
theorem mT_wrN : mT (wrN w t n) b = if b = mZ w then t else mT w b := rfl
theorem mL_wrN : mL (wrN w t n) b = if b = mZ w then n else mL w b := rfl
theorem mI_wrN : mI (wrN w t n) b j = if b = mZ w then 0 else mI w b j := rfl
theorem mP_wrN : mP (wrN w t n) b j = if b = mZ w then 0 else mP w b j := rfl
theorem mZ_wrN : mZ (wrN w t n) = mZ w + 1 := rfl
theorem mT_wrC : mT (wrC w x sp y dp n) b = mT w b := rfl
theorem mL_wrC : mL (wrC w x sp y dp n) b = mL w b := rfl
theorem mP_wrC : mP (wrC w x sp y dp n) b j = mP w b j := rfl
theorem mZ_wrC : mZ (wrC w x sp y dp n) = mZ w := rfl
theorem mI_wrC : mI (wrC w x sp y dp n) b j = if b = y ∧ dp ≤ j ∧ j < dp + n then mI w x (sp + (j - dp)) else mI w b j := rfl
end MEM
def mR (p : Nat) : Value := if p = 0 then .null else .ref p
def mV (ty : FieldType) (i : Int32) (p : Nat) : Value := match ty with
  | .int => .int i
  | _ => mR p
theorem mR_ref {p : Nat} (h : p ≠ 0) : mR p = .ref p := by simp [mR, h]
theorem mV_int (i : Int32) (p : Nat) : mV .int i p = .int i := rfl
theorem mV_ref {ty : FieldType} (h : ty.isReference = true) (i : Int32) (p : Nat) : mV ty i p = mR p := by
  cases ty <;> first | rfl | exact absurd h (by decide)
theorem mV_def {ty : FieldType} (h : ty = .int ∨ ty.isReference = true) : defaultValue ty = mV ty 0 0 := by
  cases ty <;> first | rfl | (rcases h with h | h <;> first | cases h | exact absurd h (by decide))
/-! what lies at an address -/
def mCl (D : va_G) (E : Nat → ClassId) (t n : Nat) (i : Nat → Int32) (p : Nat → Nat) (a : Nat) (H : Heap) : Prop :=
  (t < 20 → ∃ r : vw_C, mCls[t - 1]? = some r ∧ t_OB a (D.1 (t - 1)) r.2.2 (D.2 (t - 1)) H (fun k => mV (mFT (t - 1) k) (i k) (p k))) ∧
  (t = 20 → H[a]? = some (arrV (E 0) n (fun j => .int (i j)))) ∧
  (t = 21 → H[a]? = some (arrV (E 1) n (fun j => .int (i j)))) ∧
  (t = 22 → H[a]? = some (arrV (E 2) n (fun j => mR (p j)))) ∧
  (t = 23 → H[a]? = some (arrV (E 3) n (fun j => mR (p j))))
theorem mCl.kept {D : va_G} {E : Nat → ClassId} {t n : Nat} {i : Nat → Int32} {p : Nat → Nat} {a : Nat} {H H1 : Heap} (h : mCl D E t n i p a H) (hq : H1[a]? = H[a]?) : mCl D E t n i p a H1 := by
  obtain ⟨h1, h2, h3, h4, h5⟩ := h
  refine ⟨fun e => ?_, fun e => hq.trans (h2 e), fun e => hq.trans (h3 e), fun e => hq.trans (h4 e), fun e => hq.trans (h5 e)⟩
  obtain ⟨r, q1, q2⟩ := h1 e
  exact ⟨r, q1, q2.kept hq⟩
def mRep (lo : Nat) (D : va_G) (E : Nat → ClassId) (s : State) (w : mW) (H : Heap) : Prop :=
  0 < lo ∧ H.size = mZ w ∧ lo ≤ mZ w ∧ (∀ a, mT w a ≠ 0 → mT w a ≠ 30 → lo ≤ a ∧ a < mZ w ∧ mCl D E (mT w a) (mL w a) (mI w a) (mP w a) a H) ∧ ∀ a, mT w a = 30 → a < lo ∧ va_X a (mL w a) (mI w a) s H
theorem mRep.moved {lo : Nat} {D : va_G} {E : Nat → ClassId} {s t : State} {w : mW} {H : Heap} (hvm : s.vm.Alike t.vm) (h : mRep lo D E s w H) : mRep lo D E t w H :=
  ⟨h.1, h.2.1, h.2.2.1, h.2.2.2.1, fun a ha => ⟨(h.2.2.2.2 a ha).1, (h.2.2.2.2 a ha).2.moved hvm⟩⟩
theorem mRep.put {lo : Nat} {D : va_G} {E : Nat → ClassId} {s : State} {w w1 : mW} {H H1 : Heap} {a : Nat} (h : mRep lo D E s w H) (hz : H1.size = H.size) (ho : ∀ q : Nat, q ≠ a → H1[q]? = H[q]?) (hlo : lo ≤ a)
    (hT : ∀ q, mT w1 q = mT w q) (hL : ∀ q, mL w1 q = mL w q) (hZ : mZ w1 = mZ w) (hI : ∀ q, q ≠ a → mI w1 q = mI w q) (hP : ∀ q, q ≠ a → mP w1 q = mP w q) (hc : mCl D E (mT w a) (mL w a) (mI w1 a) (mP w1 a) a H1) : mRep lo D E s w1 H1 := by
  obtain ⟨h0, h1, h2, h3, h4⟩ := h
  refine ⟨h0, by rw [hz, h1, hZ], by rw [hZ]; exact h2, fun q q1 q2 => ?_, fun q q1 => ?_⟩
  · rw [hT] at q1 q2
    obtain ⟨g1, g2, g3⟩ := h3 q q1 q2
    refine ⟨g1, by rw [hZ]; exact g2, ?_⟩
    by_cases e : q = a
    · subst e
      rw [hT, hL]
      exact hc
    · rw [hT, hL, hI q e, hP q e]
      exact g3.kept (ho q e)
  · rw [hT] at q1
    obtain ⟨g1, g2⟩ := h4 q q1
    have e : q ≠ a := by omega
    rw [hL, hI q e]
    exact ⟨g1, g2.kept (ho q e)⟩
theorem mRep.new {lo : Nat} {D : va_G} {E : Nat → ClassId} {s : State} {w : mW} {H H1 : Heap} {t n : Nat} (h : mRep lo D E s w H) (hz : H1.size = H.size + 1) (ho : ∀ q : Nat, q < H.size → H1[q]? = H[q]?) (ht : t ≠ 30)
    (hc : mCl D E t n (fun _ => 0) (fun _ => 0) (mZ w) H1) : mRep lo D E s (wrN w t n) H1 := by
  obtain ⟨h0, h1, h2, h3, h4⟩ := h
  refine ⟨h0, by rw [hz, h1]; rfl, by rw [mZ_wrN]; omega, fun q q1 q2 => ?_, fun q q1 => ?_⟩
  · by_cases e : q = mZ w
    · subst e
      refine ⟨h2, by rw [mZ_wrN]; omega, ?_⟩
      have e1 : mT (wrN w t n) (mZ w) = t := by rw [mT_wrN, if_pos rfl]
      have e2 : mL (wrN w t n) (mZ w) = n := by rw [mL_wrN, if_pos rfl]
      have e3 : mI (wrN w t n) (mZ w) = fun _ => 0 := by funext j; rw [mI_wrN, if_pos rfl]
      have e4 : mP (wrN w t n) (mZ w) = fun _ => 0 := by funext j; rw [mP_wrN, if_pos rfl]
      rw [e1, e2, e3, e4]
      exact hc
    · have e1 : mT (wrN w t n) q = mT w q := by rw [mT_wrN, if_neg e]
      have e2 : mL (wrN w t n) q = mL w q := by rw [mL_wrN, if_neg e]
      have e3 : mI (wrN w t n) q = mI w q := by funext j; rw [mI_wrN, if_neg e]
      have e4 : mP (wrN w t n) q = mP w q := by funext j; rw [mP_wrN, if_neg e]
      rw [e1] at q1 q2
      obtain ⟨g1, g2, g3⟩ := h3 q q1 q2
      refine ⟨g1, by rw [mZ_wrN]; omega, ?_⟩
      rw [e1, e2, e3, e4]
      exact g3.kept (ho q (by omega))
  · by_cases e : q = mZ w
    · subst e
      rw [mT_wrN, if_pos rfl] at q1
      exact absurd q1 ht
    · have e1 : mT (wrN w t n) q = mT w q := by rw [mT_wrN, if_neg e]
      have e2 : mL (wrN w t n) q = mL w q := by rw [mL_wrN, if_neg e]
      have e3 : mI (wrN w t n) q = mI w q := by funext j; rw [mI_wrN, if_neg e]
      rw [e1] at q1
      obtain ⟨g1, g2⟩ := h4 q q1
      rw [e2, e3]
      exact ⟨g1, g2.kept (ho q (by omega))⟩
/-! locals -/
abbrev vI (x : Int32) : Option Value := some (.int x)
abbrev vR (x : Nat) : Option Value := some (.ref x)
abbrev vN : Option Value := none
def mLv (ls : Array Slot) (nL : Nat) (lv : List (Option Value)) : Prop := ls.size = nL ∧ lv_wf ls ∧ ∀ (i : Nat) (v : Value), lv[i]? = some (some v) → ls[i]? = some (.val v) ∧ v.category = 1
theorem mLv_store {ls : Array Slot} {nL i : Nat} {lv : List (Option Value)} {v : Value} (h : mLv ls nL lv) (hc : v.category = 1) :
    ∃ l, lv_has ls nL l ∧ ∀ ls', lv_has ls' nL ((i, v) :: l.filter (fun q => !(q.1 == i) && !(q.1 + 1 == i && q.2.category == 2))) → mLv ls' nL (lv.set i (some v)) := by
  obtain ⟨h1, h2, h3⟩ := h
  refine ⟨(List.range lv.length).filterMap (fun j => (lv[j]?.join).map (fun x => (j, x))), ⟨h1, h2, fun q hq => ?_⟩, fun ls' h' => ⟨h'.1, h'.2.1, fun j x hj => ?_⟩⟩
  · obtain ⟨j, -, hj⟩ := List.mem_filterMap.mp hq
    cases hx : lv[j]? with
    | none => rw [hx] at hj; cases hj
    | some o =>
      rw [hx] at hj
      cases o with
      | none => cases hj
      | some x =>
        cases hj
        exact (h3 j x hx).1
  · by_cases e : j = i
    · subst e
      by_cases hlt : j < lv.length
      · rw [List.getElem?_set_self hlt] at hj
        cases hj
        exact ⟨h'.2.2 (j, v) List.mem_cons_self, hc⟩
      · rw [List.getElem?_eq_none (by rw [List.length_set]; omega)] at hj
        cases hj
    · rw [List.getElem?_set_ne (fun q => e q.symm)] at hj
      have hc1 := (h3 j x hj).2
      refine ⟨h'.2.2 (j, x) (List.mem_cons_of_mem _ (List.mem_filter.mpr ⟨List.mem_filterMap.mpr ⟨j, List.mem_range.mpr (List.getElem?_eq_some_iff.mp hj).1, by rw [hj]; rfl⟩, ?_⟩)), hc1⟩
      simp [e, hc1]
theorem mLv_drop {ls : Array Slot} {nL i : Nat} {lv : List (Option Value)} (h : mLv ls nL lv) : mLv ls nL (lv.set i none) := by
  refine ⟨h.1, h.2.1, fun j x hj => ?_⟩
  by_cases e : j = i
  · subst e
    by_cases hlt : j < lv.length
    · rw [List.getElem?_set_self hlt] at hj
      cases hj
    · rw [List.getElem?_eq_none (by rw [List.length_set]; omega)] at hj
      cases hj
  · rw [List.getElem?_set_ne (fun q => e q.symm)] at hj
    exact h.2.2 j x hj
/-! methods: name, code, most locals, answer, cells and slots made -/
abbrev mM : Type := MethodName × ByteArray × Nat × Option FieldType × Nat × Nat
abbrev mM.nm (μ : mM) : MethodName := μ.1
abbrev mM.cd (μ : mM) : ByteArray := μ.2.1
abbrev mM.nL (μ : mM) : Nat := μ.2.2.1
abbrev mM.rt (μ : mM) : Option FieldType := μ.2.2.2.1
abbrev mM.mc (μ : mM) : Nat := μ.2.2.2.2.1
abbrev mM.ms (μ : mM) : Nat := μ.2.2.2.2.2
def mWs (μ : mM) : List Cond := .code μ.1 μ.2.1 μ.2.2.1 μ.2.2.2.1 :: mWd
def mRm (d : Nat) (μ : mM) : Room := { frames := d, cells := μ.2.2.2.2.1, slots := μ.2.2.2.2.2, locals := 38 * d }
def mEnc (ret : Option FieldType) (r : Int32) : Option Value := match ret with
  | none => none
  | some _ => some (.int r)
def mTys (E : Nat → ClassId) : List (ClassId × FieldType) := [(E 0, .int), (E 1, .boolean), (E 2, .object mCop), (E 3, .object mCre)]
def mK (D : va_G) (E : Nat → ClassId) (U : State) : Prop := va_K D mCls (mTys E) U ∧ (va_AO mCop U ∧ va_AO mCre U) ∧ ∀ q ∈ mNw, va_Nw (.methodLinkNest q.1 q.2.1 q.2.2.1 q.2.2.2) U
theorem mK.warm {D : va_G} {E : Nat → ClassId} {s U : State} (hW : s.WarmedH U.vm) (h : mK D E s) : mK D E U :=
  ⟨h.1.moved hW.alike, ⟨h.2.1.1.moved hW.alike, h.2.1.2.moved hW.alike⟩, fun q hq => va_Nw.warmM hW (h.2.2 q hq)⟩
def mPc (D : va_G) (E : Nat → ClassId) (lo : Nat) (as : List Value) (w : mW) : Array Value → State → Prop := fun v U => v = as.toArray ∧ lo ≤ U.heap.size ∧ mK D E U ∧ mRep lo D E U w U.heap
def mQc (D : va_G) (E : Nat → ClassId) (lo : Nat) (ret : Option FieldType) (Q : Int32 → mW → Prop) : Array Value → State → Outcome → State → Prop := fun _ st o t => (∃ (r : Int32) (w : mW), o = .returned (mEnc ret r) ∧ Q r w ∧ mRep lo D E t w t.heap) ∧ va_F (fun q => lo ≤ q) st t
theorem mPc.blind (D : va_G) (E : Nat → ClassId) (lo : Nat) (as : List Value) (w : mW) : FrameBlind (mPc D E lo as w) := by
  intro a U g mk ⟨h1, h2, ⟨h3, ⟨h4, h5⟩, h6⟩, h7⟩
  refine ⟨h1, h2, ⟨va_K.moved (u := U) (U := U.calling g mk a) (Vm.Alike.refl U.vm) h3, ⟨va_AO.moved (u := U) (U := U.calling g mk a) (Vm.Alike.refl U.vm) h4, va_AO.moved (u := U) (U := U.calling g mk a) (Vm.Alike.refl U.vm) h5⟩, fun q hq => va_Nw.same rfl rfl (h6 q hq)⟩, ?_⟩
  exact mRep.moved (s := U) (t := U.calling g mk a) (Vm.Alike.refl U.vm) h7
/-- a call -/
def mC (d : Nat) (μ : mM) (as : List Value) (w : mW) (Q : Int32 → mW → Prop) : Prop :=
  ∃ Q0 : Int32 → mW → Prop, (∀ r w, Q0 r w → Q r w) ∧ ∀ (l : Launch) (D : va_G) (E : Nat → ClassId) (lo : Nat), Met l μ.1 (mWs μ) (mRm d μ) (mPc D E lo as w) (mQc D E lo μ.2.2.2.1 Q0) μ.2.2.2.2.1 μ.2.2.2.2.2 (fun q => lo ≤ q)
theorem mC.mono {d : Nat} {μ : mM} {as : List Value} {w : mW} {Q Q' : Int32 → mW → Prop} (hQ : ∀ r w, Q r w → Q' r w) (h : mC d μ as w Q) : mC d μ as w Q' := by
  obtain ⟨Q0, h0, h1⟩ := h
  exact ⟨Q0, fun r w q => hQ r w (h0 r w q), h1⟩
/-- the machine stands in method μ, at pc -/
def mG (d : Nat) (μ : mM) (b : Nat × Nat) (pc : Nat) (lv : List (Option Value)) (st : List Value) (w : mW) (Q : Int32 → mW → Prop) : Prop :=
  ∀ (l : Launch) (p : Program) (e : Env) (s : State) (m : MethodId) (args : Array Value) (below : List Frame) (meth : Method) (c : Code) (s₁ : State) (D : va_G) (E : Nat → ClassId) (lo : Nat),
    BodyLoose p l μ.1 (headSpec (mWs μ) (mRm d μ)) μ.2.1 μ.2.2.1 μ.2.2.2.1 e s m args below meth c s₁ → c.maxLocals = μ.2.2.1 → mK D E s → lo ≤ s.heap.size →
    ∀ (ls : Array Slot) (H : Heap) (locs : List Loc), mLv ls μ.2.2.1 lv → mRep lo D E s w H → va_S (fun q => lo ≤ q) s.heap H locs →
      W p l e (mRm d μ) s m args below meth c H locs b.1 b.2 (MQ below (mQc D E lo μ.2.2.2.1 Q) args s μ.2.2.2.2.1 μ.2.2.2.2.2 (fun q => lo ≤ q)) (F0 m pc ls st)
theorem mLv_sl (as : List Value) (h : ∀ v ∈ as, v.category = 1) : lg_sl as = as.map Slot.val := by
  induction as with
  | nil => rfl
  | cons x l ih =>
    have hx := h x List.mem_cons_self
    have hi := ih (fun v hv => h v (List.mem_cons_of_mem _ hv))
    show (if x.category = 2 then [Slot.val x, .second] else [.val x]) ++ lg_sl l = _
    rw [if_neg (by omega), hi]
    rfl
theorem mLv_entry (as : List Value) (h : ∀ v ∈ as, v.category = 1) {n : Nat} (hn : as.length ≤ n) : mLv ((lg_sl as ++ List.replicate (n - (lg_sl as).length) Slot.unset).toArray) n (as.map some ++ List.replicate (n - as.length) none) := by
  have e := mLv_sl as h
  have hl := lv_entry as (n := n) (by rw [e, List.length_map]; exact hn)
  refine ⟨hl.1, hl.2.1, fun i v hi => ?_⟩
  by_cases hlen : i < as.length
  case neg =>
    rw [List.getElem?_append_right (by rw [List.length_map]; omega)] at hi
    have hm := List.mem_of_getElem? hi
    have := (List.mem_replicate.mp hm).2
    cases this
  rw [List.getElem?_append_left (by rw [List.length_map]; exact hlen), List.getElem?_map] at hi
  cases hx : as[i]? with
  | none => rw [hx] at hi; cases hi
  | some x =>
    rw [hx] at hi
    cases hi
    have hlt := (List.getElem?_eq_some_iff.mp hx).1
    refine ⟨?_, h _ (List.mem_of_getElem? hx)⟩
    rw [e, List.getElem?_toArray, List.getElem?_append_left (by rw [List.length_map]; exact hlt), List.getElem?_map, hx]
    rfl
theorem mG.call {d : Nat} {μ : mM} {as : List Value} {lv : List (Option Value)} {w : mW} {Q : Int32 → mW → Prop} (hy : plainName μ.1.cls = true) (hc : as.map Value.category = List.replicate as.length 1) (hn : as.length ≤ μ.2.2.1) (hlv : as.map some ++ List.replicate (μ.2.2.1 - as.length) none = lv) (h : mG d μ (0, 0) 0 lv [] w Q) : mC d μ as w Q := by
  have hc' : ∀ v ∈ as, v.category = 1 := by
    intro v hv
    have h1 : v.category ∈ as.map Value.category := List.mem_map.mpr ⟨v, hv, rfl⟩
    rw [hc] at h1
    exact (List.mem_replicate.mp h1).2
  refine ⟨Q, fun _ _ q => q, fun l D E lo => ?_⟩
  refine Met.ofW (cc := μ.2.1) (maxL := μ.2.2.1) (ret := μ.2.2.2.1) hy rfl ?_
  intro p e s m args below meth c s₁ B hml hv
  obtain ⟨rfl, hlo, hK, hR⟩ := hv
  rw [lg_entry_eq]
  exact h l p e s m _ below meth c s₁ D E lo B hml hK hlo _ _ _ (by rw [← hlv]; exact mLv_entry as hc' hn) hR va_S.rf
theorem mIte {c A B A' B' : Prop} [Decidable c] (f : A → A') (g : B → B') (h : if c then A else B) : if c then A' else B' := by
  by_cases hc : c
  · rw [if_pos hc] at h ⊢
    exact f h
  · rw [if_neg hc] at h ⊢
    exact g h
theorem mIteT {c A B : Prop} [Decidable c] (hc : c) (h : A) : if c then A else B := by rw [if_pos hc]; exact h
theorem mIteF {c A B : Prop} [Decidable c] (hc : ¬ c) (h : B) : if c then A else B := by rw [if_neg hc]; exact h
theorem mAnd {A B B' : Prop} (g : B → B') (h : A ∧ B) : A ∧ B' := ⟨h.1, g h.2⟩
section ROWS
variable {d : Nat} {μ : mM} {b : Nat × Nat} {pc : Nat} {lv : List (Option Value)} {st : List Value} {w : mW} {Q : Int32 → mW → Prop}
theorem g_drop (i : Nat) (k : mG d μ b pc (lv.set i none) st w Q) : mG d μ b pc lv st w Q := by
  intro l p e s m args below meth c s₁ D E lo B hml hK hlo ls H locs hl hR hS
  exact k l p e s m args below meth c s₁ D E lo B hml hK hlo ls H locs (mLv_drop hl) hR hS
theorem g_iconst {n : Int} (v : Int32) (hd : decode μ.2.1 pc = .ok (.iconst n, 1)) (hv : Int32.ofInt n = v) (k : mG d μ b (pc + 1) lv (.int v :: st) w Q) : mG d μ b pc lv st w Q := by
  intro l p e s m args below meth c s₁ D E lo B hml hK hlo ls H locs hl hR hS
  exact lv_iconst B.exec B.bytes hd hv (k l p e s m args below meth c s₁ D E lo B hml hK hlo ls H locs hl hR hS)
theorem g_bipush {n : Int} (v : Int32) (hd : decode μ.2.1 pc = .ok (.bipush n, 2)) (hv : (Int8.ofInt n).toInt32 = v) (k : mG d μ b (pc + 2) lv (.int v :: st) w Q) : mG d μ b pc lv st w Q := by
  intro l p e s m args below meth c s₁ D E lo B hml hK hlo ls H locs hl hR hS
  exact lv_bipush B.exec B.bytes hd hv (k l p e s m args below meth c s₁ D E lo B hml hK hlo ls H locs hl hR hS)
theorem g_sipush {n : Int} (v : Int32) (hd : decode μ.2.1 pc = .ok (.sipush n, 3)) (hv : (Int16.ofInt n).toInt32 = v) (k : mG d μ b (pc + 3) lv (.int v :: st) w Q) : mG d μ b pc lv st w Q := by
  intro l p e s m args below meth c s₁ D E lo B hml hK hlo ls H locs hl hR hS
  exact lv_sipush B.exec B.bytes hd hv (k l p e s m args below meth c s₁ D E lo B hml hK hlo ls H locs hl hR hS)
theorem g_iload_n {k4 : Fin 4} {x : Int32} (i : Nat) (hd : decode μ.2.1 pc = .ok (.iload_n k4, 1)) (hi : (k4 : Nat) = i) (hv : lv[i]? = some (some (.int x))) (k : mG d μ b (pc + 1) lv (.int x :: st) w Q) : mG d μ b pc lv st w Q := by
  intro l p e s m args below meth c s₁ D E lo B hml hK hlo ls H locs hl hR hS
  exact lv_iload_n B.exec B.bytes hd hi (hl.2.2 i _ hv).1 (k l p e s m args below meth c s₁ D E lo B hml hK hlo ls H locs hl hR hS)
theorem g_iload {x : Int32} (i : Nat) (hd : decode μ.2.1 pc = .ok (.iload i, 2)) (hv : lv[i]? = some (some (.int x))) (k : mG d μ b (pc + 2) lv (.int x :: st) w Q) : mG d μ b pc lv st w Q := by
  intro l p e s m args below meth c s₁ D E lo B hml hK hlo ls H locs hl hR hS
  exact lv_iload B.exec B.bytes hd (hl.2.2 i _ hv).1 (k l p e s m args below meth c s₁ D E lo B hml hK hlo ls H locs hl hR hS)
theorem g_aload_n {k4 : Fin 4} {x : Nat} (i : Nat) (hd : decode μ.2.1 pc = .ok (.aload_n k4, 1)) (hi : (k4 : Nat) = i) (hv : lv[i]? = some (some (.ref x))) (k : mG d μ b (pc + 1) lv (.ref x :: st) w Q) : mG d μ b pc lv st w Q := by
  intro l p e s m args below meth c s₁ D E lo B hml hK hlo ls H locs hl hR hS
  exact lv_aload_n B.exec B.bytes hd hi (hl.2.2 i _ hv).1 (k l p e s m args below meth c s₁ D E lo B hml hK hlo ls H locs hl hR hS)
theorem g_aload {x : Nat} (i : Nat) (hd : decode μ.2.1 pc = .ok (.aload i, 2)) (hv : lv[i]? = some (some (.ref x))) (k : mG d μ b (pc + 2) lv (.ref x :: st) w Q) : mG d μ b pc lv st w Q := by
  intro l p e s m args below meth c s₁ D E lo B hml hK hlo ls H locs hl hR hS
  exact lv_aload B.exec B.bytes hd (hl.2.2 i _ hv).1 (k l p e s m args below meth c s₁ D E lo B hml hK hlo ls H locs hl hR hS)
theorem g_istore_n {k4 : Fin 4} {x : Int32} (i : Nat) (hd : decode μ.2.1 pc = .ok (.istore_n k4, 1)) (hi : (k4 : Nat) = i) (hn : i < μ.2.2.1) (k : mG d μ b (pc + 1) (lv.set i (some (.int x))) st w Q) : mG d μ b pc lv (.int x :: st) w Q := by
  intro l p e s m args below meth c s₁ D E lo B hml hK hlo ls H locs hl hR hS
  obtain ⟨l0, h1, h2⟩ := mLv_store (i := i) (v := .int x) hl rfl
  exact lv_istore_n B.exec B.bytes hd hi h1 hn rfl (fun ls' h' => k l p e s m args below meth c s₁ D E lo B hml hK hlo ls' H locs (h2 ls' h') hR hS)
theorem g_istore {x : Int32} (i : Nat) (hd : decode μ.2.1 pc = .ok (.istore i, 2)) (hn : i < μ.2.2.1) (k : mG d μ b (pc + 2) (lv.set i (some (.int x))) st w Q) : mG d μ b pc lv (.int x :: st) w Q := by
  intro l p e s m args below meth c s₁ D E lo B hml hK hlo ls H locs hl hR hS
  obtain ⟨l0, h1, h2⟩ := mLv_store (i := i) (v := .int x) hl rfl
  exact lv_istore B.exec B.bytes hd h1 hn rfl (fun ls' h' => k l p e s m args below meth c s₁ D E lo B hml hK hlo ls' H locs (h2 ls' h') hR hS)
theorem g_astore_n {k4 : Fin 4} {x : Nat} (i : Nat) (hd : decode μ.2.1 pc = .ok (.astore_n k4, 1)) (hi : (k4 : Nat) = i) (hn : i < μ.2.2.1) (k : mG d μ b (pc + 1) (lv.set i (some (.ref x))) st w Q) : mG d μ b pc lv (.ref x :: st) w Q := by
  intro l p e s m args below meth c s₁ D E lo B hml hK hlo ls H locs hl hR hS
  obtain ⟨l0, h1, h2⟩ := mLv_store (i := i) (v := .ref x) hl rfl
  exact lv_astore_n B.exec B.bytes hd hi h1 hn rfl (fun ls' h' => k l p e s m args below meth c s₁ D E lo B hml hK hlo ls' H locs (h2 ls' h') hR hS)
theorem g_astore {x : Nat} (i : Nat) (hd : decode μ.2.1 pc = .ok (.astore i, 2)) (hn : i < μ.2.2.1) (k : mG d μ b (pc + 2) (lv.set i (some (.ref x))) st w Q) : mG d μ b pc lv (.ref x :: st) w Q := by
  intro l p e s m args below meth c s₁ D E lo B hml hK hlo ls H locs hl hR hS
  obtain ⟨l0, h1, h2⟩ := mLv_store (i := i) (v := .ref x) hl rfl
  exact lv_astore B.exec B.bytes hd h1 hn rfl (fun ls' h' => k l p e s m args below meth c s₁ D E lo B hml hK hlo ls' H locs (h2 ls' h') hR hS)
theorem g_iinc {n : Int} {x : Int32} (i : Nat) (v : Int32) (hd : decode μ.2.1 pc = .ok (.iinc i n, 3)) (hv : lv[i]? = some (some (.int x))) (hx : Int32.ofInt n = v) (hn : i < μ.2.2.1) (k : mG d μ b (pc + 3) (lv.set i (some (.int (x + v)))) st w Q) : mG d μ b pc lv st w Q := by
  intro l p e s m args below meth c s₁ D E lo B hml hK hlo ls H locs hl hR hS
  obtain ⟨l0, h1, h2⟩ := mLv_store (i := i) (v := .int (x + v)) hl rfl
  have hx' : x + Int32.ofInt n = x + v := by rw [hx]
  have h0 := (hl.2.2 i _ hv).1
  intro T hT X
  obtain ⟨ls', e', h'⟩ := lv_store1 (v := .int (x + v)) h1 hn rfl
  obtain ⟨t, a1, b1⟩ := k l p e s m args below meth c s₁ D E lo B hml hK hlo ls' H locs (h2 ls' h') hR hS T hT X
  refine ⟨t, ?_, b1⟩
  have hb := B.bytes
  have hexec := B.exec
  rw [← hx'] at e'
  jvm_step X.here [X.here.top, ↓top_set X.here.top, hexec, hb, hd, h0, e']
  exact a1
theorem g_iadd {x y : Int32} (hd : decode μ.2.1 pc = .ok (.iadd, 1)) (k : mG d μ b (pc + 1) lv (.int (x + y) :: st) w Q) : mG d μ b pc lv (.int y :: .int x :: st) w Q := by
  intro l p e s m args below meth c s₁ D E lo B hml hK hlo ls H locs hl hR hS
  exact lv_iadd B.exec B.bytes hd (k l p e s m args below meth c s₁ D E lo B hml hK hlo ls H locs hl hR hS)
theorem g_isub {x y : Int32} (hd : decode μ.2.1 pc = .ok (.isub, 1)) (k : mG d μ b (pc + 1) lv (.int (x - y) :: st) w Q) : mG d μ b pc lv (.int y :: .int x :: st) w Q := by
  intro l p e s m args below meth c s₁ D E lo B hml hK hlo ls H locs hl hR hS
  exact lv_isub B.exec B.bytes hd (k l p e s m args below meth c s₁ D E lo B hml hK hlo ls H locs hl hR hS)
theorem g_imul {x y : Int32} (hd : decode μ.2.1 pc = .ok (.imul, 1)) (k : mG d μ b (pc + 1) lv (.int (x * y) :: st) w Q) : mG d μ b pc lv (.int y :: .int x :: st) w Q := by
  intro l p e s m args below meth c s₁ D E lo B hml hK hlo ls H locs hl hR hS
  exact lv_imul B.exec B.bytes hd (k l p e s m args below meth c s₁ D E lo B hml hK hlo ls H locs hl hR hS)
theorem g_iand {x y : Int32} (hd : decode μ.2.1 pc = .ok (.iand, 1)) (k : mG d μ b (pc + 1) lv (.int (x &&& y) :: st) w Q) : mG d μ b pc lv (.int y :: .int x :: st) w Q := by
  intro l p e s m args below meth c s₁ D E lo B hml hK hlo ls H locs hl hR hS
  exact lv_iand B.exec B.bytes hd (k l p e s m args below meth c s₁ D E lo B hml hK hlo ls H locs hl hR hS)
theorem g_ior {x y : Int32} (hd : decode μ.2.1 pc = .ok (.ior, 1)) (k : mG d μ b (pc + 1) lv (.int (x ||| y) :: st) w Q) : mG d μ b pc lv (.int y :: .int x :: st) w Q := by
  intro l p e s m args below meth c s₁ D E lo B hml hK hlo ls H locs hl hR hS
  exact lv_ior B.exec B.bytes hd (k l p e s m args below meth c s₁ D E lo B hml hK hlo ls H locs hl hR hS)
theorem g_ishl {x y : Int32} (hd : decode μ.2.1 pc = .ok (.ishl, 1)) (k : mG d μ b (pc + 1) lv (.int (x <<< (y &&& 31)) :: st) w Q) : mG d μ b pc lv (.int y :: .int x :: st) w Q := by
  intro l p e s m args below meth c s₁ D E lo B hml hK hlo ls H locs hl hR hS
  exact lv_ishl B.exec B.bytes hd (k l p e s m args below meth c s₁ D E lo B hml hK hlo ls H locs hl hR hS)
theorem g_ishr {x y : Int32} (hd : decode μ.2.1 pc = .ok (.ishr, 1)) (k : mG d μ b (pc + 1) lv (.int (x >>> (y &&& 31)) :: st) w Q) : mG d μ b pc lv (.int y :: .int x :: st) w Q := by
  intro l p e s m args below meth c s₁ D E lo B hml hK hlo ls H locs hl hR hS
  exact lv_ishr B.exec B.bytes hd (k l p e s m args below meth c s₁ D E lo B hml hK hlo ls H locs hl hR hS)
theorem g_idiv {x y : Int32} (hd : decode μ.2.1 pc = .ok (.idiv, 1)) (k : ¬ y = 0 ∧ mG d μ b (pc + 1) lv (.int (x / y) :: st) w Q) : mG d μ b pc lv (.int y :: .int x :: st) w Q := by
  obtain ⟨hne, k⟩ := k
  intro l p e s m args below meth c s₁ D E lo B hml hK hlo ls H locs hl hR hS
  exact lv_idiv B.exec B.bytes hd hne (k l p e s m args below meth c s₁ D E lo B hml hK hlo ls H locs hl hR hS)
theorem g_irem {x y : Int32} (hd : decode μ.2.1 pc = .ok (.irem, 1)) (k : ¬ y = 0 ∧ mG d μ b (pc + 1) lv (.int (x - x / y * y) :: st) w Q) : mG d μ b pc lv (.int y :: .int x :: st) w Q := by
  obtain ⟨hne, k⟩ := k
  intro l p e s m args below meth c s₁ D E lo B hml hK hlo ls H locs hl hR hS
  exact lv_irem B.exec B.bytes hd hne (k l p e s m args below meth c s₁ D E lo B hml hK hlo ls H locs hl hR hS)
theorem g_dup {va : Value} (hd : decode μ.2.1 pc = .ok (.dup, 1)) (hc : va.category = 1) (k : mG d μ b (pc + 1) lv (va :: va :: st) w Q) : mG d μ b pc lv (va :: st) w Q := by
  intro l p e s m args below meth c s₁ D E lo B hml hK hlo ls H locs hl hR hS
  exact lv_dup B.exec B.bytes hd hc (k l p e s m args below meth c s₁ D E lo B hml hK hlo ls H locs hl hR hS)
theorem g_pop {va : Value} (hd : decode μ.2.1 pc = .ok (.pop, 1)) (hc : va.category = 1) (k : mG d μ b (pc + 1) lv st w Q) : mG d μ b pc lv (va :: st) w Q := by
  intro l p e s m args below meth c s₁ D E lo B hml hK hlo ls H locs hl hR hS
  exact lv_pop B.exec B.bytes hd hc (k l p e s m args below meth c s₁ D E lo B hml hK hlo ls H locs hl hR hS)
theorem g_dup2 {va vb : Value} (hd : decode μ.2.1 pc = .ok (.dup2, 1)) (hc : va.category = 1) (hc2 : vb.category = 1) (k : mG d μ b (pc + 1) lv (va :: vb :: va :: vb :: st) w Q) : mG d μ b pc lv (va :: vb :: st) w Q := by
  intro l p e s m args below meth c s₁ D E lo B hml hK hlo ls H locs hl hR hS
  exact lv_dup2_11 B.exec B.bytes hd hc hc2 (k l p e s m args below meth c s₁ D E lo B hml hK hlo ls H locs hl hR hS)
theorem g_goto {off : Int} (tgt : Nat) (hd : decode μ.2.1 pc = .ok (.goto off, 3)) (ht : (pc : Int) + off = (tgt : Int)) (k : mG d μ b tgt lv st w Q) : mG d μ b pc lv st w Q := by
  intro l p e s m args below meth c s₁ D E lo B hml hK hlo ls H locs hl hR hS
  exact lv_goto B.exec B.bytes hd ht (k l p e s m args below meth c s₁ D E lo B hml hK hlo ls H locs hl hR hS)
theorem g_if_eq {x : Int32} {off : Int} (tgt : Nat) (hd : decode μ.2.1 pc = .ok (.ifCond .eq off, 3)) (ht : (pc : Int) + off = (tgt : Int)) (k : if x = 0 then mG d μ b tgt lv st w Q else mG d μ b (pc + 3) lv st w Q) : mG d μ b pc lv (.int x :: st) w Q := by
  intro l p e s m args below meth c s₁ D E lo B hml hK hlo ls H locs hl hR hS
  exact lv_if_eq B.exec B.bytes hd ht (fun q => by rw [if_pos q] at k; exact k l p e s m args below meth c s₁ D E lo B hml hK hlo ls H locs hl hR hS) (fun q => by rw [if_neg q] at k; exact k l p e s m args below meth c s₁ D E lo B hml hK hlo ls H locs hl hR hS)
theorem g_icmp_eq {x y : Int32} {off : Int} (tgt : Nat) (hd : decode μ.2.1 pc = .ok (.if_icmp .eq off, 3)) (ht : (pc : Int) + off = (tgt : Int)) (k : if x = y then mG d μ b tgt lv st w Q else mG d μ b (pc + 3) lv st w Q) : mG d μ b pc lv (.int y :: .int x :: st) w Q := by
  intro l p e s m args below meth c s₁ D E lo B hml hK hlo ls H locs hl hR hS
  exact lv_icmp_eq B.exec B.bytes hd ht (fun q => by rw [if_pos q] at k; exact k l p e s m args below meth c s₁ D E lo B hml hK hlo ls H locs hl hR hS) (fun q => by rw [if_neg q] at k; exact k l p e s m args below meth c s₁ D E lo B hml hK hlo ls H locs hl hR hS)
theorem g_if_ne {x : Int32} {off : Int} (tgt : Nat) (hd : decode μ.2.1 pc = .ok (.ifCond .ne off, 3)) (ht : (pc : Int) + off = (tgt : Int)) (k : if x = 0 then mG d μ b (pc + 3) lv st w Q else mG d μ b tgt lv st w Q) : mG d μ b pc lv (.int x :: st) w Q := by
  intro l p e s m args below meth c s₁ D E lo B hml hK hlo ls H locs hl hR hS
  exact lv_if_ne B.exec B.bytes hd ht (fun q => by rw [if_neg q] at k; exact k l p e s m args below meth c s₁ D E lo B hml hK hlo ls H locs hl hR hS) (fun q => by rw [if_pos q] at k; exact k l p e s m args below meth c s₁ D E lo B hml hK hlo ls H locs hl hR hS)
theorem g_icmp_ne {x y : Int32} {off : Int} (tgt : Nat) (hd : decode μ.2.1 pc = .ok (.if_icmp .ne off, 3)) (ht : (pc : Int) + off = (tgt : Int)) (k : if x = y then mG d μ b (pc + 3) lv st w Q else mG d μ b tgt lv st w Q) : mG d μ b pc lv (.int y :: .int x :: st) w Q := by
  intro l p e s m args below meth c s₁ D E lo B hml hK hlo ls H locs hl hR hS
  exact lv_icmp_ne B.exec B.bytes hd ht (fun q => by rw [if_neg q] at k; exact k l p e s m args below meth c s₁ D E lo B hml hK hlo ls H locs hl hR hS) (fun q => by rw [if_pos q] at k; exact k l p e s m args below meth c s₁ D E lo B hml hK hlo ls H locs hl hR hS)
theorem g_if_lt {x : Int32} {off : Int} (tgt : Nat) (hd : decode μ.2.1 pc = .ok (.ifCond .lt off, 3)) (ht : (pc : Int) + off = (tgt : Int)) (k : if x < 0 then mG d μ b tgt lv st w Q else mG d μ b (pc + 3) lv st w Q) : mG d μ b pc lv (.int x :: st) w Q := by
  intro l p e s m args below meth c s₁ D E lo B hml hK hlo ls H locs hl hR hS
  exact lv_if_lt B.exec B.bytes hd ht (fun q => by rw [if_pos q] at k; exact k l p e s m args below meth c s₁ D E lo B hml hK hlo ls H locs hl hR hS) (fun q => by rw [if_neg q] at k; exact k l p e s m args below meth c s₁ D E lo B hml hK hlo ls H locs hl hR hS)
theorem g_icmp_lt {x y : Int32} {off : Int} (tgt : Nat) (hd : decode μ.2.1 pc = .ok (.if_icmp .lt off, 3)) (ht : (pc : Int) + off = (tgt : Int)) (k : if x < y then mG d μ b tgt lv st w Q else mG d μ b (pc + 3) lv st w Q) : mG d μ b pc lv (.int y :: .int x :: st) w Q := by
  intro l p e s m args below meth c s₁ D E lo B hml hK hlo ls H locs hl hR hS
  exact lv_icmp_lt B.exec B.bytes hd ht (fun q => by rw [if_pos q] at k; exact k l p e s m args below meth c s₁ D E lo B hml hK hlo ls H locs hl hR hS) (fun q => by rw [if_neg q] at k; exact k l p e s m args below meth c s₁ D E lo B hml hK hlo ls H locs hl hR hS)
theorem g_if_ge {x : Int32} {off : Int} (tgt : Nat) (hd : decode μ.2.1 pc = .ok (.ifCond .ge off, 3)) (ht : (pc : Int) + off = (tgt : Int)) (k : if 0 ≤ x then mG d μ b tgt lv st w Q else mG d μ b (pc + 3) lv st w Q) : mG d μ b pc lv (.int x :: st) w Q := by
  intro l p e s m args below meth c s₁ D E lo B hml hK hlo ls H locs hl hR hS
  exact lv_if_ge B.exec B.bytes hd ht (fun q => by rw [if_pos q] at k; exact k l p e s m args below meth c s₁ D E lo B hml hK hlo ls H locs hl hR hS) (fun q => by rw [if_neg q] at k; exact k l p e s m args below meth c s₁ D E lo B hml hK hlo ls H locs hl hR hS)
theorem g_icmp_ge {x y : Int32} {off : Int} (tgt : Nat) (hd : decode μ.2.1 pc = .ok (.if_icmp .ge off, 3)) (ht : (pc : Int) + off = (tgt : Int)) (k : if y ≤ x then mG d μ b tgt lv st w Q else mG d μ b (pc + 3) lv st w Q) : mG d μ b pc lv (.int y :: .int x :: st) w Q := by
  intro l p e s m args below meth c s₁ D E lo B hml hK hlo ls H locs hl hR hS
  exact lv_icmp_ge B.exec B.bytes hd ht (fun q => by rw [if_pos q] at k; exact k l p e s m args below meth c s₁ D E lo B hml hK hlo ls H locs hl hR hS) (fun q => by rw [if_neg q] at k; exact k l p e s m args below meth c s₁ D E lo B hml hK hlo ls H locs hl hR hS)
theorem g_if_gt {x : Int32} {off : Int} (tgt : Nat) (hd : decode μ.2.1 pc = .ok (.ifCond .gt off, 3)) (ht : (pc : Int) + off = (tgt : Int)) (k : if 0 < x then mG d μ b tgt lv st w Q else mG d μ b (pc + 3) lv st w Q) : mG d μ b pc lv (.int x :: st) w Q := by
  intro l p e s m args below meth c s₁ D E lo B hml hK hlo ls H locs hl hR hS
  exact lv_if_gt B.exec B.bytes hd ht (fun q => by rw [if_pos q] at k; exact k l p e s m args below meth c s₁ D E lo B hml hK hlo ls H locs hl hR hS) (fun q => by rw [if_neg q] at k; exact k l p e s m args below meth c s₁ D E lo B hml hK hlo ls H locs hl hR hS)
theorem g_icmp_gt {x y : Int32} {off : Int} (tgt : Nat) (hd : decode μ.2.1 pc = .ok (.if_icmp .gt off, 3)) (ht : (pc : Int) + off = (tgt : Int)) (k : if y < x then mG d μ b tgt lv st w Q else mG d μ b (pc + 3) lv st w Q) : mG d μ b pc lv (.int y :: .int x :: st) w Q := by
  intro l p e s m args below meth c s₁ D E lo B hml hK hlo ls H locs hl hR hS
  exact lv_icmp_gt B.exec B.bytes hd ht (fun q => by rw [if_pos q] at k; exact k l p e s m args below meth c s₁ D E lo B hml hK hlo ls H locs hl hR hS) (fun q => by rw [if_neg q] at k; exact k l p e s m args below meth c s₁ D E lo B hml hK hlo ls H locs hl hR hS)
theorem g_if_le {x : Int32} {off : Int} (tgt : Nat) (hd : decode μ.2.1 pc = .ok (.ifCond .le off, 3)) (ht : (pc : Int) + off = (tgt : Int)) (k : if x ≤ 0 then mG d μ b tgt lv st w Q else mG d μ b (pc + 3) lv st w Q) : mG d μ b pc lv (.int x :: st) w Q := by
  intro l p e s m args below meth c s₁ D E lo B hml hK hlo ls H locs hl hR hS
  exact lv_if_le B.exec B.bytes hd ht (fun q => by rw [if_pos q] at k; exact k l p e s m args below meth c s₁ D E lo B hml hK hlo ls H locs hl hR hS) (fun q => by rw [if_neg q] at k; exact k l p e s m args below meth c s₁ D E lo B hml hK hlo ls H locs hl hR hS)
theorem g_icmp_le {x y : Int32} {off : Int} (tgt : Nat) (hd : decode μ.2.1 pc = .ok (.if_icmp .le off, 3)) (ht : (pc : Int) + off = (tgt : Int)) (k : if x ≤ y then mG d μ b tgt lv st w Q else mG d μ b (pc + 3) lv st w Q) : mG d μ b pc lv (.int y :: .int x :: st) w Q := by
  intro l p e s m args below meth c s₁ D E lo B hml hK hlo ls H locs hl hR hS
  exact lv_icmp_le B.exec B.bytes hd ht (fun q => by rw [if_pos q] at k; exact k l p e s m args below meth c s₁ D E lo B hml hK hlo ls H locs hl hR hS) (fun q => by rw [if_neg q] at k; exact k l p e s m args below meth c s₁ D E lo B hml hK hlo ls H locs hl hR hS)
end ROWS
end
section
/-! links, as the words have them -/
def mLkF (own : String) (idx ci k : Nat) (fin : Bool) : Prop := ∃ q : vw_C, mCls[ci]? = some q ∧ k < q.2.2 ∧ (q.2.1 k).1 = q.1 ∧ (q.2.1 k).2.2.2 = fin ∧ Cond.fieldLink own idx q.1 (q.2.1 k).2.1 (q.2.1 k).2.2.1 ∈ mWd
def mLkN (own : String) (idx ci : Nat) (n : Nat) : Prop := ∃ q : vw_C, mCls[ci]? = some q ∧ q.2.2 = n ∧ Cond.classLink own idx q.1 ∈ mWd ∧ Cond.instantiable q.1 q.2.2 ∈ mWd ∧ Cond.initialized q.1 ∈ mWd
def mLkO (own : String) (idx : Nat) : Prop := Cond.methodLink own idx Lib.objectInit ∈ mWd ∧ Cond.instanceMethod Lib.objectInit ∈ mWd ∧ Cond.code Lib.objectInit ⟨#[0xb1]⟩ 1 none ∈ mWd
def mLkX (own : String) (idx : Nat) : Prop := Cond.methodLink own idx Lib.Math.max.name ∈ mWd ∧ Cond.static Lib.Math.max.name ∈ mWd ∧ Cond.initialized "java/lang/Math" ∈ mWd ∧ Cond.code Lib.Math.max.name Lib.Math.max.code 2 (some .int) ∈ mWd
def mLkA (own : String) (idx : Nat) : Prop := Cond.methodLink own idx arraycopyName ∈ mWd ∧ Cond.native arraycopyName ∈ mWd ∧ Cond.static arraycopyName ∈ mWd ∧ Cond.initialized "java/lang/System" ∈ mWd
def mLkB (μ' : mM) (n : Nat) : Prop := Cond.code μ'.1 μ'.2.1 μ'.2.2.1 μ'.2.2.2.1 ∈ mWd ∧ Cond.initialized μ'.1.cls ∈ mWd ∧ (μ'.1.cls ≠ "java/lang/invoke/MethodHandle" ∧ μ'.1.cls ≠ "java/lang/invoke/VarHandle" ∧ (parseMethodDescriptor μ'.1.desc).map (fun d => d.parameters.length) = some n) ∧ μ'.2.2.1 ≤ 19
def mLkV (own : String) (idx : Nat) (μ' : mM) (ci n : Nat) : Prop := mLkB μ' n ∧ Cond.methodLink own idx μ'.1 ∈ mWd ∧ Cond.instanceMethod μ'.1 ∈ mWd ∧ Cond.selects μ'.1.cls μ'.1 μ'.1 ∈ mWd ∧ ∃ q : vw_C, mCls[ci]? = some q ∧ q.1 = μ'.1.cls
def mLkI (own : String) (idx : Nat) (μ' : mM) (n : Nat) : Prop := mLkB μ' n ∧ Cond.methodLink own idx μ'.1 ∈ mWd ∧ Cond.instanceMethod μ'.1 ∈ mWd ∧ μ'.1.name = "<init>"
def mLkS (own : String) (idx : Nat) (μ' : mM) (n : Nat) : Prop := mLkB μ' n ∧ Cond.methodLink own idx μ'.1 ∈ mWd ∧ Cond.static μ'.1 ∈ mWd
def mLkSN (own : String) (idx : Nat) (μ' : mM) (n : Nat) (host : String) : Prop := mLkB μ' n ∧ (own, idx, μ'.1, host) ∈ mNw ∧ Cond.static μ'.1 ∈ mWd
theorem mGood (μ μ' : mM) (h : Cond.code μ'.1 μ'.2.1 μ'.2.2.1 μ'.2.2.2.1 ∈ mWd) : GoodIn (mWs μ) (mWs μ') := by
  intro x hx
  have h1 : x ∈ mWd := by
    rcases List.mem_cons.mp hx with e | e
    · rw [e]; exact h
    · exact e
  exact ⟨List.mem_cons_of_mem _ h1, good_of_word (mWd_good x h1)⟩
theorem mRep.obj {lo : Nat} {D : va_G} {E : Nat → ClassId} {s : State} {w : mW} {H : Heap} (h : mRep lo D E s w H) {a ci : Nat} (ht : mT w a = ci + 1) (hc : ci < 19) {q : vw_C} (hq : mCls[ci]? = some q) : lo ≤ a ∧ a ≠ 0 ∧ t_OB a (D.1 ci) q.2.2 (D.2 ci) H (fun k => mV (mFT ci k) (mI w a k) (mP w a k)) := by
  obtain ⟨h0, h1, h2, h3, h4⟩ := h
  obtain ⟨g1, g2, g3, -⟩ := h3 a (by omega) (by omega)
  rw [ht] at g3
  obtain ⟨r, e1, e2⟩ := g3 (by omega)
  simp only [Nat.add_sub_cancel] at e1 e2
  cases hq.symm.trans e1
  exact ⟨g1, by omega, e2⟩
theorem mRep.ints {lo : Nat} {D : va_G} {E : Nat → ClassId} {s : State} {w : mW} {H : Heap} (h : mRep lo D E s w H) {a : Nat} (ht : mT w a = 20) : lo ≤ a ∧ H[a]? = some (arrV (E 0) (mL w a) (fun j => .int (mI w a j))) := by
  obtain ⟨g1, g2, g3⟩ := h.2.2.2.1 a (by omega) (by omega)
  exact ⟨g1, g3.2.1 ht⟩
theorem mRep.bools {lo : Nat} {D : va_G} {E : Nat → ClassId} {s : State} {w : mW} {H : Heap} (h : mRep lo D E s w H) {a : Nat} (ht : mT w a = 21) : lo ≤ a ∧ H[a]? = some (arrV (E 1) (mL w a) (fun j => .int (mI w a j))) := by
  obtain ⟨g1, g2, g3⟩ := h.2.2.2.1 a (by omega) (by omega)
  exact ⟨g1, g3.2.2.1 ht⟩
theorem mRep.refs2 {lo : Nat} {D : va_G} {E : Nat → ClassId} {s : State} {w : mW} {H : Heap} (h : mRep lo D E s w H) {a : Nat} (ht : mT w a = 22) : lo ≤ a ∧ H[a]? = some (arrV (E 2) (mL w a) (fun j => mR (mP w a j))) := by
  obtain ⟨g1, g2, g3⟩ := h.2.2.2.1 a (by omega) (by omega)
  exact ⟨g1, g3.2.2.2.1 ht⟩
theorem mRep.refs3 {lo : Nat} {D : va_G} {E : Nat → ClassId} {s : State} {w : mW} {H : Heap} (h : mRep lo D E s w H) {a : Nat} (ht : mT w a = 23) : lo ≤ a ∧ H[a]? = some (arrV (E 3) (mL w a) (fun j => mR (mP w a j))) := by
  obtain ⟨g1, g2, g3⟩ := h.2.2.2.1 a (by omega) (by omega)
  exact ⟨g1, g3.2.2.2.2 ht⟩
section FROWS
variable {d : Nat} {μ : mM} {b : Nat × Nat} {pc : Nat} {lv : List (Option Value)} {st : List Value} {w : mW} {Q : Int32 → mW → Prop}
theorem g_getI {idx a : Nat} (ci k : Nat) (fin : Bool) (hd : decode μ.2.1 pc = .ok (.getfield idx, 3)) (hf : mLkF μ.1.cls idx ci k fin) (hty : mFT ci k = .int) (hc : ci < 19) (kk : mT w a = ci + 1 ∧ mG d μ b (pc + 3) lv (.int (mI w a k) :: st) w Q) : mG d μ b pc lv (.ref a :: st) w Q := by
  obtain ⟨ht, kk⟩ := kk
  intro l p e s m args below meth c s₁ D E lo B hml hK hlo ls H locs hl hR hS
  have hts : ∀ w ∈ mWd, w.before args s = true := fun w h => atoms_spec (ws := mWs μ) B.pre w (List.mem_cons_of_mem _ h)
  have hown : s.vm.findClass μ.1.cls = some m.cls := findClass_of_methodNamed B.named
  obtain ⟨⟨C, T, N⟩, hq, hk, h1, -, hlk⟩ := hf
  dsimp only at hk h1 hlk
  obtain ⟨hin, hpf, hnm, -⟩ := mClsOk ci _ hq
  dsimp only at hin hpf hnm
  obtain ⟨-, -, cell, q1, q2, q3, q4⟩ := hR.obj ht hc hq
  obtain ⟨hS1, hfc, kC, hkC, hkind⟩ := hK.1.1 ci _ hq
  obtain ⟨cf, kf, fi, f, hi, hsl⟩ := hS1 k hk
  dsimp only at hi hfc
  have hst := (u_facts hfc hkC (u_lays hts hin hk) hi).1
  rw [h1] at hi
  refine W.getf B.exec B.bytes hown (hts _ hlk) hi hst q1 (by rw [q3]; exact fun h => by cases h) (v := .int (mI w a k)) ?_ rfl rfl hd (kk l p e s m args below meth c s₁ D E lo B hml hK hlo ls H locs hl hR hS)
  rw [hsl, q4 k hk]
  show some (mV (mFT ci k) (mI w a k) (mP w a k)) = _
  rw [hty]; rfl
theorem g_getP {idx a : Nat} (ci k : Nat) (fin : Bool) (hd : decode μ.2.1 pc = .ok (.getfield idx, 3)) (hf : mLkF μ.1.cls idx ci k fin) (hty : (mFT ci k).isReference = true) (hc : ci < 19) (kk : mT w a = ci + 1 ∧ mP w a k ≠ 0 ∧ mG d μ b (pc + 3) lv (.ref (mP w a k) :: st) w Q) : mG d μ b pc lv (.ref a :: st) w Q := by
  obtain ⟨ht, hne, kk⟩ := kk
  intro l p e s m args below meth c s₁ D E lo B hml hK hlo ls H locs hl hR hS
  have hts : ∀ w ∈ mWd, w.before args s = true := fun w h => atoms_spec (ws := mWs μ) B.pre w (List.mem_cons_of_mem _ h)
  have hown : s.vm.findClass μ.1.cls = some m.cls := findClass_of_methodNamed B.named
  obtain ⟨⟨C, T, N⟩, hq, hk, h1, -, hlk⟩ := hf
  dsimp only at hk h1 hlk
  obtain ⟨hin, hpf, hnm, -⟩ := mClsOk ci _ hq
  dsimp only at hin hpf hnm
  obtain ⟨-, -, cell, q1, q2, q3, q4⟩ := hR.obj ht hc hq
  obtain ⟨hS1, hfc, kC, hkC, hkind⟩ := hK.1.1 ci _ hq
  obtain ⟨cf, kf, fi, f, hi, hsl⟩ := hS1 k hk
  dsimp only at hi hfc
  have hst := (u_facts hfc hkC (u_lays hts hin hk) hi).1
  rw [h1] at hi
  refine W.getf B.exec B.bytes hown (hts _ hlk) hi hst q1 (by rw [q3]; exact fun h => by cases h) (v := .ref (mP w a k)) ?_ rfl rfl hd (kk l p e s m args below meth c s₁ D E lo B hml hK hlo ls H locs hl hR hS)
  rw [hsl, q4 k hk]
  show some (mV (mFT ci k) (mI w a k) (mP w a k)) = _
  rw [mV_ref hty, mR_ref hne]
theorem g_putI {idx a : Nat} {x : Int32} (ci k : Nat) (hd : decode μ.2.1 pc = .ok (.putfield idx, 3)) (hf : mLkF μ.1.cls idx ci k false) (hty : mFT ci k = .int) (hc : ci < 19) (kk : mT w a = ci + 1 ∧ mG d μ b (pc + 3) lv st (wrI w a k x) Q) : mG d μ b pc lv (.int x :: .ref a :: st) w Q := by
  obtain ⟨ht, kk⟩ := kk
  intro l p e s m args below meth c s₁ D E lo B hml hK hlo ls H locs hl hR hS
  have hts : ∀ w ∈ mWd, w.before args s = true := fun w h => atoms_spec (ws := mWs μ) B.pre w (List.mem_cons_of_mem _ h)
  have hown : s.vm.findClass μ.1.cls = some m.cls := findClass_of_methodNamed B.named
  obtain ⟨⟨C, T, N⟩, hq, hk, h1, h2, hlk⟩ := hf
  dsimp only at hk h1 h2 hlk
  obtain ⟨hin, hpf, hnm, -⟩ := mClsOk ci _ hq
  dsimp only at hin hpf hnm
  obtain ⟨hloa, -, cell, q1, q2, q3, q4⟩ := hR.obj ht hc hq
  have hap := va_apart (own := μ.1.cls) hts hin (mFT ci) hpf hnm hK.1 hq
  obtain ⟨hS1, hfc, kC, hkC, hkind⟩ := hK.1.1 ci _ hq
  obtain ⟨cf, kf, fi, f, hi, hsl⟩ := hS1 k hk
  dsimp only at hi hfc
  have hlay := hts _ (hin _ (u_in_lay hk))
  unfold u_lay at hlay
  have hst := (u_facts hfc hkC (u_lays hts hin hk) hi).1
  have hd0 := hpf k hk
  have hn : narrow (mFT ci k) (.int x) = .int x := by
    rw [hty]; rfl
  have hfit : fits (mFT ci k) (.int x) = true := by
    rw [hty]; rfl
  rw [if_neg (by rw [h2]; decide)] at hlay
  have h6 := u_store hfc hkC hkind hlay hi hd0 hn hfit
  rw [h1] at hi
  refine W.putK B.exec B.bytes (f := f) ⟨hown, hts _ hlk, ⟨_, _, _, hi⟩, hst⟩ (by rw [q2]; exact h6) q1 q3 (by rw [hsl]; exact k2_hasslot (q4 k hk)) rfl rfl hd fun H1 e1 e2 e3 => ?_
  rw [hsl] at e1 ⊢
  have hO : t_OB a (D.1 ci) N (D.2 ci) H1 (updV (fun k => mV (mFT ci k) (mI w a k) (mP w a k)) k (.int x)) := ⟨_, e1, q2, q3, t_set q4 hap hk _⟩
  have hR1 : mRep lo D E s (wrI w a k x) H1 := by
    refine hR.put e2 e3 hloa (fun _ => rfl) (fun _ => rfl) rfl (fun q hq => ?_) (fun q hq => ?_) ?_
    · funext j
      rw [mI_wrI, if_neg (fun z => hq z.1)]
    · funext j
      rfl
    · rw [ht]
      refine ⟨fun _ => ⟨_, hq, hO.to (fun j hj => ?_)⟩, fun z => by omega, fun z => by omega, fun z => by omega, fun z => by omega⟩
      show updV _ k _ j = mV (mFT ci j) (mI (wrI w a k x) a j) (mP (wrI w a k x) a j)
      by_cases hjk : j = k
      · subst hjk
        rw [hty, mI_wrI, if_pos ⟨rfl, rfl⟩]; simp [updV, mV]
      · rw [mI_wrI, if_neg (fun z => hjk z.2), mP_wrI]
        simp [updV, hjk]
  exact kk l p e s m args below meth c s₁ D E lo B hml hK hlo ls H1 _ hl hR1 (hS.put e2 e3 hloa)
theorem g_putP {idx a : Nat} {x : Nat} (ci k : Nat) (hd : decode μ.2.1 pc = .ok (.putfield idx, 3)) (hf : mLkF μ.1.cls idx ci k false) (hty : (mFT ci k).isReference = true) (hc : ci < 19) (kk : mT w a = ci + 1 ∧ x ≠ 0 ∧ mG d μ b (pc + 3) lv st (wrP w a k x) Q) : mG d μ b pc lv (.ref x :: .ref a :: st) w Q := by
  obtain ⟨ht, hne, kk⟩ := kk
  intro l p e s m args below meth c s₁ D E lo B hml hK hlo ls H locs hl hR hS
  have hts : ∀ w ∈ mWd, w.before args s = true := fun w h => atoms_spec (ws := mWs μ) B.pre w (List.mem_cons_of_mem _ h)
  have hown : s.vm.findClass μ.1.cls = some m.cls := findClass_of_methodNamed B.named
  obtain ⟨⟨C, T, N⟩, hq, hk, h1, h2, hlk⟩ := hf
  dsimp only at hk h1 h2 hlk
  obtain ⟨hin, hpf, hnm, -⟩ := mClsOk ci _ hq
  dsimp only at hin hpf hnm
  obtain ⟨hloa, -, cell, q1, q2, q3, q4⟩ := hR.obj ht hc hq
  have hap := va_apart (own := μ.1.cls) hts hin (mFT ci) hpf hnm hK.1 hq
  obtain ⟨hS1, hfc, kC, hkC, hkind⟩ := hK.1.1 ci _ hq
  obtain ⟨cf, kf, fi, f, hi, hsl⟩ := hS1 k hk
  dsimp only at hi hfc
  have hlay := hts _ (hin _ (u_in_lay hk))
  unfold u_lay at hlay
  have hst := (u_facts hfc hkC (u_lays hts hin hk) hi).1
  have hd0 := hpf k hk
  have hn : narrow (mFT ci k) (.ref x) = .ref x := by
    generalize mFT ci k = ty at hty; cases ty <;> first | rfl | exact absurd hty (by decide)
  have hfit : fits (mFT ci k) (.ref x) = true := by
    generalize mFT ci k = ty at hty; cases ty <;> first | rfl | exact absurd hty (by decide)
  rw [if_neg (by rw [h2]; decide)] at hlay
  have h6 := u_store hfc hkC hkind hlay hi hd0 hn hfit
  rw [h1] at hi
  refine W.putK B.exec B.bytes (f := f) ⟨hown, hts _ hlk, ⟨_, _, _, hi⟩, hst⟩ (by rw [q2]; exact h6) q1 q3 (by rw [hsl]; exact k2_hasslot (q4 k hk)) rfl rfl hd fun H1 e1 e2 e3 => ?_
  rw [hsl] at e1 ⊢
  have hO : t_OB a (D.1 ci) N (D.2 ci) H1 (updV (fun k => mV (mFT ci k) (mI w a k) (mP w a k)) k (.ref x)) := ⟨_, e1, q2, q3, t_set q4 hap hk _⟩
  have hR1 : mRep lo D E s (wrP w a k x) H1 := by
    refine hR.put e2 e3 hloa (fun _ => rfl) (fun _ => rfl) rfl (fun q hq => ?_) (fun q hq => ?_) ?_
    · funext j
      rfl
    · funext j
      rw [mP_wrP, if_neg (fun z => hq z.1)]
    · rw [ht]
      refine ⟨fun _ => ⟨_, hq, hO.to (fun j hj => ?_)⟩, fun z => by omega, fun z => by omega, fun z => by omega, fun z => by omega⟩
      show updV _ k _ j = mV (mFT ci j) (mI (wrP w a k x) a j) (mP (wrP w a k x) a j)
      by_cases hjk : j = k
      · subst hjk
        rw [mV_ref hty, mP_wrP, if_pos ⟨rfl, rfl⟩, mR_ref hne]; simp [updV]
      · rw [mP_wrP, if_neg (fun z => hjk z.2), mI_wrP]
        simp [updV, hjk]
  exact kk l p e s m args below meth c s₁ D E lo B hml hK hlo ls H1 _ hl hR1 (hS.put e2 e3 hloa)
theorem g_putIF {idx a : Nat} {x : Int32} (ci k : Nat) (hd : decode μ.2.1 pc = .ok (.putfield idx, 3)) (hf : mLkF μ.1.cls idx ci k true) (hty : mFT ci k = .int) (hc : ci < 19) (hini : μ.1.name = "<init>") (hoC : ∀ q : vw_C, mCls[ci]? = some q → q.1 = μ.1.cls) (kk : mT w a = ci + 1 ∧ mG d μ b (pc + 3) lv st (wrI w a k x) Q) : mG d μ b pc lv (.int x :: .ref a :: st) w Q := by
  obtain ⟨ht, kk⟩ := kk
  intro l p e s m args below meth c s₁ D E lo B hml hK hlo ls H locs hl hR hS
  have hts : ∀ w ∈ mWd, w.before args s = true := fun w h => atoms_spec (ws := mWs μ) B.pre w (List.mem_cons_of_mem _ h)
  have hown : s.vm.findClass μ.1.cls = some m.cls := findClass_of_methodNamed B.named
  obtain ⟨⟨C, T, N⟩, hq, hk, h1, h2, hlk⟩ := hf
  dsimp only at hk h1 h2 hlk
  obtain ⟨hin, hpf, hnm, -⟩ := mClsOk ci _ hq
  dsimp only at hin hpf hnm
  obtain ⟨hloa, -, cell, q1, q2, q3, q4⟩ := hR.obj ht hc hq
  have hap := va_apart (own := μ.1.cls) hts hin (mFT ci) hpf hnm hK.1 hq
  obtain ⟨hS1, hfc, kC, hkC, hkind⟩ := hK.1.1 ci _ hq
  obtain ⟨cf, kf, fi, f, hi, hsl⟩ := hS1 k hk
  dsimp only at hi hfc
  have hlay := hts _ (hin _ (u_in_lay hk))
  unfold u_lay at hlay
  have hst := (u_facts hfc hkC (u_lays hts hin hk) hi).1
  have hd0 := hpf k hk
  have hn : narrow (mFT ci k) (.int x) = .int x := by
    rw [hty]; rfl
  have hfit : fits (mFT ci k) (.int x) = true := by
    rw [hty]; rfl
  rw [if_pos h2] at hlay
  have hcf : m.cls = cf := by
    obtain ⟨_, _, c', _, _, _, -, -, hf', -, -, -, hown2, -⟩ := Cond.laysFinal_spec hlay
    have e1 : c' = cf := by have := hi.symm.trans hf'; simp at this; exact this.1.symm
    have hoC2 : C = μ.1.cls := hoC _ hq
    rw [h1, hoC2] at hown2
    rw [← e1]; exact Option.some.inj (hown.symm.trans hown2)
  have hin2 : meth.name = "<init>" := (name_of_methodNamed B.named B.method).1.trans hini
  have h6 := u_fits hfc hkC hkind (Or.inr hlay) hi hd0 hn hfit
  rw [h1] at hi
  refine W.putFinK B.exec B.bytes hown (hts _ hlk) hi hst hcf hin2 (by rw [q2]; exact h6) q1 q3 (by rw [hsl]; exact k2_hasslot (q4 k hk)) rfl rfl hd fun H1 e1 e2 e3 => ?_
  rw [hsl] at e1 ⊢
  have hO : t_OB a (D.1 ci) N (D.2 ci) H1 (updV (fun k => mV (mFT ci k) (mI w a k) (mP w a k)) k (.int x)) := ⟨_, e1, q2, q3, t_set q4 hap hk _⟩
  have hR1 : mRep lo D E s (wrI w a k x) H1 := by
    refine hR.put e2 e3 hloa (fun _ => rfl) (fun _ => rfl) rfl (fun q hq => ?_) (fun q hq => ?_) ?_
    · funext j
      rw [mI_wrI, if_neg (fun z => hq z.1)]
    · funext j
      rfl
    · rw [ht]
      refine ⟨fun _ => ⟨_, hq, hO.to (fun j hj => ?_)⟩, fun z => by omega, fun z => by omega, fun z => by omega, fun z => by omega⟩
      show updV _ k _ j = mV (mFT ci j) (mI (wrI w a k x) a j) (mP (wrI w a k x) a j)
      by_cases hjk : j = k
      · subst hjk
        rw [hty, mI_wrI, if_pos ⟨rfl, rfl⟩]; simp [updV, mV]
      · rw [mI_wrI, if_neg (fun z => hjk z.2), mP_wrI]
        simp [updV, hjk]
  exact kk l p e s m args below meth c s₁ D E lo B hml hK hlo ls H1 _ hl hR1 (hS.put e2 e3 hloa)
theorem g_putPF {idx a : Nat} {x : Nat} (ci k : Nat) (hd : decode μ.2.1 pc = .ok (.putfield idx, 3)) (hf : mLkF μ.1.cls idx ci k true) (hty : (mFT ci k).isReference = true) (hc : ci < 19) (hini : μ.1.name = "<init>") (hoC : ∀ q : vw_C, mCls[ci]? = some q → q.1 = μ.1.cls) (kk : mT w a = ci + 1 ∧ x ≠ 0 ∧ mG d μ b (pc + 3) lv st (wrP w a k x) Q) : mG d μ b pc lv (.ref x :: .ref a :: st) w Q := by
  obtain ⟨ht, hne, kk⟩ := kk
  intro l p e s m args below meth c s₁ D E lo B hml hK hlo ls H locs hl hR hS
  have hts : ∀ w ∈ mWd, w.before args s = true := fun w h => atoms_spec (ws := mWs μ) B.pre w (List.mem_cons_of_mem _ h)
  have hown : s.vm.findClass μ.1.cls = some m.cls := findClass_of_methodNamed B.named
  obtain ⟨⟨C, T, N⟩, hq, hk, h1, h2, hlk⟩ := hf
  dsimp only at hk h1 h2 hlk
  obtain ⟨hin, hpf, hnm, -⟩ := mClsOk ci _ hq
  dsimp only at hin hpf hnm
  obtain ⟨hloa, -, cell, q1, q2, q3, q4⟩ := hR.obj ht hc hq
  have hap := va_apart (own := μ.1.cls) hts hin (mFT ci) hpf hnm hK.1 hq
  obtain ⟨hS1, hfc, kC, hkC, hkind⟩ := hK.1.1 ci _ hq
  obtain ⟨cf, kf, fi, f, hi, hsl⟩ := hS1 k hk
  dsimp only at hi hfc
  have hlay := hts _ (hin _ (u_in_lay hk))
  unfold u_lay at hlay
  have hst := (u_facts hfc hkC (u_lays hts hin hk) hi).1
  have hd0 := hpf k hk
  have hn : narrow (mFT ci k) (.ref x) = .ref x := by
    generalize mFT ci k = ty at hty; cases ty <;> first | rfl | exact absurd hty (by decide)
  have hfit : fits (mFT ci k) (.ref x) = true := by
    generalize mFT ci k = ty at hty; cases ty <;> first | rfl | exact absurd hty (by decide)
  rw [if_pos h2] at hlay
  have hcf : m.cls = cf := by
    obtain ⟨_, _, c', _, _, _, -, -, hf', -, -, -, hown2, -⟩ := Cond.laysFinal_spec hlay
    have e1 : c' = cf := by have := hi.symm.trans hf'; simp at this; exact this.1.symm
    have hoC2 : C = μ.1.cls := hoC _ hq
    rw [h1, hoC2] at hown2
    rw [← e1]; exact Option.some.inj (hown.symm.trans hown2)
  have hin2 : meth.name = "<init>" := (name_of_methodNamed B.named B.method).1.trans hini
  have h6 := u_fits hfc hkC hkind (Or.inr hlay) hi hd0 hn hfit
  rw [h1] at hi
  refine W.putFinK B.exec B.bytes hown (hts _ hlk) hi hst hcf hin2 (by rw [q2]; exact h6) q1 q3 (by rw [hsl]; exact k2_hasslot (q4 k hk)) rfl rfl hd fun H1 e1 e2 e3 => ?_
  rw [hsl] at e1 ⊢
  have hO : t_OB a (D.1 ci) N (D.2 ci) H1 (updV (fun k => mV (mFT ci k) (mI w a k) (mP w a k)) k (.ref x)) := ⟨_, e1, q2, q3, t_set q4 hap hk _⟩
  have hR1 : mRep lo D E s (wrP w a k x) H1 := by
    refine hR.put e2 e3 hloa (fun _ => rfl) (fun _ => rfl) rfl (fun q hq => ?_) (fun q hq => ?_) ?_
    · funext j
      rfl
    · funext j
      rw [mP_wrP, if_neg (fun z => hq z.1)]
    · rw [ht]
      refine ⟨fun _ => ⟨_, hq, hO.to (fun j hj => ?_)⟩, fun z => by omega, fun z => by omega, fun z => by omega, fun z => by omega⟩
      show updV _ k _ j = mV (mFT ci j) (mI (wrP w a k x) a j) (mP (wrP w a k x) a j)
      by_cases hjk : j = k
      · subst hjk
        rw [mV_ref hty, mP_wrP, if_pos ⟨rfl, rfl⟩, mR_ref hne]; simp [updV]
      · rw [mP_wrP, if_neg (fun z => hjk z.2), mI_wrP]
        simp [updV, hjk]
  exact kk l p e s m args below meth c s₁ D E lo B hml hK hlo ls H1 _ hl hR1 (hS.put e2 e3 hloa)
theorem g_iaload {a : Nat} {i : Int32} (hd : decode μ.2.1 pc = .ok (.iaload, 1)) (kk : mT w a = 20 ∧ vp_in i (mL w a) ∧ mG d μ b (pc + 1) lv (.int (mI w a i.toNatClampNeg) :: st) w Q) : mG d μ b pc lv (.int i :: .ref a :: st) w Q := by
  obtain ⟨ht, hin, kk⟩ := kk
  intro l p e s m args below meth c s₁ D E lo B hml hK hlo ls H locs hl hR hS
  obtain ⟨hloa, hc⟩ := hR.ints ht
  have hlt : i.toNatClampNeg < mL w a := Nat.not_le.mp fun q => hin (Or.inr q)
  exact W.iald (v := .int (mI w a i.toNatClampNeg)) B.exec B.bytes hc ((hK.1.2 0 (E 0, .int) rfl).1 _ _) (fun q => by cases q) (by rw [arrV_size]; exact hin) (by rw [arrV_read _ _ hlt]) rfl rfl hd (kk l p e s m args below meth c s₁ D E lo B hml hK hlo ls H locs hl hR hS)
theorem g_baload {a : Nat} {i : Int32} (hd : decode μ.2.1 pc = .ok (.baload, 1)) (kk : mT w a = 21 ∧ vp_in i (mL w a) ∧ mG d μ b (pc + 1) lv (.int (mI w a i.toNatClampNeg) :: st) w Q) : mG d μ b pc lv (.int i :: .ref a :: st) w Q := by
  obtain ⟨ht, hin, kk⟩ := kk
  intro l p e s m args below meth c s₁ D E lo B hml hK hlo ls H locs hl hR hS
  obtain ⟨hloa, hc⟩ := hR.bools ht
  have hlt : i.toNatClampNeg < mL w a := Nat.not_le.mp fun q => hin (Or.inr q)
  exact W.zald (v := .int (mI w a i.toNatClampNeg)) B.exec B.bytes hc ((hK.1.2 1 (E 1, .boolean) rfl).1 _ _) (fun q => by cases q) (by rw [arrV_size]; exact hin) (by rw [arrV_read _ _ hlt]) rfl rfl hd (kk l p e s m args below meth c s₁ D E lo B hml hK hlo ls H locs hl hR hS)
theorem g_iastore {a : Nat} {i x : Int32} (hd : decode μ.2.1 pc = .ok (.iastore, 1)) (kk : mT w a = 20 ∧ vp_in i (mL w a) ∧ mG d μ b (pc + 1) lv st (wrI w a i.toNatClampNeg x) Q) : mG d μ b pc lv (.int x :: .int i :: .ref a :: st) w Q := by
  obtain ⟨ht, hin, kk⟩ := kk
  intro l p e s m args below meth c s₁ D E lo B hml hK hlo ls H locs hl hR hS
  obtain ⟨hloa, hc⟩ := hR.ints ht
  refine W.iast B.exec B.bytes hc ((hK.1.2 0 (E 0, .int) rfl).1 _ _) (fun q => by cases q) (by rw [arrV_size]; exact hin) rfl rfl hd fun H1 e1 e2 e3 => ?_
  have hR1 : mRep lo D E s (wrI w a i.toNatClampNeg x) H1 := by
    refine hR.put e2 e3 hloa (fun _ => rfl) (fun _ => rfl) rfl (fun q hq => ?_) (fun q hq => rfl) ?_
    · funext j
      rw [mI_wrI, if_neg (fun z => hq z.1)]
    · have e4 : H1[a]? = some (arrV (E 0) (mL w a) (fun j => .int (mI (wrI w a i.toNatClampNeg x) a j))) := by
        rw [e1, arrV_store]
        congr 2
        funext j
        rw [mI_wrI]
        by_cases hj : j = i.toNatClampNeg
        · simp [updV, hj]
        · simp [updV, hj]
      refine ⟨fun z => by omega, fun z => e4, fun z => by omega, fun z => by omega, fun z => by omega⟩
  exact kk l p e s m args below meth c s₁ D E lo B hml hK hlo ls H1 _ hl hR1 (hS.put e2 e3 hloa)
theorem g_bastore {a : Nat} {i x : Int32} (hd : decode μ.2.1 pc = .ok (.bastore, 1)) (kk : mT w a = 21 ∧ vp_in i (mL w a) ∧ mG d μ b (pc + 1) lv st (wrI w a i.toNatClampNeg (x &&& 1)) Q) : mG d μ b pc lv (.int x :: .int i :: .ref a :: st) w Q := by
  obtain ⟨ht, hin, kk⟩ := kk
  intro l p e s m args below meth c s₁ D E lo B hml hK hlo ls H locs hl hR hS
  obtain ⟨hloa, hc⟩ := hR.bools ht
  refine W.zast B.exec B.bytes hc ((hK.1.2 1 (E 1, .boolean) rfl).1 _ _) (fun q => by cases q) (by rw [arrV_size]; exact hin) rfl rfl hd fun H1 e1 e2 e3 => ?_
  have hR1 : mRep lo D E s (wrI w a i.toNatClampNeg (x &&& 1)) H1 := by
    refine hR.put e2 e3 hloa (fun _ => rfl) (fun _ => rfl) rfl (fun q hq => ?_) (fun q hq => rfl) ?_
    · funext j
      rw [mI_wrI, if_neg (fun z => hq z.1)]
    · have e4 : H1[a]? = some (arrV (E 1) (mL w a) (fun j => .int (mI (wrI w a i.toNatClampNeg (x &&& 1)) a j))) := by
        rw [e1, arrV_store]
        congr 2
        funext j
        rw [mI_wrI]
        by_cases hj : j = i.toNatClampNeg
        · simp [updV, hj, narrow]
        · simp [updV, hj]
      refine ⟨fun z => by omega, fun z => by omega, fun z => e4, fun z => by omega, fun z => by omega⟩
  exact kk l p e s m args below meth c s₁ D E lo B hml hK hlo ls H1 _ hl hR1 (hS.put e2 e3 hloa)
theorem g_aaload2 {a : Nat} {i : Int32} (hd : decode μ.2.1 pc = .ok (.aaload, 1)) (kk : mT w a = 22 ∧ vp_in i (mL w a) ∧ mP w a i.toNatClampNeg ≠ 0 ∧ mG d μ b (pc + 1) lv (.ref (mP w a i.toNatClampNeg) :: st) w Q) : mG d μ b pc lv (.int i :: .ref a :: st) w Q := by
  obtain ⟨ht, hin, hne, kk⟩ := kk
  intro l p e s m args below meth c s₁ D E lo B hml hK hlo ls H locs hl hR hS
  obtain ⟨hloa, hc⟩ := hR.refs2 ht
  have hlt : i.toNatClampNeg < mL w a := Nat.not_le.mp fun q => hin (Or.inr q)
  exact W.aald (v := .ref (mP w a i.toNatClampNeg)) (ty := .object mCop) B.exec B.bytes hc ((hK.1.2 2 (E 2, .object mCop) rfl).1 _ _) rfl (fun q => by cases q) (by rw [arrV_size]; exact hin) (by rw [arrV_read _ _ hlt, mR_ref hne]) rfl rfl hd (kk l p e s m args below meth c s₁ D E lo B hml hK hlo ls H locs hl hR hS)
theorem g_aaload3 {a : Nat} {i : Int32} (hd : decode μ.2.1 pc = .ok (.aaload, 1)) (kk : mT w a = 23 ∧ vp_in i (mL w a) ∧ mP w a i.toNatClampNeg ≠ 0 ∧ mG d μ b (pc + 1) lv (.ref (mP w a i.toNatClampNeg) :: st) w Q) : mG d μ b pc lv (.int i :: .ref a :: st) w Q := by
  obtain ⟨ht, hin, hne, kk⟩ := kk
  intro l p e s m args below meth c s₁ D E lo B hml hK hlo ls H locs hl hR hS
  obtain ⟨hloa, hc⟩ := hR.refs3 ht
  have hlt : i.toNatClampNeg < mL w a := Nat.not_le.mp fun q => hin (Or.inr q)
  exact W.aald (v := .ref (mP w a i.toNatClampNeg)) (ty := .object mCre) B.exec B.bytes hc ((hK.1.2 3 (E 3, .object mCre) rfl).1 _ _) rfl (fun q => by cases q) (by rw [arrV_size]; exact hin) (by rw [arrV_read _ _ hlt, mR_ref hne]) rfl rfl hd (kk l p e s m args below meth c s₁ D E lo B hml hK hlo ls H locs hl hR hS)
theorem g_aastore2 {a x : Nat} {i : Int32} (hd : decode μ.2.1 pc = .ok (.aastore, 1)) (kk : mT w a = 22 ∧ vp_in i (mL w a) ∧ mT w x = mIop + 1 ∧ mG d μ b (pc + 1) lv st (wrP w a i.toNatClampNeg x) Q) : mG d μ b pc lv (.ref x :: .int i :: .ref a :: st) w Q := by
  obtain ⟨ht, hin, htx, kk⟩ := kk
  intro l p e s m args below meth c s₁ D E lo B hml hK hlo ls H locs hl hR hS
  obtain ⟨hloa, hc⟩ := hR.refs2 ht
  obtain ⟨q, hq, hqC⟩ := mIop_ok
  obtain ⟨-, hx0, cellV, g1, g2, g3, -⟩ := hR.obj htx mIop_lt hq
  have hcls := (hK.1.1 mIop q hq).2
  rw [hqC] at hcls
  obtain ⟨kA, comp, k1, k2, k3, -⟩ := (hK.1.2 2 (E 2, .object mCop) rfl).2
  have hcomp : comp = D.1 mIop := Option.some.inj (k3.symm.trans hcls.1)
  subst hcomp
  obtain ⟨kC, hkC, -⟩ := hcls.2
  have hlt : i.toNatClampNeg < mL w a := Nat.not_le.mp fun q => hin (Or.inr q)
  have h0 : ¬ i < 0 := fun q => hin (Or.inl q)
  refine W.aast B.exec B.bytes hc (fun q h => by cases h) (fun h => by cases h) k1 k2 rfl hkC ⟨h0, by rw [arrV_size]; exact hlt⟩ g1 (fun q h => by rw [g3] at h; cases h) (by rw [g2]; exact hkC) (by rw [g2]; exact va_assign hcls) rfl rfl hd fun H1 e1 e2 e3 => ?_
  have hR1 : mRep lo D E s (wrP w a i.toNatClampNeg x) H1 := by
    refine hR.put e2 e3 hloa (fun _ => rfl) (fun _ => rfl) rfl (fun q hq => rfl) (fun q hq => ?_) ?_
    · funext j
      rw [mP_wrP, if_neg (fun z => hq z.1)]
    · have e4 : H1[a]? = some (arrV (E 2) (mL w a) (fun j => mR (mP (wrP w a i.toNatClampNeg x) a j))) := by
        rw [e1, arrV_store]
        congr 2
        funext j
        rw [mP_wrP]
        by_cases hj : j = i.toNatClampNeg
        · simp [updV, hj, mR_ref hx0]
        · simp [updV, hj]
      refine ⟨fun z => by omega, fun z => by omega, fun z => by omega, fun z => e4, fun z => by omega⟩
  exact kk l p e s m args below meth c s₁ D E lo B hml hK hlo ls H1 _ hl hR1 (hS.put e2 e3 hloa)
theorem g_aastore3 {a x : Nat} {i : Int32} (hd : decode μ.2.1 pc = .ok (.aastore, 1)) (kk : mT w a = 23 ∧ vp_in i (mL w a) ∧ mT w x = mIre + 1 ∧ mG d μ b (pc + 1) lv st (wrP w a i.toNatClampNeg x) Q) : mG d μ b pc lv (.ref x :: .int i :: .ref a :: st) w Q := by
  obtain ⟨ht, hin, htx, kk⟩ := kk
  intro l p e s m args below meth c s₁ D E lo B hml hK hlo ls H locs hl hR hS
  obtain ⟨hloa, hc⟩ := hR.refs3 ht
  obtain ⟨q, hq, hqC⟩ := mIre_ok
  obtain ⟨-, hx0, cellV, g1, g2, g3, -⟩ := hR.obj htx mIre_lt hq
  have hcls := (hK.1.1 mIre q hq).2
  rw [hqC] at hcls
  obtain ⟨kA, comp, k1, k2, k3, -⟩ := (hK.1.2 3 (E 3, .object mCre) rfl).2
  have hcomp : comp = D.1 mIre := Option.some.inj (k3.symm.trans hcls.1)
  subst hcomp
  obtain ⟨kC, hkC, -⟩ := hcls.2
  have hlt : i.toNatClampNeg < mL w a := Nat.not_le.mp fun q => hin (Or.inr q)
  have h0 : ¬ i < 0 := fun q => hin (Or.inl q)
  refine W.aast B.exec B.bytes hc (fun q h => by cases h) (fun h => by cases h) k1 k2 rfl hkC ⟨h0, by rw [arrV_size]; exact hlt⟩ g1 (fun q h => by rw [g3] at h; cases h) (by rw [g2]; exact hkC) (by rw [g2]; exact va_assign hcls) rfl rfl hd fun H1 e1 e2 e3 => ?_
  have hR1 : mRep lo D E s (wrP w a i.toNatClampNeg x) H1 := by
    refine hR.put e2 e3 hloa (fun _ => rfl) (fun _ => rfl) rfl (fun q hq => rfl) (fun q hq => ?_) ?_
    · funext j
      rw [mP_wrP, if_neg (fun z => hq z.1)]
    · have e4 : H1[a]? = some (arrV (E 3) (mL w a) (fun j => mR (mP (wrP w a i.toNatClampNeg x) a j))) := by
        rw [e1, arrV_store]
        congr 2
        funext j
        rw [mP_wrP]
        by_cases hj : j = i.toNatClampNeg
        · simp [updV, hj, mR_ref hx0]
        · simp [updV, hj]
      refine ⟨fun z => by omega, fun z => by omega, fun z => by omega, fun z => by omega, fun z => e4⟩
  exact kk l p e s m args below meth c s₁ D E lo B hml hK hlo ls H1 _ hl hR1 (hS.put e2 e3 hloa)
theorem g_saload {a : Nat} {i : Int32} (hd : decode μ.2.1 pc = .ok (.iaload, 1)) (kk : mT w a = 30 ∧ vp_in i (mL w a) ∧ mG d μ b (pc + 1) lv (.int (mI w a i.toNatClampNeg) :: st) w Q) : mG d μ b pc lv (.int i :: .ref a :: st) w Q := by
  obtain ⟨ht, hin, kk⟩ := kk
  intro l p e s m args below meth c s₁ D E lo B hml hK hlo ls H locs hl hR hS
  obtain ⟨-, scr, h1, h2, h3, h4, h5⟩ := hR.2.2.2.2 a ht
  have hlt : i.toNatClampNeg < mL w a := Nat.not_le.mp fun q => hin (Or.inr q)
  exact W.iald (v := .int (mI w a i.toNatClampNeg)) B.exec B.bytes h1 h2 h3 (by rw [h4]; exact hin) (h5 _ hlt) rfl rfl hd (kk l p e s m args below meth c s₁ D E lo B hml hK hlo ls H locs hl hR hS)
theorem g_slen {a : Nat} (hd : decode μ.2.1 pc = .ok (.arraylength, 1)) (kk : mT w a = 30 ∧ mG d μ b (pc + 1) lv (.int (nI (mL w a)) :: st) w Q) : mG d μ b pc lv (.ref a :: st) w Q := by
  obtain ⟨ht, kk⟩ := kk
  intro l p e s m args below meth c s₁ D E lo B hml hK hlo ls H locs hl hR hS
  obtain ⟨-, scr, h1, h2, h3, h4, h5⟩ := hR.2.2.2.2 a ht
  exact W.alen (n := nI (mL w a)) B.exec B.bytes h1 h2 (by rw [h4] <;> rfl) rfl rfl hd (kk l p e s m args below meth c s₁ D E lo B hml hK hlo ls H locs hl hR hS)
theorem g_new {idx : Nat} (ci n : Nat) (hd : decode μ.2.1 pc = .ok (.new idx, 3)) (hf : mLkN μ.1.cls idx ci n) (hc : ci < 19) (hb : b.1 + 1 ≤ μ.2.2.2.2.1 ∧ b.2 + n ≤ μ.2.2.2.2.2) (b' : Nat × Nat) (hb' : (b.1 + 1, b.2 + n) = b') (kk : mG d μ b' (pc + 3) lv (.ref (mZ w) :: st) (wrN w (ci + 1) 0) Q) : mG d μ b pc lv st w Q := by
  intro l p e s m args below meth c s₁ D E lo B hml hK hlo ls H locs hl hR hS
  have hts : ∀ w ∈ mWd, w.before args s = true := fun w h => atoms_spec (ws := mWs μ) B.pre w (List.mem_cons_of_mem _ h)
  have hown : s.vm.findClass μ.1.cls = some m.cls := findClass_of_methodNamed B.named
  subst hb'
  obtain ⟨⟨C, T, N⟩, hq, rfl, hw1, hw2, hw3⟩ := hf
  dsimp only at hw1 hw2 hw3 hb kk ⊢
  obtain ⟨hin, hpf, hnm, hir⟩ := mClsOk ci _ hq
  dsimp only at hin hpf hnm hir
  have hKn := hK.1.1 ci _ hq
  refine W.newcK B.exec B.bytes hown (hts _ hw1) (hts _ hw2) (hts _ hw3) rfl hd hb.1 hb.2 hKn.2.1 rfl fun H1 kC hkC e1 z1 o1 => ?_
  have hO := u_born (mFT ci) hts hin hKn hkC e1 hpf
  have hR1 : mRep lo D E s (wrN w (ci + 1) 0) H1 := by
    refine hR.new z1 o1 (by omega) ⟨fun _ => ⟨_, hq, ?_⟩, fun z => by omega, fun z => by omega, fun z => by omega, fun z => by omega⟩
    simp only [Nat.add_sub_cancel]
    rw [← hR.2.1]
    exact hO.to (fun j hj => mV_def (hir j hj))
  have hS1 : va_S (fun q => lo ≤ q) s.heap H1 locs := ⟨Nat.le_trans hS.1 (by omega), fun x h1 h2 => (o1 x (Nat.lt_of_lt_of_le h1 hS.1)).trans (hS.2.1 x h1 h2), hS.2.2⟩
  have g := kk l p e s m args below meth c s₁ D E lo B hml hK hlo ls H1 locs hl hR1 hS1
  rw [← hR.2.1] at g
  exact g
theorem g_newI {v : Int32} (n : Nat) (hd : decode μ.2.1 pc = .ok (.newarray .int, 2)) (hw : Cond.arrayClass .int ∈ mWd) (hv : v = nI n) (hn : n < 10000) (hb : b.1 + 1 ≤ μ.2.2.2.2.1 ∧ b.2 + n ≤ μ.2.2.2.2.2) (b' : Nat × Nat) (hb' : (b.1 + 1, b.2 + n) = b') (kk : mG d μ b' (pc + 2) lv (.ref (mZ w) :: st) (wrN w 20 n) Q) : mG d μ b pc lv (.int v :: st) w Q := by
  subst hv
  subst hb'
  intro l p e s m args below meth c s₁ D E lo B hml hK hlo ls H locs hl hR hS
  have hts : ∀ w ∈ mWd, w.before args s = true := fun w h => atoms_spec (ws := mWs μ) B.pre w (List.mem_cons_of_mem _ h)
  have hown : s.vm.findClass μ.1.cls = some m.cls := findClass_of_methodNamed B.named
  have hby : n * componentBytes (newarray.typeOf .int) ≤ 536870912 := by
    have h8 : componentBytes (newarray.typeOf .int) ≤ 8 := by decide
    exact Nat.le_trans (Nat.mul_le_mul_left n h8) (by omega)
  refine va_newaK (atype := .int) B.exec B.bytes (hts _ hw) rfl hd rfl (nI_pos (by omega)) (nI_clamp (by omega)) hby hb.1 hb.2 rfl fun H1 cA e1 z1 o1 hA hN => ?_
  have hcA : cA = E 0 := Option.some.inj (hN.symm.trans (hK.1.2 0 (E 0, .int) rfl).2)
  subst hcA
  have hR1 : mRep lo D E s (wrN w 20 n) H1 := by
    refine hR.new z1 o1 (by omega) ?_
    rw [← hR.2.1]
    refine ⟨fun z => by omega, fun z => e1, fun z => by omega, fun z => by omega, fun z => by omega⟩
  have hS1 : va_S (fun q => lo ≤ q) s.heap H1 locs := ⟨Nat.le_trans hS.1 (by omega), fun x h1 h2 => (o1 x (Nat.lt_of_lt_of_le h1 hS.1)).trans (hS.2.1 x h1 h2), hS.2.2⟩
  have g := kk l p e s m args below meth c s₁ D E lo B hml hK hlo ls H1 locs hl hR1 hS1
  rw [← hR.2.1] at g
  exact g
theorem g_newZ {v : Int32} (n : Nat) (hd : decode μ.2.1 pc = .ok (.newarray .boolean, 2)) (hw : Cond.arrayClass .boolean ∈ mWd) (hv : v = nI n) (hn : n < 10000) (hb : b.1 + 1 ≤ μ.2.2.2.2.1 ∧ b.2 + n ≤ μ.2.2.2.2.2) (b' : Nat × Nat) (hb' : (b.1 + 1, b.2 + n) = b') (kk : mG d μ b' (pc + 2) lv (.ref (mZ w) :: st) (wrN w 21 n) Q) : mG d μ b pc lv (.int v :: st) w Q := by
  subst hv
  subst hb'
  intro l p e s m args below meth c s₁ D E lo B hml hK hlo ls H locs hl hR hS
  have hts : ∀ w ∈ mWd, w.before args s = true := fun w h => atoms_spec (ws := mWs μ) B.pre w (List.mem_cons_of_mem _ h)
  have hown : s.vm.findClass μ.1.cls = some m.cls := findClass_of_methodNamed B.named
  have hby : n * componentBytes (newarray.typeOf .boolean) ≤ 536870912 := by
    have h8 : componentBytes (newarray.typeOf .boolean) ≤ 8 := by decide
    exact Nat.le_trans (Nat.mul_le_mul_left n h8) (by omega)
  refine va_newaK (atype := .boolean) B.exec B.bytes (hts _ hw) rfl hd rfl (nI_pos (by omega)) (nI_clamp (by omega)) hby hb.1 hb.2 rfl fun H1 cA e1 z1 o1 hA hN => ?_
  have hcA : cA = E 1 := Option.some.inj (hN.symm.trans (hK.1.2 1 (E 1, .boolean) rfl).2)
  subst hcA
  have hR1 : mRep lo D E s (wrN w 21 n) H1 := by
    refine hR.new z1 o1 (by omega) ?_
    rw [← hR.2.1]
    refine ⟨fun z => by omega, fun z => by omega, fun z => e1, fun z => by omega, fun z => by omega⟩
  have hS1 : va_S (fun q => lo ≤ q) s.heap H1 locs := ⟨Nat.le_trans hS.1 (by omega), fun x h1 h2 => (o1 x (Nat.lt_of_lt_of_le h1 hS.1)).trans (hS.2.1 x h1 h2), hS.2.2⟩
  have g := kk l p e s m args below meth c s₁ D E lo B hml hK hlo ls H1 locs hl hR1 hS1
  rw [← hR.2.1] at g
  exact g
theorem g_anew2 {idx : Nat} {v : Int32} (n : Nat) (hd : decode μ.2.1 pc = .ok (.anewarray idx, 3)) (hw : Cond.classLink μ.1.cls idx mCop ∈ mWd) (hv : v = nI n) (hn : n < 10000) (hb : b.1 + 1 ≤ μ.2.2.2.2.1 ∧ b.2 + n ≤ μ.2.2.2.2.2) (b' : Nat × Nat) (hb' : (b.1 + 1, b.2 + n) = b') (kk : mG d μ b' (pc + 3) lv (.ref (mZ w) :: st) (wrN w 22 n) Q) : mG d μ b pc lv (.int v :: st) w Q := by
  subst hv
  subst hb'
  intro l p e s m args below meth c s₁ D E lo B hml hK hlo ls H locs hl hR hS
  have hts : ∀ w ∈ mWd, w.before args s = true := fun w h => atoms_spec (ws := mWs μ) B.pre w (List.mem_cons_of_mem _ h)
  have hown : s.vm.findClass μ.1.cls = some m.cls := findClass_of_methodNamed B.named
  have hcl : (nI n).toNatClampNeg = n := nI_clamp (by omega)
  refine W.anew B.exec B.bytes hown (hts _ hw) (va_AO.use hK.2.1.1) rfl hd rfl (nI_pos (by omega)) (by rw [hcl]; omega) hb.1 (by rw [hcl]; exact hb.2) fun cA kA comp f1 f2 f3 f4 => ?_
  rw [hcl]
  generalize hH1 : H.push ({ cls := cA, slots := Array.replicate n .null, vm := .none } : Cell) = H1
  have z1 : H1.size = H.size + 1 := by rw [← hH1, Array.size_push]
  have e1 : H1[H.size]? = some (arrV cA n (fun _ => .null)) := by rw [← hH1, Array.getElem?_push_size, ← arrV_new]
  have o1 : ∀ q : Nat, q < H.size → H1[q]? = H[q]? := fun q hq => by rw [← hH1, Array.getElem?_push, if_neg (Nat.ne_of_lt hq)]
  obtain ⟨kA2, comp2, -, -, -, hN⟩ := (hK.1.2 2 (E 2, .object mCop) rfl).2
  have hcA : cA = E 2 := Option.some.inj (f1.symm.trans hN)
  subst hcA
  have hR1 : mRep lo D E s (wrN w 22 n) H1 := by
    refine hR.new z1 o1 (by omega) ?_
    rw [← hR.2.1]
    refine ⟨fun z => by omega, fun z => by omega, fun z => by omega, fun z => e1, fun z => by omega⟩
  have hS1 : va_S (fun q => lo ≤ q) s.heap H1 locs := ⟨Nat.le_trans hS.1 (by omega), fun x h1 h2 => (o1 x (Nat.lt_of_lt_of_le h1 hS.1)).trans (hS.2.1 x h1 h2), hS.2.2⟩
  have g := kk l p e s m args below meth c s₁ D E lo B hml hK hlo ls H1 locs hl hR1 hS1
  rw [← hR.2.1] at g
  exact g
theorem g_anew3 {idx : Nat} {v : Int32} (n : Nat) (hd : decode μ.2.1 pc = .ok (.anewarray idx, 3)) (hw : Cond.classLink μ.1.cls idx mCre ∈ mWd) (hv : v = nI n) (hn : n < 10000) (hb : b.1 + 1 ≤ μ.2.2.2.2.1 ∧ b.2 + n ≤ μ.2.2.2.2.2) (b' : Nat × Nat) (hb' : (b.1 + 1, b.2 + n) = b') (kk : mG d μ b' (pc + 3) lv (.ref (mZ w) :: st) (wrN w 23 n) Q) : mG d μ b pc lv (.int v :: st) w Q := by
  subst hv
  subst hb'
  intro l p e s m args below meth c s₁ D E lo B hml hK hlo ls H locs hl hR hS
  have hts : ∀ w ∈ mWd, w.before args s = true := fun w h => atoms_spec (ws := mWs μ) B.pre w (List.mem_cons_of_mem _ h)
  have hown : s.vm.findClass μ.1.cls = some m.cls := findClass_of_methodNamed B.named
  have hcl : (nI n).toNatClampNeg = n := nI_clamp (by omega)
  refine W.anew B.exec B.bytes hown (hts _ hw) (va_AO.use hK.2.1.2) rfl hd rfl (nI_pos (by omega)) (by rw [hcl]; omega) hb.1 (by rw [hcl]; exact hb.2) fun cA kA comp f1 f2 f3 f4 => ?_
  rw [hcl]
  generalize hH1 : H.push ({ cls := cA, slots := Array.replicate n .null, vm := .none } : Cell) = H1
  have z1 : H1.size = H.size + 1 := by rw [← hH1, Array.size_push]
  have e1 : H1[H.size]? = some (arrV cA n (fun _ => .null)) := by rw [← hH1, Array.getElem?_push_size, ← arrV_new]
  have o1 : ∀ q : Nat, q < H.size → H1[q]? = H[q]? := fun q hq => by rw [← hH1, Array.getElem?_push, if_neg (Nat.ne_of_lt hq)]
  obtain ⟨kA2, comp2, -, -, -, hN⟩ := (hK.1.2 3 (E 3, .object mCre) rfl).2
  have hcA : cA = E 3 := Option.some.inj (f1.symm.trans hN)
  subst hcA
  have hR1 : mRep lo D E s (wrN w 23 n) H1 := by
    refine hR.new z1 o1 (by omega) ?_
    rw [← hR.2.1]
    refine ⟨fun z => by omega, fun z => by omega, fun z => by omega, fun z => by omega, fun z => e1⟩
  have hS1 : va_S (fun q => lo ≤ q) s.heap H1 locs := ⟨Nat.le_trans hS.1 (by omega), fun x h1 h2 => (o1 x (Nat.lt_of_lt_of_le h1 hS.1)).trans (hS.2.1 x h1 h2), hS.2.2⟩
  have g := kk l p e s m args below meth c s₁ D E lo B hml hK hlo ls H1 locs hl hR1 hS1
  rw [← hR.2.1] at g
  exact g
theorem g_iret {r : Int32} (hr : μ.2.2.2.1 = some .int) (hd : decode μ.2.1 pc = .ok (.ireturn, 1)) (hb : b.1 ≤ μ.2.2.2.2.1 ∧ b.2 ≤ μ.2.2.2.2.2) (kk : Q r w) : mG d μ b pc lv [.int r] w Q := by
  intro l p e s m args below meth c s₁ D E lo B hml hK hlo ls H locs hl hR hS
  have hlocks := B.notSynchronized
  refine W.widen hb.1 hb.2 ?_
  refine W.iret B.exec B.bytes (B.returns.trans hr) (fun t ht hW => ⟨⟨r, w, by rw [hr]; rfl, kk, by rw [ht]; exact hR.moved hW.alike⟩, hS.F ht⟩) hS.2.2 hd
theorem g_zret {r : Int32} (hr : μ.2.2.2.1 = some .boolean) (hd : decode μ.2.1 pc = .ok (.ireturn, 1)) (hb : b.1 ≤ μ.2.2.2.2.1 ∧ b.2 ≤ μ.2.2.2.2.2) (kk : r &&& 1 = r ∧ Q r w) : mG d μ b pc lv [.int r] w Q := by
  obtain ⟨h1, kk⟩ := kk
  intro l p e s m args below meth c s₁ D E lo B hml hK hlo ls H locs hl hR hS
  have hlocks := B.notSynchronized
  refine W.widen hb.1 hb.2 ?_
  refine W.zret (ty := .boolean) B.exec B.bytes (B.returns.trans hr) (by simp [narrow, h1]) (fun t ht hW => ⟨⟨r, w, by rw [hr]; rfl, kk, by rw [ht]; exact hR.moved hW.alike⟩, hS.F ht⟩) hS.2.2 hd
theorem g_vret (hr : μ.2.2.2.1 = none) (hd : decode μ.2.1 pc = .ok (.return_, 1)) (hb : b.1 ≤ μ.2.2.2.2.1 ∧ b.2 ≤ μ.2.2.2.2.2) (kk : Q 0 w) : mG d μ b pc lv [] w Q := by
  intro l p e s m args below meth c s₁ D E lo B hml hK hlo ls H locs hl hR hS
  have hlocks := B.notSynchronized
  refine W.widen hb.1 hb.2 ?_
  refine W.vret B.exec B.bytes (B.returns.trans hr) (fun t ht hW => ⟨⟨0, w, by rw [hr]; rfl, kk, by rw [ht]; exact hR.moved hW.alike⟩, hS.F ht⟩) hS.2.2 hd
end FROWS
end
section
theorem mRun {l : Launch} {p : Program} {e : Env} {s : State} {m : MethodId} {args : Array Value} {below : List Frame} {meth : Method} {c : Code} {s₁ : State} {D : va_G} {E : Nat → ClassId} {lo : Nat} {d : Nat} {μ : mM} {b : Nat × Nat} {pc : Nat} {lv : List (Option Value)} {st rest : List Value} {Q Q0 : Int32 → mW → Prop} {mc ms : Nat} {ret : Option FieldType} {as : Array Value} {ls : Array Slot} {H : Heap} {locs : List Loc} (f : Int32 → List Value) (hf : ∀ r, (mEnc ret r).toList ++ rest = f r)
    (B : BodyLoose p l μ.1 (headSpec (mWs μ) (mRm d μ)) μ.2.1 μ.2.2.1 μ.2.2.2.1 e s m args below meth c s₁) (hml : c.maxLocals = μ.2.2.1) (hK : mK D E s) (hlo : lo ≤ s.heap.size) (hl : mLv ls μ.2.2.1 lv) (hS : va_S (fun q => lo ≤ q) s.heap H locs)
    (hrun : va_Run p l e (mRm d μ) s m args below meth c H locs b.1 b.2 mc ms (F0 m pc ls st) rest (mQc D E lo ret Q0 as) (fun q => lo ≤ q))
    (hQ : ∀ r w', Q0 r w' → mG d μ (b.1 + mc, b.2 + ms) (pc + 3) lv (f r) w' Q) :
    W p l e (mRm d μ) s m args below meth c H locs b.1 b.2 (MQ below (mQc D E lo μ.2.2.2.1 Q) args s μ.2.2.2.2.1 μ.2.2.2.2.2 (fun q => lo ≤ q)) (F0 m pc ls st) := by
  intro T hT X
  obtain ⟨v, st₀, t, T', L, h0, X', hL, e1, e2, ⟨⟨r, w', hv, hq, hR'⟩, hz, hk⟩, stp⟩ := hrun T hT X
  have hv' : v = mEnc ret r := Outcome.returned.inj hv
  subst hv'
  rw [h0] at hz hk
  have hal : s.vm.Alike t.vm := by rw [← e2]; exact X'.warmed.alike
  have hR1 : mRep lo D E s w' T'.heap := by rw [e1]; exact hR'.moved hal.symm
  have hS1 : va_S (fun q => lo ≤ q) s.heap T'.heap (locs ++ L) := by
    refine ⟨Nat.le_trans hS.1 (by rw [e1]; exact hz), fun q h1 h2 => ?_, fun q hq => ?_⟩
    · rw [e1, hk q (Nat.lt_of_lt_of_le h1 hS.1) h2]
      exact hS.2.1 q h1 h2
    · rcases List.mem_append.mp hq with h | h
      · exact hS.2.2 q h
      · exact hL q h
  obtain ⟨t2, a1, b1⟩ := hQ r w' hq l p e s m args below meth c s₁ D E lo B hml hK hlo ls T'.heap (locs ++ L) hl hR1 hS1 T' rfl X'
  rw [← hf r] at a1
  exact ⟨t2, stp t2 a1, b1⟩
theorem mB {d : Nat} {μ μ' : mM} {n idx : Nat} {s : State} {args : Array Value} (hts0 : ∀ w ∈ mWs μ, w.before args s = true) (h : mLkB μ' n) (hl : Cond.methodLink μ.1.cls idx μ'.1 ∈ mWd) : CallB (mRm (d + 1) μ) s args μ.1.cls idx μ'.1 μ'.2.1 μ'.2.2.1 μ'.2.2.2.1 (mWs μ') (mRm d μ') μ'.2.2.2.2.1 μ'.2.2.2.2.2 n := by
  obtain ⟨h1, h2, h3, h4⟩ := h
  refine callB_of n hts0 (mGood μ μ' h1) rfl rfl rfl (hts0 _ (List.mem_cons_of_mem _ h2)) (hts0 _ (List.mem_cons_of_mem _ hl)) h3 ⟨Nat.le_refl _, ?_⟩
  show 8 + (μ'.2.2.1 + 11) + 38 * d ≤ 38 * (d + 1)
  omega
theorem mPre {D : va_G} {E : Nat → ClassId} {lo : Nat} {s : State} {w : mW} {H : Heap} {as : List Value} (hlo : lo ≤ s.heap.size) (hK : mK D E s) (hR : mRep lo D E s w H) {A : Nat → Prop} {locs : List Loc} (hS : va_S A s.heap H locs) : ∀ U : State, U.heap = H → s.WarmedH U.vm → mPc D E lo as w as.toArray U := by
  intro U hU hW
  refine ⟨rfl, by rw [hU]; exact Nat.le_trans hlo hS.1, hK.warm hW, ?_⟩
  rw [hU]
  exact hR.moved hW.alike
section CROWS
variable {d : Nat} {μ : mM} {b : Nat × Nat} {pc : Nat} {lv : List (Option Value)} {st : List Value} {w : mW} {Q : Int32 → mW → Prop}
theorem g_callVi {μ' : mM} {idx a : Nat} {S : List Value} (ci n : Nat) (As : List Value) (hd : decode μ.2.1 pc = .ok (.invokevirtual idx, 3)) (hf : mLkV μ.1.cls idx μ' ci n) (hc : ci < 19) (hret : ∃ ty, μ'.2.2.2.1 = some ty) (hn : As.length = n) (hs : S = As.reverse ++ .ref a :: st) (hr : (st.map fun v => v.category).sum ≤ 8) (hb : b.1 + μ'.2.2.2.2.1 ≤ μ.2.2.2.2.1 ∧ b.2 + μ'.2.2.2.2.2 ≤ μ.2.2.2.2.2) (b' : Nat × Nat) (hb' : (b.1 + μ'.2.2.2.2.1, b.2 + μ'.2.2.2.2.2) = b')
    (kk : mT w a = ci + 1 ∧ mC d μ' (.ref a :: As) w (fun r w' => mG (d + 1) μ b' (pc + 3) lv (.int r :: st) w' Q)) : mG (d + 1) μ b pc lv S w Q := by
  subst hs
  subst hb'
  obtain ⟨ht, Q0, hQ, hM⟩ := kk
  intro l p e s m args below meth c s₁ D E lo B hml hK hlo ls H locs hl hR hS
  have hts : ∀ w ∈ mWd, w.before args s = true := fun w h => atoms_spec (ws := mWs μ) B.pre w (List.mem_cons_of_mem _ h)
  have hown : s.vm.findClass μ.1.cls = some m.cls := findClass_of_methodNamed B.named
  obtain ⟨hB, hw1, hw2, hw3, q, hq, hqC⟩ := hf
  obtain ⟨-, -, cell, q1, q2, q3, -⟩ := hR.obj ht hc hq
  have hcw : CallW (mRm (d + 1) μ) s args μ.1.cls μ'.1.cls idx μ'.1 μ'.2.1 μ'.2.2.1 μ'.2.2.2.1 (mWs μ') (mRm d μ') μ'.2.2.2.2.1 μ'.2.2.2.2.2 n := ⟨mB (atoms_spec (ws := mWs μ) B.pre) hB hw1, hts _ hw2, hts _ hw3⟩
  have hrun := va_runV (H := H) (locs := locs) (cells := b.1) (slots := b.2) (e := e) (below := below) (meth := meth) (rest := st) (g := F0 m pc ls (As.reverse ++ .ref a :: st)) ⟨B.exec, B.bytes, hml, hown, atoms_spec (ws := mWs μ) B.pre⟩ (hM l D E lo) hcw ⟨mPc.blind D E lo _ w, ⟨cell, q1, by rw [q3]; rfl, by rw [q2, ← hqC]; exact (hK.1.1 ci q hq).2.1⟩, mPre hlo hK hR hS⟩ rfl hn hl.1 rfl (lv_room hr) hd hb
  exact mRun (fun r => .int r :: st) (by obtain ⟨ty, h⟩ := hret; intro r; rw [h]; rfl) B hml hK hlo hl hS hrun hQ
theorem g_callSi {μ' : mM} {idx : Nat} {S : List Value} (n : Nat) (As : List Value) (hd : decode μ.2.1 pc = .ok (.invokestatic idx, 3)) (hf : mLkS μ.1.cls idx μ' n) (hret : ∃ ty, μ'.2.2.2.1 = some ty) (hn : As.length = n) (hs : S = As.reverse ++ st) (hr : (st.map fun v => v.category).sum ≤ 8) (hb : b.1 + μ'.2.2.2.2.1 ≤ μ.2.2.2.2.1 ∧ b.2 + μ'.2.2.2.2.2 ≤ μ.2.2.2.2.2) (b' : Nat × Nat) (hb' : (b.1 + μ'.2.2.2.2.1, b.2 + μ'.2.2.2.2.2) = b')
    (kk : mC d μ' As w (fun r w' => mG (d + 1) μ b' (pc + 3) lv (.int r :: st) w' Q)) : mG (d + 1) μ b pc lv S w Q := by
  subst hs
  subst hb'
  obtain ⟨Q0, hQ, hM⟩ := kk
  intro l p e s m args below meth c s₁ D E lo B hml hK hlo ls H locs hl hR hS
  have hts : ∀ w ∈ mWd, w.before args s = true := fun w h => atoms_spec (ws := mWs μ) B.pre w (List.mem_cons_of_mem _ h)
  have hown : s.vm.findClass μ.1.cls = some m.cls := findClass_of_methodNamed B.named
  obtain ⟨hB, hw1, hw2⟩ := hf
  have hrun := va_runS (H := H) (locs := locs) (cells := b.1) (slots := b.2) (e := e) (below := below) (meth := meth) (rest := st) (g := F0 m pc ls (As.reverse ++ st)) ⟨B.exec, B.bytes, hml, hown, atoms_spec (ws := mWs μ) B.pre⟩ (hM l D E lo) ⟨mB (d := d) (atoms_spec (ws := mWs μ) B.pre) hB hw1, hts _ hw2⟩ ⟨mPc.blind D E lo _ w, mPre hlo hK hR hS⟩ rfl hn hl.1 rfl (lv_room hr) hd hb
  exact mRun (fun r => .int r :: st) (by obtain ⟨ty, h⟩ := hret; intro r; rw [h]; rfl) B hml hK hlo hl hS hrun hQ
theorem g_callSNi {μ' : mM} {idx : Nat} {S : List Value} (n : Nat) (host : String) (As : List Value) (hd : decode μ.2.1 pc = .ok (.invokestatic idx, 3)) (hf : mLkSN μ.1.cls idx μ' n host) (hret : ∃ ty, μ'.2.2.2.1 = some ty) (hn : As.length = n) (hs : S = As.reverse ++ st) (hr : (st.map fun v => v.category).sum ≤ 8) (hb : b.1 + μ'.2.2.2.2.1 ≤ μ.2.2.2.2.1 ∧ b.2 + μ'.2.2.2.2.2 ≤ μ.2.2.2.2.2) (b' : Nat × Nat) (hb' : (b.1 + μ'.2.2.2.2.1, b.2 + μ'.2.2.2.2.2) = b')
    (kk : mC d μ' As w (fun r w' => mG (d + 1) μ b' (pc + 3) lv (.int r :: st) w' Q)) : mG (d + 1) μ b pc lv S w Q := by
  subst hs
  subst hb'
  obtain ⟨Q0, hQ, hM⟩ := kk
  intro l p e s m args below meth c s₁ D E lo B hml hK hlo ls H locs hl hR hS
  have hts : ∀ w ∈ mWd, w.before args s = true := fun w h => atoms_spec (ws := mWs μ) B.pre w (List.mem_cons_of_mem _ h)
  have hown : s.vm.findClass μ.1.cls = some m.cls := findClass_of_methodNamed B.named
  obtain ⟨⟨h1, h2, h3, h4⟩, hw1, hw2⟩ := hf
  have hcn : va_CN (mRm (d + 1) μ) s args μ.1.cls idx μ'.1 host μ'.2.1 μ'.2.2.1 μ'.2.2.2.1 (mWs μ') (mRm d μ') μ'.2.2.2.2.1 μ'.2.2.2.2.2 n := va_cnB n (atoms_spec (ws := mWs μ) B.pre) (mGood μ μ' h1) rfl rfl rfl (hK.2.2 _ hw1) (hts _ h2) h3 ⟨Nat.le_refl _, by show 8 + (μ'.2.2.1 + 11) + 38 * d ≤ 38 * (d + 1); omega⟩
  have hrun := va_runSN (H := H) (locs := locs) (cells := b.1) (slots := b.2) (e := e) (below := below) (meth := meth) (rest := st) (g := F0 m pc ls (As.reverse ++ st)) ⟨B.exec, B.bytes, hml, hown, atoms_spec (ws := mWs μ) B.pre⟩ (hM l D E lo) ⟨hcn, hts _ hw2, trivial⟩ ⟨mPc.blind D E lo _ w, mPre hlo hK hR hS⟩ rfl hn hl.1 rfl (lv_room hr) hd hb
  exact mRun (fun r => .int r :: st) (by obtain ⟨ty, h⟩ := hret; intro r; rw [h]; rfl) B hml hK hlo hl hS hrun hQ
theorem g_callVv {μ' : mM} {idx a : Nat} {S : List Value} (ci n : Nat) (As : List Value) (hd : decode μ.2.1 pc = .ok (.invokevirtual idx, 3)) (hf : mLkV μ.1.cls idx μ' ci n) (hc : ci < 19) (hret : μ'.2.2.2.1 = none) (hn : As.length = n) (hs : S = As.reverse ++ .ref a :: st) (hr : (st.map fun v => v.category).sum ≤ 8) (hb : b.1 + μ'.2.2.2.2.1 ≤ μ.2.2.2.2.1 ∧ b.2 + μ'.2.2.2.2.2 ≤ μ.2.2.2.2.2) (b' : Nat × Nat) (hb' : (b.1 + μ'.2.2.2.2.1, b.2 + μ'.2.2.2.2.2) = b')
    (kk : mT w a = ci + 1 ∧ mC d μ' (.ref a :: As) w (fun r w' => mG (d + 1) μ b' (pc + 3) lv (st) w' Q)) : mG (d + 1) μ b pc lv S w Q := by
  subst hs
  subst hb'
  obtain ⟨ht, Q0, hQ, hM⟩ := kk
  intro l p e s m args below meth c s₁ D E lo B hml hK hlo ls H locs hl hR hS
  have hts : ∀ w ∈ mWd, w.before args s = true := fun w h => atoms_spec (ws := mWs μ) B.pre w (List.mem_cons_of_mem _ h)
  have hown : s.vm.findClass μ.1.cls = some m.cls := findClass_of_methodNamed B.named
  obtain ⟨hB, hw1, hw2, hw3, q, hq, hqC⟩ := hf
  obtain ⟨-, -, cell, q1, q2, q3, -⟩ := hR.obj ht hc hq
  have hcw : CallW (mRm (d + 1) μ) s args μ.1.cls μ'.1.cls idx μ'.1 μ'.2.1 μ'.2.2.1 μ'.2.2.2.1 (mWs μ') (mRm d μ') μ'.2.2.2.2.1 μ'.2.2.2.2.2 n := ⟨mB (atoms_spec (ws := mWs μ) B.pre) hB hw1, hts _ hw2, hts _ hw3⟩
  have hrun := va_runV (H := H) (locs := locs) (cells := b.1) (slots := b.2) (e := e) (below := below) (meth := meth) (rest := st) (g := F0 m pc ls (As.reverse ++ .ref a :: st)) ⟨B.exec, B.bytes, hml, hown, atoms_spec (ws := mWs μ) B.pre⟩ (hM l D E lo) hcw ⟨mPc.blind D E lo _ w, ⟨cell, q1, by rw [q3]; rfl, by rw [q2, ← hqC]; exact (hK.1.1 ci q hq).2.1⟩, mPre hlo hK hR hS⟩ rfl hn hl.1 rfl (lv_room hr) hd hb
  exact mRun (fun _ => st) (by intro r; rw [hret]; rfl) B hml hK hlo hl hS hrun hQ
theorem g_callIv {μ' : mM} {idx a : Nat} {S : List Value} (n : Nat) (As : List Value) (hd : decode μ.2.1 pc = .ok (.invokespecial idx, 3)) (hf : mLkI μ.1.cls idx μ' n) (hret : μ'.2.2.2.1 = none) (hn : As.length = n) (hs : S = As.reverse ++ .ref a :: st) (hr : (st.map fun v => v.category).sum ≤ 8) (hb : b.1 + μ'.2.2.2.2.1 ≤ μ.2.2.2.2.1 ∧ b.2 + μ'.2.2.2.2.2 ≤ μ.2.2.2.2.2) (b' : Nat × Nat) (hb' : (b.1 + μ'.2.2.2.2.1, b.2 + μ'.2.2.2.2.2) = b')
    (kk : mC d μ' (.ref a :: As) w (fun r w' => mG (d + 1) μ b' (pc + 3) lv (st) w' Q)) : mG (d + 1) μ b pc lv S w Q := by
  subst hs
  subst hb'
  obtain ⟨Q0, hQ, hM⟩ := kk
  intro l p e s m args below meth c s₁ D E lo B hml hK hlo ls H locs hl hR hS
  have hts : ∀ w ∈ mWd, w.before args s = true := fun w h => atoms_spec (ws := mWs μ) B.pre w (List.mem_cons_of_mem _ h)
  have hown : s.vm.findClass μ.1.cls = some m.cls := findClass_of_methodNamed B.named
  obtain ⟨hB, hw1, hw2, hy⟩ := hf
  have hM := hM l D E lo
  have hB := mB (d := d) (atoms_spec (ws := mWs μ) B.pre) hB hw1
  have hrun := va_runI (H := H) (locs := locs) (cells := b.1) (slots := b.2) (e := e) (below := below) (meth := meth) (rest := st) (g := F0 m pc ls (As.reverse ++ .ref a :: st)) ⟨B.exec, B.bytes, hml, hown, atoms_spec (ws := mWs μ) B.pre⟩ hM ⟨by rw [hret] at hB; exact hB, hy, hts _ hw2⟩ ⟨mPc.blind D E lo _ w, mPre hlo hK hR hS⟩ rfl hn hl.1 rfl (lv_room hr) hd hb
  exact mRun (fun _ => st) (by intro r; rw [hret]; rfl) B hml hK hlo hl hS hrun hQ
theorem g_callSv {μ' : mM} {idx : Nat} {S : List Value} (n : Nat) (As : List Value) (hd : decode μ.2.1 pc = .ok (.invokestatic idx, 3)) (hf : mLkS μ.1.cls idx μ' n) (hret : μ'.2.2.2.1 = none) (hn : As.length = n) (hs : S = As.reverse ++ st) (hr : (st.map fun v => v.category).sum ≤ 8) (hb : b.1 + μ'.2.2.2.2.1 ≤ μ.2.2.2.2.1 ∧ b.2 + μ'.2.2.2.2.2 ≤ μ.2.2.2.2.2) (b' : Nat × Nat) (hb' : (b.1 + μ'.2.2.2.2.1, b.2 + μ'.2.2.2.2.2) = b')
    (kk : mC d μ' As w (fun r w' => mG (d + 1) μ b' (pc + 3) lv (st) w' Q)) : mG (d + 1) μ b pc lv S w Q := by
  subst hs
  subst hb'
  obtain ⟨Q0, hQ, hM⟩ := kk
  intro l p e s m args below meth c s₁ D E lo B hml hK hlo ls H locs hl hR hS
  have hts : ∀ w ∈ mWd, w.before args s = true := fun w h => atoms_spec (ws := mWs μ) B.pre w (List.mem_cons_of_mem _ h)
  have hown : s.vm.findClass μ.1.cls = some m.cls := findClass_of_methodNamed B.named
  obtain ⟨hB, hw1, hw2⟩ := hf
  have hrun := va_runS (H := H) (locs := locs) (cells := b.1) (slots := b.2) (e := e) (below := below) (meth := meth) (rest := st) (g := F0 m pc ls (As.reverse ++ st)) ⟨B.exec, B.bytes, hml, hown, atoms_spec (ws := mWs μ) B.pre⟩ (hM l D E lo) ⟨mB (d := d) (atoms_spec (ws := mWs μ) B.pre) hB hw1, hts _ hw2⟩ ⟨mPc.blind D E lo _ w, mPre hlo hK hR hS⟩ rfl hn hl.1 rfl (lv_room hr) hd hb
  exact mRun (fun _ => st) (by intro r; rw [hret]; rfl) B hml hK hlo hl hS hrun hQ
theorem g_callSNv {μ' : mM} {idx : Nat} {S : List Value} (n : Nat) (host : String) (As : List Value) (hd : decode μ.2.1 pc = .ok (.invokestatic idx, 3)) (hf : mLkSN μ.1.cls idx μ' n host) (hret : μ'.2.2.2.1 = none) (hn : As.length = n) (hs : S = As.reverse ++ st) (hr : (st.map fun v => v.category).sum ≤ 8) (hb : b.1 + μ'.2.2.2.2.1 ≤ μ.2.2.2.2.1 ∧ b.2 + μ'.2.2.2.2.2 ≤ μ.2.2.2.2.2) (b' : Nat × Nat) (hb' : (b.1 + μ'.2.2.2.2.1, b.2 + μ'.2.2.2.2.2) = b')
    (kk : mC d μ' As w (fun r w' => mG (d + 1) μ b' (pc + 3) lv (st) w' Q)) : mG (d + 1) μ b pc lv S w Q := by
  subst hs
  subst hb'
  obtain ⟨Q0, hQ, hM⟩ := kk
  intro l p e s m args below meth c s₁ D E lo B hml hK hlo ls H locs hl hR hS
  have hts : ∀ w ∈ mWd, w.before args s = true := fun w h => atoms_spec (ws := mWs μ) B.pre w (List.mem_cons_of_mem _ h)
  have hown : s.vm.findClass μ.1.cls = some m.cls := findClass_of_methodNamed B.named
  obtain ⟨⟨h1, h2, h3, h4⟩, hw1, hw2⟩ := hf
  have hcn : va_CN (mRm (d + 1) μ) s args μ.1.cls idx μ'.1 host μ'.2.1 μ'.2.2.1 μ'.2.2.2.1 (mWs μ') (mRm d μ') μ'.2.2.2.2.1 μ'.2.2.2.2.2 n := va_cnB n (atoms_spec (ws := mWs μ) B.pre) (mGood μ μ' h1) rfl rfl rfl (hK.2.2 _ hw1) (hts _ h2) h3 ⟨Nat.le_refl _, by show 8 + (μ'.2.2.1 + 11) + 38 * d ≤ 38 * (d + 1); omega⟩
  have hrun := va_runSN (H := H) (locs := locs) (cells := b.1) (slots := b.2) (e := e) (below := below) (meth := meth) (rest := st) (g := F0 m pc ls (As.reverse ++ st)) ⟨B.exec, B.bytes, hml, hown, atoms_spec (ws := mWs μ) B.pre⟩ (hM l D E lo) ⟨hcn, hts _ hw2, trivial⟩ ⟨mPc.blind D E lo _ w, mPre hlo hK hR hS⟩ rfl hn hl.1 rfl (lv_room hr) hd hb
  exact mRun (fun _ => st) (by intro r; rw [hret]; rfl) B hml hK hlo hl hS hrun hQ
theorem g_objInit {idx a : Nat} (hd : decode μ.2.1 pc = .ok (.invokespecial idx, 3)) (hf : mLkO μ.1.cls idx) (hr : (st.map fun v => v.category).sum ≤ 8) (kk : mG (d + 1) μ b (pc + 3) lv st w Q) : mG (d + 1) μ b pc lv (.ref a :: st) w Q := by
  intro l p e s m args below meth c s₁ D E lo B hml hK hlo ls H locs hl hR hS
  have hts : ∀ w ∈ mWd, w.before args s = true := fun w h => atoms_spec (ws := mWs μ) B.pre w (List.mem_cons_of_mem _ h)
  have hown : s.vm.findClass μ.1.cls = some m.cls := findClass_of_methodNamed B.named
  exact W.objInit B.exec B.bytes hown (hts _ hf.1) (hts _ hf.2.1) (hts _ hf.2.2) rfl (by rw [hml]; exact hl.1) rfl hd (by show 1 ≤ d + 1; omega) (by show 2 * 0 + _ + 12 ≤ 38 * (d + 1); omega) (kk l p e s m args below meth c s₁ D E lo B hml hK hlo ls H locs hl hR hS)
theorem g_mmax {idx : Nat} {x y : Int32} (hd : decode μ.2.1 pc = .ok (.invokestatic idx, 3)) (hf : mLkX μ.1.cls idx) (hr : (st.map fun v => v.category).sum ≤ 8) (hb : b.1 ≤ μ.2.2.2.2.1 ∧ b.2 ≤ μ.2.2.2.2.2) (kk : mG (d + 1) μ b (pc + 3) lv (.int (if x < y then y else x) :: st) w Q) : mG (d + 1) μ b pc lv (.int y :: .int x :: st) w Q := by
  intro l p e s m args below meth c s₁ D E lo B hml hK hlo ls H locs hl hR hS
  have hts : ∀ w ∈ mWd, w.before args s = true := fun w h => atoms_spec (ws := mWs μ) B.pre w (List.mem_cons_of_mem _ h)
  have hown : s.vm.findClass μ.1.cls = some m.cls := findClass_of_methodNamed B.named
  exact va_mmax B.exec B.bytes (by rw [hml]; exact hl.1.symm) hown (hts _ hf.1) (hts _ hf.2.1) (hts _ hf.2.2.1) (hts _ hf.2.2.2) (by show 1 ≤ d + 1; omega) (by show _ + 13 ≤ 38 * (d + 1); omega) hb.1 hb.2 hd (kk l p e s m args below meth c s₁ D E lo B hml hK hlo ls H locs hl hR hS)
theorem g_acopy {idx a0 a : Nat} {sp dp n : Int32} (hd : decode μ.2.1 pc = .ok (.invokestatic idx, 3)) (hf : mLkA μ.1.cls idx) (hr : (st.map fun v => v.category).sum ≤ 8)
    (kk : mT w a0 = 20 ∧ mT w a = 20 ∧ (¬ sp < 0 ∧ ¬ dp < 0 ∧ ¬ n < 0 ∧ sp.toNatClampNeg + n.toNatClampNeg ≤ mL w a0 ∧ dp.toNatClampNeg + n.toNatClampNeg ≤ mL w a) ∧ mG (d + 1) μ b (pc + 3) lv st (wrC w a0 sp.toNatClampNeg a dp.toNatClampNeg n.toNatClampNeg) Q) : mG (d + 1) μ b pc lv (.int n :: .int dp :: .ref a :: .int sp :: .ref a0 :: st) w Q := by
  obtain ⟨ht0, ht1, ⟨h1, h2, h3, h4, h5⟩, kk⟩ := kk
  intro l p e s m args below meth c s₁ D E lo B hml hK hlo ls H locs hl hR hS
  have hts : ∀ w ∈ mWd, w.before args s = true := fun w h => atoms_spec (ws := mWs μ) B.pre w (List.mem_cons_of_mem _ h)
  have hown : s.vm.findClass μ.1.cls = some m.cls := findClass_of_methodNamed B.named
  have nn : ∀ z : Int32, ¬ z < 0 → z.toInt = (z.toNatClampNeg : Int) := by
    intro z hz
    have hz0 : (0 : Int) ≤ z.toInt := by
      have := Int32.not_lt.mp hz
      simpa using Int32.le_iff_toInt_le.mp this
    show z.toInt = ((z.toInt.toNat : Nat) : Int)
    omega
  intro T hT X
  obtain ⟨-, hc0⟩ := hR.ints ht0
  obtain ⟨hloa, hc1⟩ := hR.ints ht1
  have hA0 := (hK.1.2 0 (E 0, .int) rfl).1
  obtain ⟨-, k0, hk0, cm0, hkk0⟩ := hA0 (mL w a0) (fun j => .int (mI w a0 j))
  obtain ⟨-, k1, hk1, cm1, hkk1⟩ := hA0 (mL w a) (fun j => .int (mI w a j))
  obtain ⟨vm', X', step⟩ := X.arraycopy B.exec hown (hts _ hf.1) (hts _ hf.2.1) (hts _ hf.2.2.1) (hts _ hf.2.2.2) (src := a0) (dst := a) (cs := arrV (E 0) (mL w a0) (fun j => .int (mI w a0 j))) (cd := arrV (E 0) (mL w a) (fun j => .int (mI w a j))) (srcPos := sp) (destPos := dp) (n := n) (by rw [hT]; exact hc0) (by rw [hT]; exact hc1)
    (fun _ h => by cases h) (fun _ h => by cases h) (fun h => by cases h) (fun h => by cases h) hk0 hk1 hkk0 hkk1 (by simp [refKind]) h1 h2 h3
    (by rw [nn sp h1, nn n h3]; rw [arrV_size]; omega)
    (by rw [nn dp h2, nn n h3]; rw [arrV_size]; omega)
    (fun vm₁ _ i hi => by
      have e : (arrV (E 0) (mL w a0) (fun j => Value.int (mI w a0 j))).slots.getD (sp.toNatClampNeg + i) .null = .int (mI w a0 (sp.toNatClampNeg + i)) := by
        rw [Array.getD_eq_getD_getElem?, arrV_read _ _ (by omega)]
        rfl
      refine ⟨?_, ?_⟩
      · rw [e]
        rfl
      · rw [e]
        exact trivial)
    (g := F0 m pc ls (.int n :: .int dp :: .ref a :: .int sp :: .ref a0 :: st)) rfl (by rw [hml]; exact hl.1) (rest := st) rfl (by rw [B.bytes]; exact hd) (by show 1 ≤ d + 1; omega) (by show 2 * 0 + _ + (5 + 2 + 11) ≤ 38 * (d + 1); omega)
  have e1 : copied (arrV (E 0) (mL w a0) (fun j => .int (mI w a0 j))) (arrV (E 0) (mL w a) (fun j => .int (mI w a j))) sp dp n = arrV (E 0) (mL w a) (fun j => .int (va_cpy (mI w a0) (mI w a) sp.toNatClampNeg dp.toNatClampNeg n.toNatClampNeg j)) := va_copied (fun z => .int z) (E 0) (E 0) (mI w a0) (mI w a) h4
  rw [e1] at X' step
  have hla : a < H.size := (Array.getElem?_eq_some_iff.mp hc1).1
  generalize hcell : arrV (E 0) (mL w a) (fun j => Value.int (va_cpy (mI w a0) (mI w a) sp.toNatClampNeg dp.toNatClampNeg n.toNatClampNeg j)) = cell at X' step
  have hheap : ((T.setVm vm').setCell a cell).heap = H.setIfInBounds a cell := by rw [← hT]; rfl
  have oq : ∀ q : Nat, q ≠ a → (H.setIfInBounds a cell)[q]? = H[q]? := fun q hq => by simp [Array.getElem?_setIfInBounds, Ne.symm hq]
  have sq : (H.setIfInBounds a cell)[a]? = some cell := by simp [Array.getElem?_setIfInBounds, hla]
  have zq : (H.setIfInBounds a cell).size = H.size := by simp
  have hR1 : mRep lo D E s (wrC w a0 sp.toNatClampNeg a dp.toNatClampNeg n.toNatClampNeg) (H.setIfInBounds a cell) := by
    refine hR.put zq oq hloa (fun _ => rfl) (fun _ => rfl) rfl (fun q hq => ?_) (fun q hq => rfl) ?_
    · funext j
      rw [mI_wrC, if_neg (fun z => hq z.1)]
    · refine ⟨fun z => by omega, fun z => ?_, fun z => by omega, fun z => by omega, fun z => by omega⟩
      rw [sq, ← hcell]
      congr 2
      funext j
      rw [mI_wrC]
      simp only [va_cpy, true_and]
  obtain ⟨t, a1, b1⟩ := kk l p e s m args below meth c s₁ D E lo B hml hK hlo ls _ _ hl hR1 ⟨by rw [zq]; exact hS.1, fun q g1 g2 => by
      rw [oq q (fun e => g2 (by rw [e]; exact hloa))]
      exact hS.2.1 q g1 g2, fun q hq => by
      rcases List.mem_append.mp hq with h | h
      · exact hS.2.2 q h
      · obtain ⟨z, -, hz⟩ := List.mem_map.mp h
        rw [← hz]
        exact hloa⟩ _ hheap X'
  exact ⟨t, step t a1, b1⟩
theorem g_switch {dflt lo' hi : Int} {offs : Array Int} {len : Nat} {x : Int32} (n : Nat) (off : Int) (tgt : Nat) (hd : decode μ.2.1 pc = .ok (.tableswitch dflt lo' hi offs, len)) (hx : x = nI n) (hn : n < 2 ^ 31) (h1 : ¬ (n : Int) < lo') (h2 : ¬ hi < (n : Int)) (ho : offs[((n : Int) - lo').toNat]? = some off) (ht : (pc : Int) + off = (tgt : Int)) (kk : mG d μ b tgt lv st w Q) : mG d μ b pc lv (.int x :: st) w Q := by
  subst hx
  intro l p e s m args below meth c s₁ D E lo B hml hK hlo ls H locs hl hR hS
  have e0 : (nI n).toInt = (n : Int) := nI_toInt hn
  exact lv_tableIn B.exec B.bytes hd (by rw [e0]; exact h1) (by rw [e0]; exact h2) (by rw [e0]; exact ho) ht (kk l p e s m args below meth c s₁ D E lo B hml hK hlo ls H locs hl hR hS)
end CROWS
end
section
/-! methods and links -/
abbrev m_Do_init : mM := (⟨"ReplicaDocument","<init>","()V"⟩, prog_1_method_1_code, 2, none, 119, 1000)
abbrev m_Do_edit : mM := (⟨"ReplicaDocument","edit","(IIIII)I"⟩, prog_1_method_2_code, 6, some .int, 0, 0)
abbrev m_Do_emit : mM := (⟨"ReplicaDocument","emit","(II)I"⟩, prog_1_method_3_code, 4, some .int, 0, 0)
abbrev m_Do_wire : mM := (⟨"ReplicaDocument","wire","(I)I"⟩, prog_1_method_4_code, 2, some .int, 0, 0)
abbrev m_Do_alter : mM := (⟨"ReplicaDocument","alter","(II)Z"⟩, prog_1_method_5_code, 3, some .boolean, 0, 0)
abbrev m_Do_cut : mM := (⟨"ReplicaDocument","cut","(I)Z"⟩, prog_1_method_6_code, 2, some .boolean, 0, 0)
abbrev m_Do_receive : mM := (⟨"ReplicaDocument","receive","(I)I"⟩, prog_1_method_7_code, 2, some .int, 0, 0)
abbrev m_Do_held : mM := (⟨"ReplicaDocument","held","(I)I"⟩, prog_1_method_8_code, 2, some .int, 0, 0)
abbrev m_Do_log : mM := (⟨"ReplicaDocument","log","(II)I"⟩, prog_1_method_9_code, 4, some .int, 0, 0)
abbrev m_Do_past : mM := (⟨"ReplicaDocument","past","(III)Z"⟩, prog_1_method_10_code, 7, some .boolean, 0, 0)
abbrev m_Do_heads : mM := (⟨"ReplicaDocument","heads","(I)I"⟩, prog_1_method_11_code, 2, some .int, 0, 0)
abbrev m_Do_entry : mM := (⟨"ReplicaDocument","entry","(IIII)I"⟩, prog_1_method_12_code, 5, some .int, 0, 0)
abbrev m_Do_element : mM := (⟨"ReplicaDocument","element","(III)I"⟩, prog_1_method_13_code, 4, some .int, 0, 0)
abbrev m_Do_value : mM := (⟨"ReplicaDocument","value","(II)I"⟩, prog_1_method_14_code, 4, some .int, 0, 0)
abbrev m_Do_depth : mM := (⟨"ReplicaDocument","depth","(II)I"⟩, prog_1_method_15_code, 3, some .int, 0, 0)
abbrev m_Do_sum : mM := (⟨"ReplicaDocument","sum","(I)I"⟩, prog_1_method_16_code, 2, some .int, 0, 0)
abbrev m_Do_level : mM := (⟨"ReplicaDocument","level","(II)Z"⟩, prog_1_method_17_code, 3, some .boolean, 0, 0)
abbrev m_Do_isReplica : mM := (⟨"ReplicaDocument","isReplica","(I)Z"⟩, prog_1_method_18_code, 1, some .boolean, 0, 0)
abbrev m_Do_isKey : mM := (⟨"ReplicaDocument","isKey","(I)Z"⟩, prog_1_method_19_code, 1, some .boolean, 0, 0)
abbrev m_Do_isId : mM := (⟨"ReplicaDocument","isId","(I)Z"⟩, prog_1_method_20_code, 2, some .boolean, 0, 0)
abbrev m_Mo_init : mM := (⟨"ReplicaDocumentModel","<init>","()V"⟩, prog_7_method_1_code, 1, none, 10, 1000)
abbrev m_Mo_isReplica : mM := (⟨"ReplicaDocumentModel","isReplica","(I)Z"⟩, prog_7_method_2_code, 1, some .boolean, 0, 0)
abbrev m_Mo_isId : mM := (⟨"ReplicaDocumentModel","isId","(I)Z"⟩, prog_7_method_3_code, 1, some .boolean, 0, 0)
abbrev m_Mo_part : mM := (⟨"ReplicaDocumentModel","part","(II)I"⟩, prog_7_method_4_code, 3, some .int, 0, 0)
abbrev m_Mo_done : mM := (⟨"ReplicaDocumentModel","done","(I)Z"⟩, prog_7_method_5_code, 2, some .boolean, 0, 0)
abbrev m_Mo_find : mM := (⟨"ReplicaDocumentModel","find","(IZ)I"⟩, prog_7_method_6_code, 5, some .int, 0, 0)
abbrev m_Mo_has : mM := (⟨"ReplicaDocumentModel","has","(II)Z"⟩, prog_7_method_7_code, 5, some .boolean, 0, 0)
abbrev m_Mo_fits : mM := (⟨"ReplicaDocumentModel","fits","(III)Z"⟩, prog_7_method_8_code, 6, some .boolean, 0, 0)
abbrev m_Mo_study : mM := (⟨"ReplicaDocumentModel","study","(I)V"⟩, prog_7_method_9_code, 4, none, 0, 0)
abbrev m_Mo_widen : mM := (⟨"ReplicaDocumentModel","widen","(I)V"⟩, prog_7_method_10_code, 4, none, 0, 0)
abbrev m_Mo_isHead : mM := (⟨"ReplicaDocumentModel","isHead","(I)Z"⟩, prog_7_method_11_code, 5, some .boolean, 0, 0)
abbrev m_Mo_apply : mM := (⟨"ReplicaDocumentModel","apply","(I)V"⟩, prog_7_method_12_code, 2, none, 0, 0)
abbrev m_Mo_ready : mM := (⟨"ReplicaDocumentModel","ready","(I)Z"⟩, prog_7_method_13_code, 5, some .boolean, 0, 0)
abbrev m_Mo_settle : mM := (⟨"ReplicaDocumentModel","settle","()I"⟩, prog_7_method_14_code, 5, some .int, 0, 0)
abbrev m_Mo_edit : mM := (⟨"ReplicaDocumentModel","edit","(IIIII)I"⟩, prog_7_method_15_code, 12, some .int, 0, 0)
abbrev m_Mo_emit : mM := (⟨"ReplicaDocumentModel","emit","(II)I"⟩, prog_7_method_16_code, 5, some .int, 0, 0)
abbrev m_Mo_wire : mM := (⟨"ReplicaDocumentModel","wire","(I)I"⟩, prog_7_method_17_code, 2, some .int, 0, 0)
abbrev m_Mo_alter : mM := (⟨"ReplicaDocumentModel","alter","(II)Z"⟩, prog_7_method_18_code, 3, some .boolean, 0, 0)
abbrev m_Mo_cut : mM := (⟨"ReplicaDocumentModel","cut","(I)Z"⟩, prog_7_method_19_code, 2, some .boolean, 0, 0)
abbrev m_Mo_wellFormed : mM := (⟨"ReplicaDocumentModel","wellFormed","()Z"⟩, prog_7_method_20_code, 3, some .boolean, 0, 0)
abbrev m_Mo_says : mM := (⟨"ReplicaDocumentModel","says","(I)Z"⟩, prog_7_method_21_code, 4, some .boolean, 0, 0)
abbrev m_Mo_sameAsLine : mM := (⟨"ReplicaDocumentModel","sameAsLine","(I)Z"⟩, prog_7_method_22_code, 4, some .boolean, 0, 0)
abbrev m_Mo_receive : mM := (⟨"ReplicaDocumentModel","receive","(I)I"⟩, prog_7_method_23_code, 4, some .int, 0, 0)
abbrev m_Mo_held : mM := (⟨"ReplicaDocumentModel","held","(I)I"⟩, prog_7_method_24_code, 2, some .int, 0, 0)
abbrev m_Mo_log : mM := (⟨"ReplicaDocumentModel","log","(II)I"⟩, prog_7_method_25_code, 3, some .int, 0, 0)
abbrev m_Mo_past : mM := (⟨"ReplicaDocumentModel","past","(III)Z"⟩, prog_7_method_26_code, 6, some .boolean, 0, 0)
abbrev m_Mo_heads : mM := (⟨"ReplicaDocumentModel","heads","(I)I"⟩, prog_7_method_27_code, 4, some .int, 0, 0)
abbrev m_Mo_value : mM := (⟨"ReplicaDocumentModel","value","(II)I"⟩, prog_7_method_28_code, 4, some .int, 0, 0)
abbrev m_Mo_level : mM := (⟨"ReplicaDocumentModel","level","(II)Z"⟩, prog_7_method_29_code, 7, some .boolean, 0, 0)
abbrev m_Mo_alike : mM := (⟨"ReplicaDocumentModel","alike","(II)Z"⟩, prog_7_method_30_code, 5, some .boolean, 0, 0)
abbrev m_Mo_isEntry : mM := (⟨"ReplicaDocumentModel","isEntry","(I)Z"⟩, prog_7_method_31_code, 6, some .boolean, 0, 0)
abbrev m_Mo_entryPlace : mM := (⟨"ReplicaDocumentModel","entryPlace","(III)I"⟩, prog_7_method_32_code, 7, some .int, 0, 0)
abbrev m_Mo_isKind : mM := (⟨"ReplicaDocumentModel","isKind","(II)Z"⟩, prog_7_method_33_code, 4, some .boolean, 0, 0)
abbrev m_Mo_entry : mM := (⟨"ReplicaDocumentModel","entry","(IIII)I"⟩, prog_7_method_34_code, 6, some .int, 0, 0)
abbrev m_Mo_isElement : mM := (⟨"ReplicaDocumentModel","isElement","(II)Z"⟩, prog_7_method_35_code, 3, some .boolean, 0, 0)
abbrev m_Mo_gone : mM := (⟨"ReplicaDocumentModel","gone","(I)Z"⟩, prog_7_method_36_code, 4, some .boolean, 0, 0)
abbrev m_Mo_steps : mM := (⟨"ReplicaDocumentModel","steps","(I)I"⟩, prog_7_method_37_code, 5, some .int, 0, 0)
abbrev m_Mo_up : mM := (⟨"ReplicaDocumentModel","up","(II)I"⟩, prog_7_method_38_code, 5, some .int, 0, 0)
abbrev m_Mo_ahead : mM := (⟨"ReplicaDocumentModel","ahead","(II)Z"⟩, prog_7_method_39_code, 8, some .boolean, 0, 0)
abbrev m_Mo_elementPlace : mM := (⟨"ReplicaDocumentModel","elementPlace","(II)I"⟩, prog_7_method_40_code, 7, some .int, 0, 0)
abbrev m_Mo_element : mM := (⟨"ReplicaDocumentModel","element","(III)I"⟩, prog_7_method_41_code, 5, some .int, 0, 0)
abbrev m_Mo_depth : mM := (⟨"ReplicaDocumentModel","depth","(II)I"⟩, prog_7_method_42_code, 7, some .int, 0, 0)
abbrev m_Mo_mapTotal : mM := (⟨"ReplicaDocumentModel","mapTotal","(I)I"⟩, prog_7_method_43_code, 6, some .int, 0, 0)
abbrev m_Mo_listTotal : mM := (⟨"ReplicaDocumentModel","listTotal","(I)I"⟩, prog_7_method_44_code, 5, some .int, 0, 0)
abbrev m_Mo_sum : mM := (⟨"ReplicaDocumentModel","sum","(I)I"⟩, prog_7_method_45_code, 4, some .int, 0, 0)
abbrev m_Co_init : mM := (⟨"ReplicaDocument$Contents","<init>","()V"⟩, prog_2_method_1_code, 1, none, 2, 32)
abbrev m_Co_findEntry : mM := (⟨"ReplicaDocument$Contents","findEntry","(LReplicaDocument$Replica;III)I"⟩, prog_2_method_2_code, 8, some .int, 0, 0)
abbrev m_Co_isEntryAt : mM := (⟨"ReplicaDocument$Contents","isEntryAt","(LReplicaDocument$Replica;III)Z"⟩, prog_2_method_3_code, 6, some .boolean, 0, 0)
abbrev m_Co_isEntry : mM := (⟨"ReplicaDocument$Contents","isEntry","(LReplicaDocument$Replica;I)Z"⟩, prog_2_method_4_code, 5, some .boolean, 0, 0)
abbrev m_Co_writesSamePlace : mM := (⟨"ReplicaDocument$Contents","writesSamePlace","(LReplicaDocument$Replica;ILReplicaDocument$Operation;)Z"⟩, prog_2_method_5_code, 5, some .boolean, 0, 0)
abbrev m_Co_findElement : mM := (⟨"ReplicaDocument$Contents","findElement","(LReplicaDocument$Replica;II)I"⟩, prog_2_method_6_code, 8, some .int, 0, 0)
abbrev m_Co_arrange : mM := (⟨"ReplicaDocument$Contents","arrange","(LReplicaDocument$Replica;I)I"⟩, prog_2_method_7_code, 7, some .int, 0, 0)
abbrev m_Co_placeBehind : mM := (⟨"ReplicaDocument$Contents","placeBehind","(LReplicaDocument$Replica;III)V"⟩, prog_2_method_8_code, 6, none, 0, 0)
abbrev m_Co_isGone : mM := (⟨"ReplicaDocument$Contents","isGone","(LReplicaDocument$Replica;I)Z"⟩, prog_2_method_9_code, 6, some .boolean, 0, 0)
abbrev m_Co_countLevels : mM := (⟨"ReplicaDocument$Contents","countLevels","(LReplicaDocument$Replica;I)I"⟩, prog_2_method_10_code, 6, some .int, 0, 0)
abbrev m_Co_isShown : mM := (⟨"ReplicaDocument$Contents","isShown","(LReplicaDocument$Replica;I)Z"⟩, prog_2_method_11_code, 3, some .boolean, 0, 0)
abbrev m_Co_addUp : mM := (⟨"ReplicaDocument$Contents","addUp","(LReplicaDocument$Replica;)I"⟩, prog_2_method_12_code, 4, some .int, 0, 0)
abbrev m_Co_addUpMap : mM := (⟨"ReplicaDocument$Contents","addUpMap","(LReplicaDocument$Replica;I)I"⟩, prog_2_method_13_code, 7, some .int, 0, 0)
abbrev m_Co_addUpList : mM := (⟨"ReplicaDocument$Contents","addUpList","(LReplicaDocument$Replica;I)I"⟩, prog_2_method_14_code, 7, some .int, 0, 0)
abbrev m_Op_init : mM := (⟨"ReplicaDocument$Operation","<init>","()V"⟩, prog_3_method_1_code, 1, none, 1, 6)
abbrev m_Op_begin : mM := (⟨"ReplicaDocument$Operation","begin","(IIIII)V"⟩, prog_3_method_2_code, 6, none, 0, 0)
abbrev m_Op_copyFrom : mM := (⟨"ReplicaDocument$Operation","copyFrom","(LReplicaDocument$Operation;)V"⟩, prog_3_method_3_code, 2, none, 0, 0)
abbrev m_Op_addBefore : mM := (⟨"ReplicaDocument$Operation","addBefore","(I)Z"⟩, prog_3_method_4_code, 3, some .boolean, 0, 0)
abbrev m_Op_hasBefore : mM := (⟨"ReplicaDocument$Operation","hasBefore","(I)Z"⟩, prog_3_method_5_code, 3, some .boolean, 0, 0)
abbrev m_Op_writesToMap : mM := (⟨"ReplicaDocument$Operation","writesToMap","()Z"⟩, prog_3_method_6_code, 1, some .boolean, 0, 0)
abbrev m_Op_names : mM := (⟨"ReplicaDocument$Operation","names","(I)Z"⟩, prog_3_method_7_code, 2, some .boolean, 0, 0)
abbrev m_Op_namesOnlyBefore : mM := (⟨"ReplicaDocument$Operation","namesOnlyBefore","()Z"⟩, prog_3_method_8_code, 2, some .boolean, 0, 0)
abbrev m_Op_isBehindBefore : mM := (⟨"ReplicaDocument$Operation","isBehindBefore","()Z"⟩, prog_3_method_9_code, 2, some .boolean, 0, 0)
abbrev m_Op_hasSoundParts : mM := (⟨"ReplicaDocument$Operation","hasSoundParts","()Z"⟩, prog_3_method_10_code, 1, some .boolean, 0, 0)
abbrev m_Op_hasSoundValue : mM := (⟨"ReplicaDocument$Operation","hasSoundValue","()Z"⟩, prog_3_method_11_code, 2, some .boolean, 0, 0)
abbrev m_Op_hasSameBytesAs : mM := (⟨"ReplicaDocument$Operation","hasSameBytesAs","(LReplicaDocument$Operation;)Z"⟩, prog_3_method_12_code, 3, some .boolean, 0, 0)
abbrev m_Re_init : mM := (⟨"ReplicaDocument$Replica","<init>","(I)V"⟩, prog_4_method_1_code, 3, none, 36, 272)
abbrev m_Re_find : mM := (⟨"ReplicaDocument$Replica","find","(II)I"⟩, prog_4_method_2_code, 4, some .int, 0, 0)
abbrev m_Re_isMap : mM := (⟨"ReplicaDocument$Replica","isMap","(I)Z"⟩, prog_4_method_3_code, 3, some .boolean, 0, 0)
abbrev m_Re_isList : mM := (⟨"ReplicaDocument$Replica","isList","(I)Z"⟩, prog_4_method_4_code, 3, some .boolean, 0, 0)
abbrev m_Re_findInsert : mM := (⟨"ReplicaDocument$Replica","findInsert","(I)I"⟩, prog_4_method_5_code, 3, some .int, 0, 0)
abbrev m_Re_hasPlaceFor : mM := (⟨"ReplicaDocument$Replica","hasPlaceFor","(LReplicaDocument$Operation;)Z"⟩, prog_4_method_6_code, 4, some .boolean, 0, 0)
abbrev m_Re_hasInPast : mM := (⟨"ReplicaDocument$Replica","hasInPast","(II)Z"⟩, prog_4_method_7_code, 3, some .boolean, 0, 0)
abbrev m_Re_isHead : mM := (⟨"ReplicaDocument$Replica","isHead","(I)Z"⟩, prog_4_method_8_code, 3, some .boolean, 0, 0)
abbrev m_Re_countHeads : mM := (⟨"ReplicaDocument$Replica","countHeads","()I"⟩, prog_4_method_9_code, 3, some .int, 0, 0)
abbrev m_Re_issue : mM := (⟨"ReplicaDocument$Replica","issue","(LReplicaDocument$Operation;)I"⟩, prog_4_method_10_code, 3, some .int, 0, 0)
abbrev m_Re_greatestCount : mM := (⟨"ReplicaDocument$Replica","greatestCount","()I"⟩, prog_4_method_11_code, 1, some .int, 0, 0)
abbrev m_Re_gatherBefore : mM := (⟨"ReplicaDocument$Replica","gatherBefore","(LReplicaDocument$Operation;)Z"⟩, prog_4_method_12_code, 4, some .boolean, 0, 0)
abbrev m_Re_take : mM := (⟨"ReplicaDocument$Replica","take","(LReplicaDocument$Operation;)I"⟩, prog_4_method_13_code, 3, some .int, 0, 0)
abbrev m_Re_keep : mM := (⟨"ReplicaDocument$Replica","keep","(LReplicaDocument$Operation;)V"⟩, prog_4_method_14_code, 2, none, 0, 0)
abbrev m_Re_settle : mM := (⟨"ReplicaDocument$Replica","settle","()I"⟩, prog_4_method_15_code, 4, some .int, 0, 0)
abbrev m_Re_findLeastReady : mM := (⟨"ReplicaDocument$Replica","findLeastReady","()I"⟩, prog_4_method_16_code, 3, some .int, 0, 0)
abbrev m_Re_isReady : mM := (⟨"ReplicaDocument$Replica","isReady","(LReplicaDocument$Operation;)Z"⟩, prog_4_method_17_code, 3, some .boolean, 0, 0)
abbrev m_Re_applyWaiting : mM := (⟨"ReplicaDocument$Replica","applyWaiting","(I)V"⟩, prog_4_method_18_code, 3, none, 0, 0)
abbrev m_Re_gatherPast : mM := (⟨"ReplicaDocument$Replica","gatherPast","(LReplicaDocument$Operation;)I"⟩, prog_4_method_19_code, 5, some .int, 0, 0)
abbrev m_Re_fileById : mM := (⟨"ReplicaDocument$Replica","fileById","(I)V"⟩, prog_4_method_20_code, 3, none, 0, 0)
abbrev m_Re_hasAppliedSameAs : mM := (⟨"ReplicaDocument$Replica","hasAppliedSameAs","(LReplicaDocument$Replica;)Z"⟩, prog_4_method_21_code, 4, some .boolean, 0, 0)
abbrev m_Wi_init : mM := (⟨"ReplicaDocument$Wire","<init>","()V"⟩, prog_5_method_1_code, 1, none, 1, 16)
abbrev m_Wi_byteAt : mM := (⟨"ReplicaDocument$Wire","byteAt","(I)I"⟩, prog_5_method_2_code, 2, some .int, 0, 0)
abbrev m_Wi_change : mM := (⟨"ReplicaDocument$Wire","change","(II)Z"⟩, prog_5_method_3_code, 3, some .boolean, 0, 0)
abbrev m_Wi_shorten : mM := (⟨"ReplicaDocument$Wire","shorten","(I)Z"⟩, prog_5_method_4_code, 2, some .boolean, 0, 0)
abbrev m_Wi_write : mM := (⟨"ReplicaDocument$Wire","write","(LReplicaDocument$Operation;)V"⟩, prog_5_method_5_code, 2, none, 0, 0)
abbrev m_Wi_readInto : mM := (⟨"ReplicaDocument$Wire","readInto","(LReplicaDocument$Operation;)Z"⟩, prog_5_method_6_code, 4, some .boolean, 0, 0)
abbrev m_La_law : mM := (⟨"ReplicaDocumentLaw","law","([I)Z"⟩, code, 4, some .boolean, 600000, 7302250)
theorem l_C_Do_9 : Cond.classLink "ReplicaDocument" 9 mCre ∈ mWd := (tw_1 17 (by decide +kernel) rfl)
theorem l_F_Do_11 : mLkF "ReplicaDocument" 11 0 0 true := ⟨_, rfl, by decide, rfl, rfl, (tw_1 133 (by decide +kernel) rfl)⟩
theorem l_O_Do_1 : mLkO "ReplicaDocument" 1 := ⟨(tw_1 14 (by decide +kernel) rfl), (tw_1 15 (by decide +kernel) rfl), (tw_1 16 rfl rfl)⟩
theorem l_N_Do_18 : mLkN "ReplicaDocument" 18 4 2 := ⟨_, rfl, rfl, (tw_1 104 (by decide +kernel) rfl), (tw_1 105 (by decide +kernel) rfl), (tw_1 4 (by decide +kernel) rfl)⟩
theorem l_F_Do_21 : mLkF "ReplicaDocument" 21 0 1 true := ⟨_, rfl, by decide, rfl, rfl, (tw_1 134 (by decide +kernel) rfl)⟩
theorem l_N_Do_25 : mLkN "ReplicaDocument" 25 2 2 := ⟨_, rfl, rfl, (tw_1 117 (by decide +kernel) rfl), (tw_1 118 (by decide +kernel) rfl), (tw_1 5 (by decide +kernel) rfl)⟩
theorem l_F_Do_28 : mLkF "ReplicaDocument" 28 0 2 true := ⟨_, rfl, by decide, rfl, rfl, (tw_1 135 (by decide +kernel) rfl)⟩
theorem l_N_Do_32 : mLkN "ReplicaDocument" 32 1 7 := ⟨_, rfl, rfl, (tw_1 131 (by decide +kernel) rfl), (tw_1 26 (by decide +kernel) rfl), (tw_1 3 (by decide +kernel) rfl)⟩
theorem l_F_Do_35 : mLkF "ReplicaDocument" 35 0 3 true := ⟨_, rfl, by decide, rfl, rfl, (tw_1 136 (by decide +kernel) rfl)⟩
theorem l_B_Op_init : mLkB m_Op_init 0 := ⟨(tw_1 29 rfl rfl), (tw_1 3 (by decide +kernel) rfl), ⟨by decide, by decide, by decide +kernel⟩, by decide⟩
theorem l_I_Do_34 : mLkI "ReplicaDocument" 34 m_Op_init 0 := ⟨l_B_Op_init, (tw_1 132 (by decide +kernel) rfl), (tw_1 28 (by decide +kernel) rfl), rfl⟩
theorem l_B_Wi_init : mLkB m_Wi_init 0 := ⟨(tw_1 121 rfl rfl), (tw_1 5 (by decide +kernel) rfl), ⟨by decide, by decide, by decide +kernel⟩, by decide⟩
theorem l_I_Do_27 : mLkI "ReplicaDocument" 27 m_Wi_init 0 := ⟨l_B_Wi_init, (tw_1 119 (by decide +kernel) rfl), (tw_1 120 (by decide +kernel) rfl), rfl⟩
theorem l_B_Co_init : mLkB m_Co_init 0 := ⟨(tw_1 108 rfl rfl), (tw_1 4 (by decide +kernel) rfl), ⟨by decide, by decide, by decide +kernel⟩, by decide⟩
theorem l_I_Do_20 : mLkI "ReplicaDocument" 20 m_Co_init 0 := ⟨l_B_Co_init, (tw_1 106 (by decide +kernel) rfl), (tw_1 107 (by decide +kernel) rfl), rfl⟩
theorem l_N_Do_9 : mLkN "ReplicaDocument" 9 3 7 := ⟨_, rfl, rfl, (tw_1 17 (by decide +kernel) rfl), (tw_1 19 (by decide +kernel) rfl), (tw_1 2 (by decide +kernel) rfl)⟩
theorem l_B_Re_init : mLkB m_Re_init 1 := ⟨(tw_1 22 rfl rfl), (tw_1 2 (by decide +kernel) rfl), ⟨by decide, by decide, by decide +kernel⟩, by decide⟩
theorem l_I_Do_15 : mLkI "ReplicaDocument" 15 m_Re_init 1 := ⟨l_B_Re_init, (tw_1 20 (by decide +kernel) rfl), (tw_1 21 (by decide +kernel) rfl), rfl⟩
theorem l_B_Re_issue : mLkB m_Re_issue 1 := ⟨(tw_1 198 rfl rfl), (tw_1 2 (by decide +kernel) rfl), ⟨by decide, by decide, by decide +kernel⟩, by decide⟩
theorem l_V_Do_55 : mLkV "ReplicaDocument" 55 m_Re_issue 3 1 := ⟨l_B_Re_issue, (tw_1 195 (by decide +kernel) rfl), (tw_1 196 (by decide +kernel) rfl), (tw_1 197 (by decide +kernel) rfl), _, rfl, rfl⟩
theorem l_B_Re_hasPlaceFor : mLkB m_Re_hasPlaceFor 1 := ⟨(tw_1 178 rfl rfl), (tw_1 2 (by decide +kernel) rfl), ⟨by decide, by decide, by decide +kernel⟩, by decide⟩
theorem l_V_Do_51 : mLkV "ReplicaDocument" 51 m_Re_hasPlaceFor 3 1 := ⟨l_B_Re_hasPlaceFor, (tw_1 175 (by decide +kernel) rfl), (tw_1 176 (by decide +kernel) rfl), (tw_1 177 (by decide +kernel) rfl), _, rfl, rfl⟩
theorem l_B_Op_hasSoundParts : mLkB m_Op_hasSoundParts 0 := ⟨(tw_1 160 rfl rfl), (tw_1 3 (by decide +kernel) rfl), ⟨by decide, by decide, by decide +kernel⟩, by decide⟩
theorem l_V_Do_47 : mLkV "ReplicaDocument" 47 m_Op_hasSoundParts 1 0 := ⟨l_B_Op_hasSoundParts, (tw_1 157 (by decide +kernel) rfl), (tw_1 158 (by decide +kernel) rfl), (tw_1 159 (by decide +kernel) rfl), _, rfl, rfl⟩
theorem l_B_Op_begin : mLkB m_Op_begin 5 := ⟨(tw_1 156 rfl rfl), (tw_1 3 (by decide +kernel) rfl), ⟨by decide, by decide, by decide +kernel⟩, by decide⟩
theorem l_V_Do_43 : mLkV "ReplicaDocument" 43 m_Op_begin 1 5 := ⟨l_B_Op_begin, (tw_1 153 (by decide +kernel) rfl), (tw_1 154 (by decide +kernel) rfl), (tw_1 155 (by decide +kernel) rfl), _, rfl, rfl⟩
theorem l_B_Do_isReplica : mLkB m_Do_isReplica 1 := ⟨(tw_1 152 rfl rfl), (tw_1 1 (by decide +kernel) rfl), ⟨by decide, by decide, by decide +kernel⟩, by decide⟩
theorem l_S_Do_39 : mLkS "ReplicaDocument" 39 m_Do_isReplica 1 := ⟨l_B_Do_isReplica, (tw_1 150 (by decide +kernel) rfl), (tw_1 151 (by decide +kernel) rfl)⟩
theorem l_F_Do_59 : mLkF "ReplicaDocument" 59 3 6 false := ⟨_, rfl, by decide, rfl, rfl, (tw_1 86 (by decide +kernel) rfl)⟩
theorem l_F_Do_67 : mLkF "ReplicaDocument" 67 3 1 true := ⟨_, rfl, by decide, rfl, rfl, (tw_1 77 (by decide +kernel) rfl)⟩
theorem l_F_Do_75 : mLkF "ReplicaDocument" 75 2 1 false := ⟨_, rfl, by decide, rfl, rfl, (tw_1 125 (by decide +kernel) rfl)⟩
theorem l_B_Wi_write : mLkB m_Wi_write 1 := ⟨(tw_2 28 rfl rfl), (tw_1 5 (by decide +kernel) rfl), ⟨by decide, by decide, by decide +kernel⟩, by decide⟩
theorem l_V_Do_71 : mLkV "ReplicaDocument" 71 m_Wi_write 2 1 := ⟨l_B_Wi_write, (tw_2 25 (by decide +kernel) rfl), (tw_2 26 (by decide +kernel) rfl), (tw_2 27 (by decide +kernel) rfl), _, rfl, rfl⟩
theorem l_B_Re_find : mLkB m_Re_find 2 := ⟨(tw_1 186 rfl rfl), (tw_1 2 (by decide +kernel) rfl), ⟨by decide, by decide, by decide +kernel⟩, by decide⟩
theorem l_V_Do_63 : mLkV "ReplicaDocument" 63 m_Re_find 3 2 := ⟨l_B_Re_find, (tw_2 24 (by decide +kernel) rfl), (tw_1 184 (by decide +kernel) rfl), (tw_1 185 (by decide +kernel) rfl), _, rfl, rfl⟩
theorem l_B_Wi_byteAt : mLkB m_Wi_byteAt 1 := ⟨(tw_2 37 rfl rfl), (tw_1 5 (by decide +kernel) rfl), ⟨by decide, by decide, by decide +kernel⟩, by decide⟩
theorem l_V_Do_78 : mLkV "ReplicaDocument" 78 m_Wi_byteAt 2 1 := ⟨l_B_Wi_byteAt, (tw_2 34 (by decide +kernel) rfl), (tw_2 35 (by decide +kernel) rfl), (tw_2 36 (by decide +kernel) rfl), _, rfl, rfl⟩
theorem l_B_Wi_change : mLkB m_Wi_change 2 := ⟨(tw_2 45 rfl rfl), (tw_1 5 (by decide +kernel) rfl), ⟨by decide, by decide, by decide +kernel⟩, by decide⟩
theorem l_V_Do_82 : mLkV "ReplicaDocument" 82 m_Wi_change 2 2 := ⟨l_B_Wi_change, (tw_2 42 (by decide +kernel) rfl), (tw_2 43 (by decide +kernel) rfl), (tw_2 44 (by decide +kernel) rfl), _, rfl, rfl⟩
theorem l_B_Wi_shorten : mLkB m_Wi_shorten 1 := ⟨(tw_2 56 rfl rfl), (tw_1 5 (by decide +kernel) rfl), ⟨by decide, by decide, by decide +kernel⟩, by decide⟩
theorem l_V_Do_86 : mLkV "ReplicaDocument" 86 m_Wi_shorten 2 1 := ⟨l_B_Wi_shorten, (tw_2 53 (by decide +kernel) rfl), (tw_2 54 (by decide +kernel) rfl), (tw_2 55 (by decide +kernel) rfl), _, rfl, rfl⟩
theorem l_B_Re_take : mLkB m_Re_take 1 := ⟨(tw_2 72 rfl rfl), (tw_1 2 (by decide +kernel) rfl), ⟨by decide, by decide, by decide +kernel⟩, by decide⟩
theorem l_V_Do_92 : mLkV "ReplicaDocument" 92 m_Re_take 3 1 := ⟨l_B_Re_take, (tw_2 69 (by decide +kernel) rfl), (tw_2 70 (by decide +kernel) rfl), (tw_2 71 (by decide +kernel) rfl), _, rfl, rfl⟩
theorem l_B_Wi_readInto : mLkB m_Wi_readInto 1 := ⟨(tw_2 64 rfl rfl), (tw_1 5 (by decide +kernel) rfl), ⟨by decide, by decide, by decide +kernel⟩, by decide⟩
theorem l_V_Do_89 : mLkV "ReplicaDocument" 89 m_Wi_readInto 2 1 := ⟨l_B_Wi_readInto, (tw_2 61 (by decide +kernel) rfl), (tw_2 62 (by decide +kernel) rfl), (tw_2 63 (by decide +kernel) rfl), _, rfl, rfl⟩
theorem l_F_Do_95 : mLkF "ReplicaDocument" 95 3 5 false := ⟨_, rfl, by decide, rfl, rfl, (tw_1 85 (by decide +kernel) rfl)⟩
theorem l_F_Do_98 : mLkF "ReplicaDocument" 98 1 2 false := ⟨_, rfl, by decide, rfl, rfl, (tw_1 41 (by decide +kernel) rfl)⟩
theorem l_B_Re_hasInPast : mLkB m_Re_hasInPast 2 := ⟨(tw_2 101 rfl rfl), (tw_1 2 (by decide +kernel) rfl), ⟨by decide, by decide, by decide +kernel⟩, by decide⟩
theorem l_V_Do_101 : mLkV "ReplicaDocument" 101 m_Re_hasInPast 3 2 := ⟨l_B_Re_hasInPast, (tw_2 98 (by decide +kernel) rfl), (tw_2 99 (by decide +kernel) rfl), (tw_2 100 (by decide +kernel) rfl), _, rfl, rfl⟩
theorem l_B_Re_countHeads : mLkB m_Re_countHeads 0 := ⟨(tw_2 109 rfl rfl), (tw_1 2 (by decide +kernel) rfl), ⟨by decide, by decide, by decide +kernel⟩, by decide⟩
theorem l_V_Do_104 : mLkV "ReplicaDocument" 104 m_Re_countHeads 3 0 := ⟨l_B_Re_countHeads, (tw_2 106 (by decide +kernel) rfl), (tw_2 107 (by decide +kernel) rfl), (tw_2 108 (by decide +kernel) rfl), _, rfl, rfl⟩
theorem l_B_Co_findEntry : mLkB m_Co_findEntry 4 := ⟨(tw_2 119 rfl rfl), (tw_1 4 (by decide +kernel) rfl), ⟨by decide, by decide, by decide +kernel⟩, by decide⟩
theorem l_V_Do_114 : mLkV "ReplicaDocument" 114 m_Co_findEntry 4 4 := ⟨l_B_Co_findEntry, (tw_2 116 (by decide +kernel) rfl), (tw_2 117 (by decide +kernel) rfl), (tw_2 118 (by decide +kernel) rfl), _, rfl, rfl⟩
theorem l_B_Do_isKey : mLkB m_Do_isKey 1 := ⟨(tw_1 170 rfl rfl), (tw_1 1 (by decide +kernel) rfl), ⟨by decide, by decide, by decide +kernel⟩, by decide⟩
theorem l_S_Do_111 : mLkS "ReplicaDocument" 111 m_Do_isKey 1 := ⟨l_B_Do_isKey, (tw_2 115 (by decide +kernel) rfl), (tw_1 169 (by decide +kernel) rfl)⟩
theorem l_B_Re_isMap : mLkB m_Re_isMap 1 := ⟨(tw_1 194 rfl rfl), (tw_1 2 (by decide +kernel) rfl), ⟨by decide, by decide, by decide +kernel⟩, by decide⟩
theorem l_V_Do_108 : mLkV "ReplicaDocument" 108 m_Re_isMap 3 1 := ⟨l_B_Re_isMap, (tw_2 114 (by decide +kernel) rfl), (tw_1 192 (by decide +kernel) rfl), (tw_1 193 (by decide +kernel) rfl), _, rfl, rfl⟩
theorem l_B_Co_findElement : mLkB m_Co_findElement 3 := ⟨(tw_2 142 rfl rfl), (tw_1 4 (by decide +kernel) rfl), ⟨by decide, by decide, by decide +kernel⟩, by decide⟩
theorem l_V_Do_121 : mLkV "ReplicaDocument" 121 m_Co_findElement 4 3 := ⟨l_B_Co_findElement, (tw_2 139 (by decide +kernel) rfl), (tw_2 140 (by decide +kernel) rfl), (tw_2 141 (by decide +kernel) rfl), _, rfl, rfl⟩
theorem l_B_Re_isList : mLkB m_Re_isList 1 := ⟨(tw_1 190 rfl rfl), (tw_1 2 (by decide +kernel) rfl), ⟨by decide, by decide, by decide +kernel⟩, by decide⟩
theorem l_V_Do_118 : mLkV "ReplicaDocument" 118 m_Re_isList 3 1 := ⟨l_B_Re_isList, (tw_2 138 (by decide +kernel) rfl), (tw_1 188 (by decide +kernel) rfl), (tw_1 189 (by decide +kernel) rfl), _, rfl, rfl⟩
theorem l_F_Do_125 : mLkF "ReplicaDocument" 125 1 6 false := ⟨_, rfl, by decide, rfl, rfl, (tw_1 57 (by decide +kernel) rfl)⟩
theorem l_B_Co_countLevels : mLkB m_Co_countLevels 2 := ⟨(tw_2 166 rfl rfl), (tw_1 4 (by decide +kernel) rfl), ⟨by decide, by decide, by decide +kernel⟩, by decide⟩
theorem l_V_Do_128 : mLkV "ReplicaDocument" 128 m_Co_countLevels 4 2 := ⟨l_B_Co_countLevels, (tw_2 163 (by decide +kernel) rfl), (tw_2 164 (by decide +kernel) rfl), (tw_2 165 (by decide +kernel) rfl), _, rfl, rfl⟩
theorem l_B_Co_addUp : mLkB m_Co_addUp 1 := ⟨(tw_2 179 rfl rfl), (tw_1 4 (by decide +kernel) rfl), ⟨by decide, by decide, by decide +kernel⟩, by decide⟩
theorem l_V_Do_132 : mLkV "ReplicaDocument" 132 m_Co_addUp 4 1 := ⟨l_B_Co_addUp, (tw_2 176 (by decide +kernel) rfl), (tw_2 177 (by decide +kernel) rfl), (tw_2 178 (by decide +kernel) rfl), _, rfl, rfl⟩
theorem l_B_Re_hasAppliedSameAs : mLkB m_Re_hasAppliedSameAs 1 := ⟨(tw_2 195 rfl rfl), (tw_1 2 (by decide +kernel) rfl), ⟨by decide, by decide, by decide +kernel⟩, by decide⟩
theorem l_V_Do_136 : mLkV "ReplicaDocument" 136 m_Re_hasAppliedSameAs 3 1 := ⟨l_B_Re_hasAppliedSameAs, (tw_2 192 (by decide +kernel) rfl), (tw_2 193 (by decide +kernel) rfl), (tw_2 194 (by decide +kernel) rfl), _, rfl, rfl⟩
theorem l_W_int : Cond.arrayClass .int ∈ mWd := (tw_1 73 (by decide +kernel) rfl)
theorem l_F_Mo_7 : mLkF "ReplicaDocumentModel" 7 5 0 false := ⟨_, rfl, by decide, rfl, rfl, (tw_2 202 (by decide +kernel) rfl)⟩
theorem l_F_Mo_13 : mLkF "ReplicaDocumentModel" 13 5 1 false := ⟨_, rfl, by decide, rfl, rfl, (tw_2 203 (by decide +kernel) rfl)⟩
theorem l_W_boolean : Cond.arrayClass .boolean ∈ mWd := (tw_1 103 (by decide +kernel) rfl)
theorem l_F_Mo_16 : mLkF "ReplicaDocumentModel" 16 5 2 false := ⟨_, rfl, by decide, rfl, rfl, (tw_2 204 (by decide +kernel) rfl)⟩
theorem l_F_Mo_20 : mLkF "ReplicaDocumentModel" 20 5 3 false := ⟨_, rfl, by decide, rfl, rfl, (tw_2 205 (by decide +kernel) rfl)⟩
theorem l_F_Mo_23 : mLkF "ReplicaDocumentModel" 23 5 4 false := ⟨_, rfl, by decide, rfl, rfl, (tw_2 206 (by decide +kernel) rfl)⟩
theorem l_F_Mo_26 : mLkF "ReplicaDocumentModel" 26 5 5 false := ⟨_, rfl, by decide, rfl, rfl, (tw_2 207 (by decide +kernel) rfl)⟩
theorem l_F_Mo_29 : mLkF "ReplicaDocumentModel" 29 5 8 false := ⟨_, rfl, by decide, rfl, rfl, (tw_2 210 (by decide +kernel) rfl)⟩
theorem l_F_Mo_32 : mLkF "ReplicaDocumentModel" 32 5 9 false := ⟨_, rfl, by decide, rfl, rfl, (tw_2 211 (by decide +kernel) rfl)⟩
theorem l_F_Mo_35 : mLkF "ReplicaDocumentModel" 35 5 10 false := ⟨_, rfl, by decide, rfl, rfl, (tw_2 212 (by decide +kernel) rfl)⟩
theorem l_F_Mo_38 : mLkF "ReplicaDocumentModel" 38 5 11 false := ⟨_, rfl, by decide, rfl, rfl, (tw_2 213 (by decide +kernel) rfl)⟩
theorem l_O_Mo_1 : mLkO "ReplicaDocumentModel" 1 := ⟨(tw_2 201 (by decide +kernel) rfl), (tw_1 15 (by decide +kernel) rfl), (tw_1 16 rfl rfl)⟩
theorem l_F_Mo_41 : mLkF "ReplicaDocumentModel" 41 5 7 false := ⟨_, rfl, by decide, rfl, rfl, (tw_2 209 (by decide +kernel) rfl)⟩
theorem l_B_Mo_done : mLkB m_Mo_done 1 := ⟨(tw_3 13 rfl rfl), (tw_1 6 (by decide +kernel) rfl), ⟨by decide, by decide, by decide +kernel⟩, by decide⟩
theorem l_V_Mo_49 : mLkV "ReplicaDocumentModel" 49 m_Mo_done 5 1 := ⟨l_B_Mo_done, (tw_3 10 (by decide +kernel) rfl), (tw_3 12 (by decide +kernel) rfl), (tw_p 21 (by decide +kernel) rfl), _, rfl, rfl⟩
theorem l_B_Mo_part : mLkB m_Mo_part 2 := ⟨(tw_3 17 rfl rfl), (tw_1 6 (by decide +kernel) rfl), ⟨by decide, by decide, by decide +kernel⟩, by decide⟩
theorem l_V_Mo_45 : mLkV "ReplicaDocumentModel" 45 m_Mo_part 5 2 := ⟨l_B_Mo_part, (tw_3 14 (by decide +kernel) rfl), (tw_3 16 (by decide +kernel) rfl), (tw_p 22 (by decide +kernel) rfl), _, rfl, rfl⟩
theorem l_B_Mo_find : mLkB m_Mo_find 2 := ⟨(tw_3 25 rfl rfl), (tw_1 6 (by decide +kernel) rfl), ⟨by decide, by decide, by decide +kernel⟩, by decide⟩
theorem l_V_Mo_53 : mLkV "ReplicaDocumentModel" 53 m_Mo_find 5 2 := ⟨l_B_Mo_find, (tw_3 22 (by decide +kernel) rfl), (tw_3 24 (by decide +kernel) rfl), (tw_p 24 (by decide +kernel) rfl), _, rfl, rfl⟩
theorem l_B_Mo_widen : mLkB m_Mo_widen 1 := ⟨(tw_3 29 rfl rfl), (tw_1 6 (by decide +kernel) rfl), ⟨by decide, by decide, by decide +kernel⟩, by decide⟩
theorem l_V_Mo_61 : mLkV "ReplicaDocumentModel" 61 m_Mo_widen 5 1 := ⟨l_B_Mo_widen, (tw_3 26 (by decide +kernel) rfl), (tw_3 28 (by decide +kernel) rfl), (tw_p 25 (by decide +kernel) rfl), _, rfl, rfl⟩
theorem l_B_Mo_fits : mLkB m_Mo_fits 3 := ⟨(tw_3 21 rfl rfl), (tw_1 6 (by decide +kernel) rfl), ⟨by decide, by decide, by decide +kernel⟩, by decide⟩
theorem l_V_Mo_57 : mLkV "ReplicaDocumentModel" 57 m_Mo_fits 5 3 := ⟨l_B_Mo_fits, (tw_3 18 (by decide +kernel) rfl), (tw_3 20 (by decide +kernel) rfl), (tw_p 23 (by decide +kernel) rfl), _, rfl, rfl⟩
theorem l_B_Mo_has : mLkB m_Mo_has 2 := ⟨(tw_3 33 rfl rfl), (tw_1 6 (by decide +kernel) rfl), ⟨by decide, by decide, by decide +kernel⟩, by decide⟩
theorem l_V_Mo_65 : mLkV "ReplicaDocumentModel" 65 m_Mo_has 5 2 := ⟨l_B_Mo_has, (tw_3 30 (by decide +kernel) rfl), (tw_3 32 (by decide +kernel) rfl), (tw_p 26 (by decide +kernel) rfl), _, rfl, rfl⟩
theorem l_B_Mo_apply : mLkB m_Mo_apply 1 := ⟨(tw_3 41 rfl rfl), (tw_1 6 (by decide +kernel) rfl), ⟨by decide, by decide, by decide +kernel⟩, by decide⟩
theorem l_V_Mo_72 : mLkV "ReplicaDocumentModel" 72 m_Mo_apply 5 1 := ⟨l_B_Mo_apply, (tw_3 38 (by decide +kernel) rfl), (tw_3 40 (by decide +kernel) rfl), (tw_p 28 (by decide +kernel) rfl), _, rfl, rfl⟩
theorem l_B_Mo_ready : mLkB m_Mo_ready 1 := ⟨(tw_3 49 rfl rfl), (tw_1 6 (by decide +kernel) rfl), ⟨by decide, by decide, by decide +kernel⟩, by decide⟩
theorem l_V_Mo_69 : mLkV "ReplicaDocumentModel" 69 m_Mo_ready 5 1 := ⟨l_B_Mo_ready, (tw_3 46 (by decide +kernel) rfl), (tw_3 48 (by decide +kernel) rfl), (tw_p 30 (by decide +kernel) rfl), _, rfl, rfl⟩
theorem l_B_Mo_study : mLkB m_Mo_study 1 := ⟨(tw_3 9 rfl rfl), (tw_1 6 (by decide +kernel) rfl), ⟨by decide, by decide, by decide +kernel⟩, by decide⟩
theorem l_V_Mo_78 : mLkV "ReplicaDocumentModel" 78 m_Mo_study 5 1 := ⟨l_B_Mo_study, (tw_3 6 (by decide +kernel) rfl), (tw_3 8 (by decide +kernel) rfl), (tw_p 20 (by decide +kernel) rfl), _, rfl, rfl⟩
theorem l_B_Mo_isReplica : mLkB m_Mo_isReplica 1 := ⟨(tw_3 5 rfl rfl), (tw_1 6 (by decide +kernel) rfl), ⟨by decide, by decide, by decide +kernel⟩, by decide⟩
theorem l_S_Mo_75 : mLkS "ReplicaDocumentModel" 75 m_Mo_isReplica 1 := ⟨l_B_Mo_isReplica, (tw_3 3 (by decide +kernel) rfl), (tw_3 4 (by decide +kernel) rfl)⟩
theorem l_B_Mo_isHead : mLkB m_Mo_isHead 1 := ⟨(tw_3 37 rfl rfl), (tw_1 6 (by decide +kernel) rfl), ⟨by decide, by decide, by decide +kernel⟩, by decide⟩
theorem l_V_Mo_81 : mLkV "ReplicaDocumentModel" 81 m_Mo_isHead 5 1 := ⟨l_B_Mo_isHead, (tw_3 34 (by decide +kernel) rfl), (tw_3 36 (by decide +kernel) rfl), (tw_p 27 (by decide +kernel) rfl), _, rfl, rfl⟩
theorem l_B_Mo_settle : mLkB m_Mo_settle 0 := ⟨(tw_3 45 rfl rfl), (tw_1 6 (by decide +kernel) rfl), ⟨by decide, by decide, by decide +kernel⟩, by decide⟩
theorem l_V_Mo_84 : mLkV "ReplicaDocumentModel" 84 m_Mo_settle 5 0 := ⟨l_B_Mo_settle, (tw_3 42 (by decide +kernel) rfl), (tw_3 44 (by decide +kernel) rfl), (tw_p 29 (by decide +kernel) rfl), _, rfl, rfl⟩
theorem l_F_Mo_88 : mLkF "ReplicaDocumentModel" 88 5 6 false := ⟨_, rfl, by decide, rfl, rfl, (tw_2 208 (by decide +kernel) rfl)⟩
theorem l_B_Mo_isId : mLkB m_Mo_isId 1 := ⟨(tw_3 76 rfl rfl), (tw_1 6 (by decide +kernel) rfl), ⟨by decide, by decide, by decide +kernel⟩, by decide⟩
theorem l_S_Mo_91 : mLkS "ReplicaDocumentModel" 91 m_Mo_isId 1 := ⟨l_B_Mo_isId, (tw_3 74 (by decide +kernel) rfl), (tw_3 75 (by decide +kernel) rfl)⟩
theorem l_B_Mo_says : mLkB m_Mo_says 1 := ⟨(tw_3 84 rfl rfl), (tw_1 6 (by decide +kernel) rfl), ⟨by decide, by decide, by decide +kernel⟩, by decide⟩
theorem l_V_Mo_101 : mLkV "ReplicaDocumentModel" 101 m_Mo_says 5 1 := ⟨l_B_Mo_says, (tw_3 81 (by decide +kernel) rfl), (tw_3 83 (by decide +kernel) rfl), (tw_p 33 (by decide +kernel) rfl), _, rfl, rfl⟩
theorem l_B_Mo_sameAsLine : mLkB m_Mo_sameAsLine 1 := ⟨(tw_3 80 rfl rfl), (tw_1 6 (by decide +kernel) rfl), ⟨by decide, by decide, by decide +kernel⟩, by decide⟩
theorem l_V_Mo_98 : mLkV "ReplicaDocumentModel" 98 m_Mo_sameAsLine 5 1 := ⟨l_B_Mo_sameAsLine, (tw_3 77 (by decide +kernel) rfl), (tw_3 79 (by decide +kernel) rfl), (tw_p 32 (by decide +kernel) rfl), _, rfl, rfl⟩
theorem l_B_Mo_wellFormed : mLkB m_Mo_wellFormed 0 := ⟨(tw_3 73 rfl rfl), (tw_1 6 (by decide +kernel) rfl), ⟨by decide, by decide, by decide +kernel⟩, by decide⟩
theorem l_V_Mo_94 : mLkV "ReplicaDocumentModel" 94 m_Mo_wellFormed 5 0 := ⟨l_B_Mo_wellFormed, (tw_3 70 (by decide +kernel) rfl), (tw_3 72 (by decide +kernel) rfl), (tw_p 31 (by decide +kernel) rfl), _, rfl, rfl⟩
theorem l_B_Mo_alike : mLkB m_Mo_alike 2 := ⟨(tw_3 112 rfl rfl), (tw_1 6 (by decide +kernel) rfl), ⟨by decide, by decide, by decide +kernel⟩, by decide⟩
theorem l_V_Mo_104 : mLkV "ReplicaDocumentModel" 104 m_Mo_alike 5 2 := ⟨l_B_Mo_alike, (tw_3 109 (by decide +kernel) rfl), (tw_3 111 (by decide +kernel) rfl), (tw_p 34 (by decide +kernel) rfl), _, rfl, rfl⟩
theorem l_B_Mo_isEntry : mLkB m_Mo_isEntry 1 := ⟨(tw_3 128 rfl rfl), (tw_1 6 (by decide +kernel) rfl), ⟨by decide, by decide, by decide +kernel⟩, by decide⟩
theorem l_V_Mo_107 : mLkV "ReplicaDocumentModel" 107 m_Mo_isEntry 5 1 := ⟨l_B_Mo_isEntry, (tw_3 125 (by decide +kernel) rfl), (tw_3 127 (by decide +kernel) rfl), (tw_p 37 (by decide +kernel) rfl), _, rfl, rfl⟩
theorem l_B_Mo_isKind : mLkB m_Mo_isKind 2 := ⟨(tw_3 120 rfl rfl), (tw_1 6 (by decide +kernel) rfl), ⟨by decide, by decide, by decide +kernel⟩, by decide⟩
theorem l_V_Mo_110 : mLkV "ReplicaDocumentModel" 110 m_Mo_isKind 5 2 := ⟨l_B_Mo_isKind, (tw_3 117 (by decide +kernel) rfl), (tw_3 119 (by decide +kernel) rfl), (tw_p 35 (by decide +kernel) rfl), _, rfl, rfl⟩
theorem l_B_Mo_entryPlace : mLkB m_Mo_entryPlace 3 := ⟨(tw_3 124 rfl rfl), (tw_1 6 (by decide +kernel) rfl), ⟨by decide, by decide, by decide +kernel⟩, by decide⟩
theorem l_V_Mo_113 : mLkV "ReplicaDocumentModel" 113 m_Mo_entryPlace 5 3 := ⟨l_B_Mo_entryPlace, (tw_3 121 (by decide +kernel) rfl), (tw_3 123 (by decide +kernel) rfl), (tw_p 36 (by decide +kernel) rfl), _, rfl, rfl⟩
theorem l_B_Mo_up : mLkB m_Mo_up 2 := ⟨(tw_3 156 rfl rfl), (tw_1 6 (by decide +kernel) rfl), ⟨by decide, by decide, by decide +kernel⟩, by decide⟩
theorem l_V_Mo_121 : mLkV "ReplicaDocumentModel" 121 m_Mo_up 5 2 := ⟨l_B_Mo_up, (tw_3 153 (by decide +kernel) rfl), (tw_3 155 (by decide +kernel) rfl), (tw_p 43 (by decide +kernel) rfl), _, rfl, rfl⟩
theorem l_B_Mo_steps : mLkB m_Mo_steps 1 := ⟨(tw_3 152 rfl rfl), (tw_1 6 (by decide +kernel) rfl), ⟨by decide, by decide, by decide +kernel⟩, by decide⟩
theorem l_V_Mo_117 : mLkV "ReplicaDocumentModel" 117 m_Mo_steps 5 1 := ⟨l_B_Mo_steps, (tw_3 149 (by decide +kernel) rfl), (tw_3 151 (by decide +kernel) rfl), (tw_p 42 (by decide +kernel) rfl), _, rfl, rfl⟩
theorem l_B_Mo_gone : mLkB m_Mo_gone 1 := ⟨(tw_3 144 rfl rfl), (tw_1 6 (by decide +kernel) rfl), ⟨by decide, by decide, by decide +kernel⟩, by decide⟩
theorem l_V_Mo_127 : mLkV "ReplicaDocumentModel" 127 m_Mo_gone 5 1 := ⟨l_B_Mo_gone, (tw_3 141 (by decide +kernel) rfl), (tw_3 143 (by decide +kernel) rfl), (tw_p 40 (by decide +kernel) rfl), _, rfl, rfl⟩
theorem l_B_Mo_isElement : mLkB m_Mo_isElement 2 := ⟨(tw_3 140 rfl rfl), (tw_1 6 (by decide +kernel) rfl), ⟨by decide, by decide, by decide +kernel⟩, by decide⟩
theorem l_V_Mo_124 : mLkV "ReplicaDocumentModel" 124 m_Mo_isElement 5 2 := ⟨l_B_Mo_isElement, (tw_3 137 (by decide +kernel) rfl), (tw_3 139 (by decide +kernel) rfl), (tw_p 39 (by decide +kernel) rfl), _, rfl, rfl⟩
theorem l_B_Mo_ahead : mLkB m_Mo_ahead 2 := ⟨(tw_3 148 rfl rfl), (tw_1 6 (by decide +kernel) rfl), ⟨by decide, by decide, by decide +kernel⟩, by decide⟩
theorem l_V_Mo_130 : mLkV "ReplicaDocumentModel" 130 m_Mo_ahead 5 2 := ⟨l_B_Mo_ahead, (tw_3 145 (by decide +kernel) rfl), (tw_3 147 (by decide +kernel) rfl), (tw_p 41 (by decide +kernel) rfl), _, rfl, rfl⟩
theorem l_B_Mo_elementPlace : mLkB m_Mo_elementPlace 2 := ⟨(tw_3 136 rfl rfl), (tw_1 6 (by decide +kernel) rfl), ⟨by decide, by decide, by decide +kernel⟩, by decide⟩
theorem l_V_Mo_133 : mLkV "ReplicaDocumentModel" 133 m_Mo_elementPlace 5 2 := ⟨l_B_Mo_elementPlace, (tw_3 133 (by decide +kernel) rfl), (tw_3 135 (by decide +kernel) rfl), (tw_p 38 (by decide +kernel) rfl), _, rfl, rfl⟩
theorem l_B_Mo_mapTotal : mLkB m_Mo_mapTotal 1 := ⟨(tw_3 168 rfl rfl), (tw_1 6 (by decide +kernel) rfl), ⟨by decide, by decide, by decide +kernel⟩, by decide⟩
theorem l_V_Mo_136 : mLkV "ReplicaDocumentModel" 136 m_Mo_mapTotal 5 1 := ⟨l_B_Mo_mapTotal, (tw_3 165 (by decide +kernel) rfl), (tw_3 167 (by decide +kernel) rfl), (tw_p 44 (by decide +kernel) rfl), _, rfl, rfl⟩
theorem l_B_Mo_listTotal : mLkB m_Mo_listTotal 1 := ⟨(tw_3 172 rfl rfl), (tw_1 6 (by decide +kernel) rfl), ⟨by decide, by decide, by decide +kernel⟩, by decide⟩
theorem l_V_Mo_139 : mLkV "ReplicaDocumentModel" 139 m_Mo_listTotal 5 1 := ⟨l_B_Mo_listTotal, (tw_3 169 (by decide +kernel) rfl), (tw_3 171 (by decide +kernel) rfl), (tw_p 45 (by decide +kernel) rfl), _, rfl, rfl⟩
theorem l_F_Co_9 : mLkF "ReplicaDocument$Contents" 9 4 0 true := ⟨_, rfl, by decide, rfl, rfl, (tw_1 110 (by decide +kernel) rfl)⟩
theorem l_F_Co_15 : mLkF "ReplicaDocument$Contents" 15 4 1 true := ⟨_, rfl, by decide, rfl, rfl, (tw_1 111 (by decide +kernel) rfl)⟩
theorem l_O_Co_3 : mLkO "ReplicaDocument$Contents" 3 := ⟨(tw_1 109 (by decide +kernel) rfl), (tw_1 15 (by decide +kernel) rfl), (tw_1 16 rfl rfl)⟩
theorem l_F_Co_18 : mLkF "ReplicaDocument$Contents" 18 3 5 false := ⟨_, rfl, by decide, rfl, rfl, (tw_1 83 (by decide +kernel) rfl)⟩
theorem l_F_Co_24 : mLkF "ReplicaDocument$Contents" 24 3 4 true := ⟨_, rfl, by decide, rfl, rfl, (tw_1 82 (by decide +kernel) rfl)⟩
theorem l_F_Co_31 : mLkF "ReplicaDocument$Contents" 31 3 1 true := ⟨_, rfl, by decide, rfl, rfl, (tw_1 76 (by decide +kernel) rfl)⟩
theorem l_F_Co_35 : mLkF "ReplicaDocument$Contents" 35 1 2 false := ⟨_, rfl, by decide, rfl, rfl, (tw_1 39 (by decide +kernel) rfl)⟩
theorem l_B_Co_isEntryAt : mLkB m_Co_isEntryAt 4 := ⟨(tw_2 123 rfl rfl), (tw_1 4 (by decide +kernel) rfl), ⟨by decide, by decide, by decide +kernel⟩, by decide⟩
theorem l_V_Co_27 : mLkV "ReplicaDocument$Contents" 27 m_Co_isEntryAt 4 4 := ⟨l_B_Co_isEntryAt, (tw_2 120 (by decide +kernel) rfl), (tw_2 122 (by decide +kernel) rfl), (tw_p 11 (by decide +kernel) rfl), _, rfl, rfl⟩
theorem l_F_Co_40 : mLkF "ReplicaDocument$Contents" 40 1 4 false := ⟨_, rfl, by decide, rfl, rfl, (tw_1 47 (by decide +kernel) rfl)⟩
theorem l_F_Co_43 : mLkF "ReplicaDocument$Contents" 43 1 5 false := ⟨_, rfl, by decide, rfl, rfl, (tw_1 51 (by decide +kernel) rfl)⟩
theorem l_B_Co_isEntry : mLkB m_Co_isEntry 2 := ⟨(tw_2 127 rfl rfl), (tw_1 4 (by decide +kernel) rfl), ⟨by decide, by decide, by decide +kernel⟩, by decide⟩
theorem l_V_Co_46 : mLkV "ReplicaDocument$Contents" 46 m_Co_isEntry 4 2 := ⟨l_B_Co_isEntry, (tw_2 124 (by decide +kernel) rfl), (tw_2 126 (by decide +kernel) rfl), (tw_p 12 (by decide +kernel) rfl), _, rfl, rfl⟩
theorem l_F_Co_50 : mLkF "ReplicaDocument$Contents" 50 3 3 true := ⟨_, rfl, by decide, rfl, rfl, (tw_1 80 (by decide +kernel) rfl)⟩
theorem l_F_Co_58 : mLkF "ReplicaDocument$Contents" 58 1 3 false := ⟨_, rfl, by decide, rfl, rfl, (tw_1 44 (by decide +kernel) rfl)⟩
theorem l_B_Op_writesToMap : mLkB m_Op_writesToMap 0 := ⟨(tw_1 164 rfl rfl), (tw_1 3 (by decide +kernel) rfl), ⟨by decide, by decide, by decide +kernel⟩, by decide⟩
theorem l_V_Co_54 : mLkV "ReplicaDocument$Contents" 54 m_Op_writesToMap 1 0 := ⟨l_B_Op_writesToMap, (tw_2 128 (by decide +kernel) rfl), (tw_1 162 (by decide +kernel) rfl), (tw_1 163 (by decide +kernel) rfl), _, rfl, rfl⟩
theorem l_B_Co_writesSamePlace : mLkB m_Co_writesSamePlace 3 := ⟨(tw_2 133 rfl rfl), (tw_1 4 (by decide +kernel) rfl), ⟨by decide, by decide, by decide +kernel⟩, by decide⟩
theorem l_V_Co_65 : mLkV "ReplicaDocument$Contents" 65 m_Co_writesSamePlace 4 3 := ⟨l_B_Co_writesSamePlace, (tw_2 130 (by decide +kernel) rfl), (tw_2 132 (by decide +kernel) rfl), (tw_p 13 (by decide +kernel) rfl), _, rfl, rfl⟩
theorem l_V_Co_61 : mLkV "ReplicaDocument$Contents" 61 m_Re_hasInPast 3 2 := ⟨l_B_Re_hasInPast, (tw_2 129 (by decide +kernel) rfl), (tw_2 99 (by decide +kernel) rfl), (tw_2 100 (by decide +kernel) rfl), _, rfl, rfl⟩
theorem l_B_Co_arrange : mLkB m_Co_arrange 2 := ⟨(tw_2 146 rfl rfl), (tw_1 4 (by decide +kernel) rfl), ⟨by decide, by decide, by decide +kernel⟩, by decide⟩
theorem l_V_Co_69 : mLkV "ReplicaDocument$Contents" 69 m_Co_arrange 4 2 := ⟨l_B_Co_arrange, (tw_2 143 (by decide +kernel) rfl), (tw_2 145 (by decide +kernel) rfl), (tw_p 14 (by decide +kernel) rfl), _, rfl, rfl⟩
theorem l_B_Co_isGone : mLkB m_Co_isGone 2 := ⟨(tw_2 154 rfl rfl), (tw_1 4 (by decide +kernel) rfl), ⟨by decide, by decide, by decide +kernel⟩, by decide⟩
theorem l_V_Co_73 : mLkV "ReplicaDocument$Contents" 73 m_Co_isGone 4 2 := ⟨l_B_Co_isGone, (tw_2 151 (by decide +kernel) rfl), (tw_2 153 (by decide +kernel) rfl), (tw_p 16 (by decide +kernel) rfl), _, rfl, rfl⟩
theorem l_B_Co_placeBehind : mLkB m_Co_placeBehind 4 := ⟨(tw_2 150 rfl rfl), (tw_1 4 (by decide +kernel) rfl), ⟨by decide, by decide, by decide +kernel⟩, by decide⟩
theorem l_V_Co_76 : mLkV "ReplicaDocument$Contents" 76 m_Co_placeBehind 4 4 := ⟨l_B_Co_placeBehind, (tw_2 147 (by decide +kernel) rfl), (tw_2 149 (by decide +kernel) rfl), (tw_p 15 (by decide +kernel) rfl), _, rfl, rfl⟩
theorem l_B_Co_isShown : mLkB m_Co_isShown 2 := ⟨(tw_2 171 rfl rfl), (tw_1 4 (by decide +kernel) rfl), ⟨by decide, by decide, by decide +kernel⟩, by decide⟩
theorem l_V_Co_84 : mLkV "ReplicaDocument$Contents" 84 m_Co_isShown 4 2 := ⟨l_B_Co_isShown, (tw_2 168 (by decide +kernel) rfl), (tw_2 170 (by decide +kernel) rfl), (tw_p 17 (by decide +kernel) rfl), _, rfl, rfl⟩
theorem l_V_Co_80 : mLkV "ReplicaDocument$Contents" 80 m_Re_find 3 2 := ⟨l_B_Re_find, (tw_2 167 (by decide +kernel) rfl), (tw_1 184 (by decide +kernel) rfl), (tw_1 185 (by decide +kernel) rfl), _, rfl, rfl⟩
theorem l_B_Co_addUpMap : mLkB m_Co_addUpMap 2 := ⟨(tw_2 183 rfl rfl), (tw_1 4 (by decide +kernel) rfl), ⟨by decide, by decide, by decide +kernel⟩, by decide⟩
theorem l_V_Co_87 : mLkV "ReplicaDocument$Contents" 87 m_Co_addUpMap 4 2 := ⟨l_B_Co_addUpMap, (tw_2 180 (by decide +kernel) rfl), (tw_2 182 (by decide +kernel) rfl), (tw_p 18 (by decide +kernel) rfl), _, rfl, rfl⟩
theorem l_F_Co_93 : mLkF "ReplicaDocument$Contents" 93 1 6 false := ⟨_, rfl, by decide, rfl, rfl, (tw_1 56 (by decide +kernel) rfl)⟩
theorem l_B_Co_addUpList : mLkB m_Co_addUpList 2 := ⟨(tw_2 187 rfl rfl), (tw_1 4 (by decide +kernel) rfl), ⟨by decide, by decide, by decide +kernel⟩, by decide⟩
theorem l_V_Co_90 : mLkV "ReplicaDocument$Contents" 90 m_Co_addUpList 4 2 := ⟨l_B_Co_addUpList, (tw_2 184 (by decide +kernel) rfl), (tw_2 186 (by decide +kernel) rfl), (tw_p 19 (by decide +kernel) rfl), _, rfl, rfl⟩
theorem l_F_Op_9 : mLkF "ReplicaDocument$Operation" 9 1 0 true := ⟨_, rfl, by decide, rfl, rfl, (tw_1 31 (by decide +kernel) rfl)⟩
theorem l_O_Op_3 : mLkO "ReplicaDocument$Operation" 3 := ⟨(tw_1 30 (by decide +kernel) rfl), (tw_1 15 (by decide +kernel) rfl), (tw_1 16 rfl rfl)⟩
theorem l_F_Op_15 : mLkF "ReplicaDocument$Operation" 15 1 2 false := ⟨_, rfl, by decide, rfl, rfl, (tw_1 37 (by decide +kernel) rfl)⟩
theorem l_F_Op_19 : mLkF "ReplicaDocument$Operation" 19 1 3 false := ⟨_, rfl, by decide, rfl, rfl, (tw_1 42 (by decide +kernel) rfl)⟩
theorem l_F_Op_22 : mLkF "ReplicaDocument$Operation" 22 1 4 false := ⟨_, rfl, by decide, rfl, rfl, (tw_1 46 (by decide +kernel) rfl)⟩
theorem l_F_Op_25 : mLkF "ReplicaDocument$Operation" 25 1 5 false := ⟨_, rfl, by decide, rfl, rfl, (tw_1 50 (by decide +kernel) rfl)⟩
theorem l_F_Op_28 : mLkF "ReplicaDocument$Operation" 28 1 6 false := ⟨_, rfl, by decide, rfl, rfl, (tw_1 54 (by decide +kernel) rfl)⟩
theorem l_F_Op_31 : mLkF "ReplicaDocument$Operation" 31 1 1 false := ⟨_, rfl, by decide, rfl, rfl, (tw_1 34 (by decide +kernel) rfl)⟩
theorem l_A_Op_38 : mLkA "ReplicaDocument$Operation" 38 := ⟨(tw_1 232 (by decide +kernel) rfl), (tw_1 234 (by decide +kernel) rfl), (tw_1 233 (by decide +kernel) rfl), (tw_1 7 (by decide +kernel) rfl)⟩
theorem l_V_Op_34 : mLkV "ReplicaDocument$Operation" 34 m_Op_begin 1 5 := ⟨l_B_Op_begin, (tw_1 231 (by decide +kernel) rfl), (tw_1 154 (by decide +kernel) rfl), (tw_1 155 (by decide +kernel) rfl), _, rfl, rfl⟩
theorem l_B_Op_hasBefore : mLkB m_Op_hasBefore 1 := ⟨(tw_1 214 rfl rfl), (tw_1 3 (by decide +kernel) rfl), ⟨by decide, by decide, by decide +kernel⟩, by decide⟩
theorem l_V_Op_44 : mLkV "ReplicaDocument$Operation" 44 m_Op_hasBefore 1 1 := ⟨l_B_Op_hasBefore, (tw_2 81 (by decide +kernel) rfl), (tw_1 212 (by decide +kernel) rfl), (tw_1 213 (by decide +kernel) rfl), _, rfl, rfl⟩
theorem l_B_Op_hasSoundValue : mLkB m_Op_hasSoundValue 0 := ⟨(tw_1 174 rfl rfl), (tw_1 3 (by decide +kernel) rfl), ⟨by decide, by decide, by decide +kernel⟩, by decide⟩
theorem l_V_Op_58 : mLkV "ReplicaDocument$Operation" 58 m_Op_hasSoundValue 1 0 := ⟨l_B_Op_hasSoundValue, (tw_1 171 (by decide +kernel) rfl), (tw_1 173 (by decide +kernel) rfl), (tw_p 0 (by decide +kernel) rfl), _, rfl, rfl⟩
theorem l_B_Do_isId : mLkB m_Do_isId 1 := ⟨(tw_1 167 rfl rfl), (tw_1 1 (by decide +kernel) rfl), ⟨by decide, by decide, by decide +kernel⟩, by decide⟩
theorem l_SN_Op_52 : mLkSN "ReplicaDocument$Operation" 52 m_Do_isId 1 "ReplicaDocument" := ⟨l_B_Do_isId, by decide, (tw_1 166 (by decide +kernel) rfl)⟩
theorem l_V_Op_48 : mLkV "ReplicaDocument$Operation" 48 m_Op_writesToMap 1 0 := ⟨l_B_Op_writesToMap, (tw_1 161 (by decide +kernel) rfl), (tw_1 162 (by decide +kernel) rfl), (tw_1 163 (by decide +kernel) rfl), _, rfl, rfl⟩
theorem l_SN_Op_55 : mLkSN "ReplicaDocument$Operation" 55 m_Do_isKey 1 "ReplicaDocument" := ⟨l_B_Do_isKey, by decide, (tw_1 169 (by decide +kernel) rfl)⟩
theorem l_F_Re_9 : mLkF "ReplicaDocument$Replica" 9 3 0 true := ⟨_, rfl, by decide, rfl, rfl, (tw_1 74 (by decide +kernel) rfl)⟩
theorem l_C_Re_15 : Cond.classLink "ReplicaDocument$Replica" 15 mCop ∈ mWd := (tw_1 24 (by decide +kernel) rfl)
theorem l_F_Re_17 : mLkF "ReplicaDocument$Replica" 17 3 1 true := ⟨_, rfl, by decide, rfl, rfl, (tw_1 75 (by decide +kernel) rfl)⟩
theorem l_O_Re_3 : mLkO "ReplicaDocument$Replica" 3 := ⟨(tw_1 23 (by decide +kernel) rfl), (tw_1 15 (by decide +kernel) rfl), (tw_1 16 rfl rfl)⟩
theorem l_F_Re_22 : mLkF "ReplicaDocument$Replica" 22 3 2 true := ⟨_, rfl, by decide, rfl, rfl, (tw_1 78 (by decide +kernel) rfl)⟩
theorem l_F_Re_26 : mLkF "ReplicaDocument$Replica" 26 3 3 true := ⟨_, rfl, by decide, rfl, rfl, (tw_1 79 (by decide +kernel) rfl)⟩
theorem l_F_Re_30 : mLkF "ReplicaDocument$Replica" 30 3 4 true := ⟨_, rfl, by decide, rfl, rfl, (tw_1 81 (by decide +kernel) rfl)⟩
theorem l_N_Re_15 : mLkN "ReplicaDocument$Replica" 15 1 7 := ⟨_, rfl, rfl, (tw_1 24 (by decide +kernel) rfl), (tw_1 26 (by decide +kernel) rfl), (tw_1 3 (by decide +kernel) rfl)⟩
theorem l_I_Re_21 : mLkI "ReplicaDocument$Replica" 21 m_Op_init 0 := ⟨l_B_Op_init, (tw_1 27 (by decide +kernel) rfl), (tw_1 28 (by decide +kernel) rfl), rfl⟩
theorem l_F_Re_33 : mLkF "ReplicaDocument$Replica" 33 1 2 false := ⟨_, rfl, by decide, rfl, rfl, (tw_1 38 (by decide +kernel) rfl)⟩
theorem l_F_Re_36 : mLkF "ReplicaDocument$Replica" 36 3 5 false := ⟨_, rfl, by decide, rfl, rfl, (tw_1 84 (by decide +kernel) rfl)⟩
theorem l_F_Re_43 : mLkF "ReplicaDocument$Replica" 43 1 3 false := ⟨_, rfl, by decide, rfl, rfl, (tw_1 43 (by decide +kernel) rfl)⟩
theorem l_V_Re_39 : mLkV "ReplicaDocument$Replica" 39 m_Re_find 3 2 := ⟨l_B_Re_find, (tw_1 183 (by decide +kernel) rfl), (tw_1 184 (by decide +kernel) rfl), (tw_1 185 (by decide +kernel) rfl), _, rfl, rfl⟩
theorem l_F_Re_53 : mLkF "ReplicaDocument$Replica" 53 1 4 false := ⟨_, rfl, by decide, rfl, rfl, (tw_1 49 (by decide +kernel) rfl)⟩
theorem l_V_Re_60 : mLkV "ReplicaDocument$Replica" 60 m_Re_isMap 3 1 := ⟨l_B_Re_isMap, (tw_1 191 (by decide +kernel) rfl), (tw_1 192 (by decide +kernel) rfl), (tw_1 193 (by decide +kernel) rfl), _, rfl, rfl⟩
theorem l_B_Re_findInsert : mLkB m_Re_findInsert 1 := ⟨(tw_1 182 rfl rfl), (tw_1 2 (by decide +kernel) rfl), ⟨by decide, by decide, by decide +kernel⟩, by decide⟩
theorem l_V_Re_49 : mLkV "ReplicaDocument$Replica" 49 m_Re_findInsert 3 1 := ⟨l_B_Re_findInsert, (tw_1 179 (by decide +kernel) rfl), (tw_1 181 (by decide +kernel) rfl), (tw_p 1 (by decide +kernel) rfl), _, rfl, rfl⟩
theorem l_F_Re_46 : mLkF "ReplicaDocument$Replica" 46 1 5 false := ⟨_, rfl, by decide, rfl, rfl, (tw_1 53 (by decide +kernel) rfl)⟩
theorem l_V_Re_56 : mLkV "ReplicaDocument$Replica" 56 m_Re_isList 3 1 := ⟨l_B_Re_isList, (tw_1 187 (by decide +kernel) rfl), (tw_1 188 (by decide +kernel) rfl), (tw_1 189 (by decide +kernel) rfl), _, rfl, rfl⟩
theorem l_V_Re_63 : mLkV "ReplicaDocument$Replica" 63 m_Op_hasBefore 1 1 := ⟨l_B_Op_hasBefore, (tw_1 211 (by decide +kernel) rfl), (tw_1 212 (by decide +kernel) rfl), (tw_1 213 (by decide +kernel) rfl), _, rfl, rfl⟩
theorem l_B_Re_isHead : mLkB m_Re_isHead 1 := ⟨(tw_1 210 rfl rfl), (tw_1 2 (by decide +kernel) rfl), ⟨by decide, by decide, by decide +kernel⟩, by decide⟩
theorem l_V_Re_66 : mLkV "ReplicaDocument$Replica" 66 m_Re_isHead 3 1 := ⟨l_B_Re_isHead, (tw_1 207 (by decide +kernel) rfl), (tw_1 208 (by decide +kernel) rfl), (tw_1 209 (by decide +kernel) rfl), _, rfl, rfl⟩
theorem l_F_Re_73 : mLkF "ReplicaDocument$Replica" 73 3 6 false := ⟨_, rfl, by decide, rfl, rfl, (tw_1 87 (by decide +kernel) rfl)⟩
theorem l_B_Re_settle : mLkB m_Re_settle 0 := ⟨(tw_2 11 rfl rfl), (tw_1 2 (by decide +kernel) rfl), ⟨by decide, by decide, by decide +kernel⟩, by decide⟩
theorem l_V_Re_88 : mLkV "ReplicaDocument$Replica" 88 m_Re_settle 3 0 := ⟨l_B_Re_settle, (tw_2 8 (by decide +kernel) rfl), (tw_2 10 (by decide +kernel) rfl), (tw_p 8 (by decide +kernel) rfl), _, rfl, rfl⟩
theorem l_B_Re_applyWaiting : mLkB m_Re_applyWaiting 1 := ⟨(tw_1 238 rfl rfl), (tw_1 2 (by decide +kernel) rfl), ⟨by decide, by decide, by decide +kernel⟩, by decide⟩
theorem l_V_Re_84 : mLkV "ReplicaDocument$Replica" 84 m_Re_applyWaiting 3 1 := ⟨l_B_Re_applyWaiting, (tw_1 235 (by decide +kernel) rfl), (tw_1 237 (by decide +kernel) rfl), (tw_p 5 (by decide +kernel) rfl), _, rfl, rfl⟩
theorem l_B_Re_keep : mLkB m_Re_keep 1 := ⟨(tw_1 226 rfl rfl), (tw_1 2 (by decide +kernel) rfl), ⟨by decide, by decide, by decide +kernel⟩, by decide⟩
theorem l_V_Re_80 : mLkV "ReplicaDocument$Replica" 80 m_Re_keep 3 1 := ⟨l_B_Re_keep, (tw_1 223 (by decide +kernel) rfl), (tw_1 225 (by decide +kernel) rfl), (tw_p 4 (by decide +kernel) rfl), _, rfl, rfl⟩
theorem l_B_Re_gatherBefore : mLkB m_Re_gatherBefore 1 := ⟨(tw_1 206 rfl rfl), (tw_1 2 (by decide +kernel) rfl), ⟨by decide, by decide, by decide +kernel⟩, by decide⟩
theorem l_V_Re_76 : mLkV "ReplicaDocument$Replica" 76 m_Re_gatherBefore 3 1 := ⟨l_B_Re_gatherBefore, (tw_1 203 (by decide +kernel) rfl), (tw_1 205 (by decide +kernel) rfl), (tw_p 3 (by decide +kernel) rfl), _, rfl, rfl⟩
theorem l_B_Re_greatestCount : mLkB m_Re_greatestCount 0 := ⟨(tw_1 202 rfl rfl), (tw_1 2 (by decide +kernel) rfl), ⟨by decide, by decide, by decide +kernel⟩, by decide⟩
theorem l_V_Re_69 : mLkV "ReplicaDocument$Replica" 69 m_Re_greatestCount 3 0 := ⟨l_B_Re_greatestCount, (tw_1 199 (by decide +kernel) rfl), (tw_1 201 (by decide +kernel) rfl), (tw_p 2 (by decide +kernel) rfl), _, rfl, rfl⟩
theorem l_B_Op_names : mLkB m_Op_names 1 := ⟨(tw_1 218 rfl rfl), (tw_1 3 (by decide +kernel) rfl), ⟨by decide, by decide, by decide +kernel⟩, by decide⟩
theorem l_V_Re_91 : mLkV "ReplicaDocument$Replica" 91 m_Op_names 1 1 := ⟨l_B_Op_names, (tw_1 215 (by decide +kernel) rfl), (tw_1 216 (by decide +kernel) rfl), (tw_1 217 (by decide +kernel) rfl), _, rfl, rfl⟩
theorem l_B_Op_addBefore : mLkB m_Op_addBefore 1 := ⟨(tw_1 222 rfl rfl), (tw_1 3 (by decide +kernel) rfl), ⟨by decide, by decide, by decide +kernel⟩, by decide⟩
theorem l_V_Re_94 : mLkV "ReplicaDocument$Replica" 94 m_Op_addBefore 1 1 := ⟨l_B_Op_addBefore, (tw_1 219 (by decide +kernel) rfl), (tw_1 220 (by decide +kernel) rfl), (tw_1 221 (by decide +kernel) rfl), _, rfl, rfl⟩
theorem l_B_Op_isBehindBefore : mLkB m_Op_isBehindBefore 0 := ⟨(tw_2 85 rfl rfl), (tw_1 3 (by decide +kernel) rfl), ⟨by decide, by decide, by decide +kernel⟩, by decide⟩
theorem l_V_Re_104 : mLkV "ReplicaDocument$Replica" 104 m_Op_isBehindBefore 1 0 := ⟨l_B_Op_isBehindBefore, (tw_2 82 (by decide +kernel) rfl), (tw_2 83 (by decide +kernel) rfl), (tw_2 84 (by decide +kernel) rfl), _, rfl, rfl⟩
theorem l_B_Op_namesOnlyBefore : mLkB m_Op_namesOnlyBefore 0 := ⟨(tw_2 80 rfl rfl), (tw_1 3 (by decide +kernel) rfl), ⟨by decide, by decide, by decide +kernel⟩, by decide⟩
theorem l_V_Re_100 : mLkV "ReplicaDocument$Replica" 100 m_Op_namesOnlyBefore 1 0 := ⟨l_B_Op_namesOnlyBefore, (tw_2 77 (by decide +kernel) rfl), (tw_2 78 (by decide +kernel) rfl), (tw_2 79 (by decide +kernel) rfl), _, rfl, rfl⟩
theorem l_B_Op_hasSameBytesAs : mLkB m_Op_hasSameBytesAs 1 := ⟨(tw_2 76 rfl rfl), (tw_1 3 (by decide +kernel) rfl), ⟨by decide, by decide, by decide +kernel⟩, by decide⟩
theorem l_V_Re_97 : mLkV "ReplicaDocument$Replica" 97 m_Op_hasSameBytesAs 1 1 := ⟨l_B_Op_hasSameBytesAs, (tw_2 73 (by decide +kernel) rfl), (tw_2 74 (by decide +kernel) rfl), (tw_2 75 (by decide +kernel) rfl), _, rfl, rfl⟩
theorem l_B_Op_copyFrom : mLkB m_Op_copyFrom 1 := ⟨(tw_1 230 rfl rfl), (tw_1 3 (by decide +kernel) rfl), ⟨by decide, by decide, by decide +kernel⟩, by decide⟩
theorem l_V_Re_107 : mLkV "ReplicaDocument$Replica" 107 m_Op_copyFrom 1 1 := ⟨l_B_Op_copyFrom, (tw_1 227 (by decide +kernel) rfl), (tw_1 228 (by decide +kernel) rfl), (tw_1 229 (by decide +kernel) rfl), _, rfl, rfl⟩
theorem l_B_Re_findLeastReady : mLkB m_Re_findLeastReady 0 := ⟨(tw_2 15 rfl rfl), (tw_1 2 (by decide +kernel) rfl), ⟨by decide, by decide, by decide +kernel⟩, by decide⟩
theorem l_V_Re_110 : mLkV "ReplicaDocument$Replica" 110 m_Re_findLeastReady 3 0 := ⟨l_B_Re_findLeastReady, (tw_2 12 (by decide +kernel) rfl), (tw_2 14 (by decide +kernel) rfl), (tw_p 9 (by decide +kernel) rfl), _, rfl, rfl⟩
theorem l_B_Re_isReady : mLkB m_Re_isReady 1 := ⟨(tw_2 19 rfl rfl), (tw_1 2 (by decide +kernel) rfl), ⟨by decide, by decide, by decide +kernel⟩, by decide⟩
theorem l_V_Re_113 : mLkV "ReplicaDocument$Replica" 113 m_Re_isReady 3 1 := ⟨l_B_Re_isReady, (tw_2 16 (by decide +kernel) rfl), (tw_2 18 (by decide +kernel) rfl), (tw_p 10 (by decide +kernel) rfl), _, rfl, rfl⟩
theorem l_F_Re_116 : mLkF "ReplicaDocument$Replica" 116 1 1 false := ⟨_, rfl, by decide, rfl, rfl, (tw_1 36 (by decide +kernel) rfl)⟩
theorem l_F_Re_119 : mLkF "ReplicaDocument$Replica" 119 1 0 true := ⟨_, rfl, by decide, rfl, rfl, (tw_1 33 (by decide +kernel) rfl)⟩
theorem l_B_Re_fileById : mLkB m_Re_fileById 1 := ⟨(tw_2 7 rfl rfl), (tw_1 2 (by decide +kernel) rfl), ⟨by decide, by decide, by decide +kernel⟩, by decide⟩
theorem l_V_Re_129 : mLkV "ReplicaDocument$Replica" 129 m_Re_fileById 3 1 := ⟨l_B_Re_fileById, (tw_2 4 (by decide +kernel) rfl), (tw_2 6 (by decide +kernel) rfl), (tw_p 7 (by decide +kernel) rfl), _, rfl, rfl⟩
theorem l_V_Re_126 : mLkV "ReplicaDocument$Replica" 126 m_Re_hasPlaceFor 3 1 := ⟨l_B_Re_hasPlaceFor, (tw_2 3 (by decide +kernel) rfl), (tw_1 176 (by decide +kernel) rfl), (tw_1 177 (by decide +kernel) rfl), _, rfl, rfl⟩
theorem l_B_Re_gatherPast : mLkB m_Re_gatherPast 1 := ⟨(tw_2 2 rfl rfl), (tw_1 2 (by decide +kernel) rfl), ⟨by decide, by decide, by decide +kernel⟩, by decide⟩
theorem l_V_Re_122 : mLkV "ReplicaDocument$Replica" 122 m_Re_gatherPast 3 1 := ⟨l_B_Re_gatherPast, (tw_1 239 (by decide +kernel) rfl), (tw_2 1 (by decide +kernel) rfl), (tw_p 6 (by decide +kernel) rfl), _, rfl, rfl⟩
theorem l_F_Wi_9 : mLkF "ReplicaDocument$Wire" 9 2 0 true := ⟨_, rfl, by decide, rfl, rfl, (tw_1 123 (by decide +kernel) rfl)⟩
theorem l_O_Wi_3 : mLkO "ReplicaDocument$Wire" 3 := ⟨(tw_1 122 (by decide +kernel) rfl), (tw_1 15 (by decide +kernel) rfl), (tw_1 16 rfl rfl)⟩
theorem l_F_Wi_15 : mLkF "ReplicaDocument$Wire" 15 2 1 false := ⟨_, rfl, by decide, rfl, rfl, (tw_1 124 (by decide +kernel) rfl)⟩
theorem l_X_Wi_19 : mLkX "ReplicaDocument$Wire" 19 := ⟨(tw_2 46 (by decide +kernel) rfl), (tw_2 47 (by decide +kernel) rfl), (tw_1 8 (by decide +kernel) rfl), (tw_2 48 rfl rfl)⟩
theorem l_F_Wi_25 : mLkF "ReplicaDocument$Wire" 25 1 2 false := ⟨_, rfl, by decide, rfl, rfl, (tw_1 40 (by decide +kernel) rfl)⟩
theorem l_F_Wi_30 : mLkF "ReplicaDocument$Wire" 30 1 3 false := ⟨_, rfl, by decide, rfl, rfl, (tw_1 45 (by decide +kernel) rfl)⟩
theorem l_F_Wi_33 : mLkF "ReplicaDocument$Wire" 33 1 4 false := ⟨_, rfl, by decide, rfl, rfl, (tw_1 48 (by decide +kernel) rfl)⟩
theorem l_F_Wi_36 : mLkF "ReplicaDocument$Wire" 36 1 5 false := ⟨_, rfl, by decide, rfl, rfl, (tw_1 52 (by decide +kernel) rfl)⟩
theorem l_F_Wi_39 : mLkF "ReplicaDocument$Wire" 39 1 6 false := ⟨_, rfl, by decide, rfl, rfl, (tw_1 55 (by decide +kernel) rfl)⟩
theorem l_F_Wi_42 : mLkF "ReplicaDocument$Wire" 42 1 1 false := ⟨_, rfl, by decide, rfl, rfl, (tw_1 35 (by decide +kernel) rfl)⟩
theorem l_F_Wi_45 : mLkF "ReplicaDocument$Wire" 45 1 0 true := ⟨_, rfl, by decide, rfl, rfl, (tw_1 32 (by decide +kernel) rfl)⟩
theorem l_A_Wi_48 : mLkA "ReplicaDocument$Wire" 48 := ⟨(tw_2 29 (by decide +kernel) rfl), (tw_1 234 (by decide +kernel) rfl), (tw_1 233 (by decide +kernel) rfl), (tw_1 7 (by decide +kernel) rfl)⟩
theorem l_V_Wi_54 : mLkV "ReplicaDocument$Wire" 54 m_Op_begin 1 5 := ⟨l_B_Op_begin, (tw_2 65 (by decide +kernel) rfl), (tw_1 154 (by decide +kernel) rfl), (tw_1 155 (by decide +kernel) rfl), _, rfl, rfl⟩
theorem l_V_Wi_65 : mLkV "ReplicaDocument$Wire" 65 m_Op_hasSoundParts 1 0 := ⟨l_B_Op_hasSoundParts, (tw_2 68 (by decide +kernel) rfl), (tw_1 158 (by decide +kernel) rfl), (tw_1 159 (by decide +kernel) rfl), _, rfl, rfl⟩
theorem l_SN_Wi_58 : mLkSN "ReplicaDocument$Wire" 58 m_Do_isId 1 "ReplicaDocument" := ⟨l_B_Do_isId, by decide, (tw_1 166 (by decide +kernel) rfl)⟩
theorem l_V_Wi_62 : mLkV "ReplicaDocument$Wire" 62 m_Op_addBefore 1 1 := ⟨l_B_Op_addBefore, (tw_2 67 (by decide +kernel) rfl), (tw_1 220 (by decide +kernel) rfl), (tw_1 221 (by decide +kernel) rfl), _, rfl, rfl⟩
end
section
/-! decode rows -/
theorem d_Op_init_0 : decode prog_3_method_1_code 0 = .ok (.aload_n 0, 1) := by decide +kernel
theorem d_Op_init_1 : decode prog_3_method_1_code 1 = .ok (.invokespecial 3, 3) := by decide +kernel
theorem d_Op_init_4 : decode prog_3_method_1_code 4 = .ok (.aload_n 0, 1) := by decide +kernel
theorem d_Op_init_5 : decode prog_3_method_1_code 5 = .ok (.bipush 6, 2) := by decide +kernel
theorem d_Op_init_7 : decode prog_3_method_1_code 7 = .ok (.newarray .int, 2) := by decide +kernel
theorem d_Op_init_9 : decode prog_3_method_1_code 9 = .ok (.putfield 9, 3) := by decide +kernel
theorem d_Op_init_12 : decode prog_3_method_1_code 12 = .ok (.return_, 1) := by decide +kernel
theorem d_Op_begin_0 : decode prog_3_method_2_code 0 = .ok (.aload_n 0, 1) := by decide +kernel
theorem d_Op_begin_1 : decode prog_3_method_2_code 1 = .ok (.iload_n 1, 1) := by decide +kernel
theorem d_Op_begin_2 : decode prog_3_method_2_code 2 = .ok (.putfield 15, 3) := by decide +kernel
theorem d_Op_begin_5 : decode prog_3_method_2_code 5 = .ok (.aload_n 0, 1) := by decide +kernel
theorem d_Op_begin_6 : decode prog_3_method_2_code 6 = .ok (.iload_n 2, 1) := by decide +kernel
theorem d_Op_begin_7 : decode prog_3_method_2_code 7 = .ok (.putfield 19, 3) := by decide +kernel
theorem d_Op_begin_10 : decode prog_3_method_2_code 10 = .ok (.aload_n 0, 1) := by decide +kernel
theorem d_Op_begin_11 : decode prog_3_method_2_code 11 = .ok (.iload_n 3, 1) := by decide +kernel
theorem d_Op_begin_12 : decode prog_3_method_2_code 12 = .ok (.putfield 22, 3) := by decide +kernel
theorem d_Op_begin_15 : decode prog_3_method_2_code 15 = .ok (.aload_n 0, 1) := by decide +kernel
theorem d_Op_begin_16 : decode prog_3_method_2_code 16 = .ok (.iload 4, 2) := by decide +kernel
theorem d_Op_begin_18 : decode prog_3_method_2_code 18 = .ok (.putfield 25, 3) := by decide +kernel
theorem d_Op_begin_21 : decode prog_3_method_2_code 21 = .ok (.aload_n 0, 1) := by decide +kernel
theorem d_Op_begin_22 : decode prog_3_method_2_code 22 = .ok (.iload 5, 2) := by decide +kernel
theorem d_Op_begin_24 : decode prog_3_method_2_code 24 = .ok (.putfield 28, 3) := by decide +kernel
theorem d_Op_begin_27 : decode prog_3_method_2_code 27 = .ok (.aload_n 0, 1) := by decide +kernel
theorem d_Op_begin_28 : decode prog_3_method_2_code 28 = .ok (.iconst 0, 1) := by decide +kernel
theorem d_Op_begin_29 : decode prog_3_method_2_code 29 = .ok (.putfield 31, 3) := by decide +kernel
theorem d_Op_begin_32 : decode prog_3_method_2_code 32 = .ok (.return_, 1) := by decide +kernel
theorem d_Op_copyFrom_0 : decode prog_3_method_3_code 0 = .ok (.aload_n 0, 1) := by decide +kernel
theorem d_Op_copyFrom_1 : decode prog_3_method_3_code 1 = .ok (.aload_n 1, 1) := by decide +kernel
theorem d_Op_copyFrom_2 : decode prog_3_method_3_code 2 = .ok (.getfield 15, 3) := by decide +kernel
theorem d_Op_copyFrom_5 : decode prog_3_method_3_code 5 = .ok (.aload_n 1, 1) := by decide +kernel
theorem d_Op_copyFrom_6 : decode prog_3_method_3_code 6 = .ok (.getfield 19, 3) := by decide +kernel
theorem d_Op_copyFrom_9 : decode prog_3_method_3_code 9 = .ok (.aload_n 1, 1) := by decide +kernel
theorem d_Op_copyFrom_10 : decode prog_3_method_3_code 10 = .ok (.getfield 22, 3) := by decide +kernel
theorem d_Op_copyFrom_13 : decode prog_3_method_3_code 13 = .ok (.aload_n 1, 1) := by decide +kernel
theorem d_Op_copyFrom_14 : decode prog_3_method_3_code 14 = .ok (.getfield 25, 3) := by decide +kernel
theorem d_Op_copyFrom_17 : decode prog_3_method_3_code 17 = .ok (.aload_n 1, 1) := by decide +kernel
theorem d_Op_copyFrom_18 : decode prog_3_method_3_code 18 = .ok (.getfield 28, 3) := by decide +kernel
theorem d_Op_copyFrom_21 : decode prog_3_method_3_code 21 = .ok (.invokevirtual 34, 3) := by decide +kernel
theorem d_Op_copyFrom_24 : decode prog_3_method_3_code 24 = .ok (.aload_n 1, 1) := by decide +kernel
theorem d_Op_copyFrom_25 : decode prog_3_method_3_code 25 = .ok (.getfield 9, 3) := by decide +kernel
theorem d_Op_copyFrom_28 : decode prog_3_method_3_code 28 = .ok (.iconst 0, 1) := by decide +kernel
theorem d_Op_copyFrom_29 : decode prog_3_method_3_code 29 = .ok (.aload_n 0, 1) := by decide +kernel
theorem d_Op_copyFrom_30 : decode prog_3_method_3_code 30 = .ok (.getfield 9, 3) := by decide +kernel
theorem d_Op_copyFrom_33 : decode prog_3_method_3_code 33 = .ok (.iconst 0, 1) := by decide +kernel
theorem d_Op_copyFrom_34 : decode prog_3_method_3_code 34 = .ok (.bipush 6, 2) := by decide +kernel
theorem d_Op_copyFrom_36 : decode prog_3_method_3_code 36 = .ok (.invokestatic 38, 3) := by decide +kernel
theorem d_Op_copyFrom_39 : decode prog_3_method_3_code 39 = .ok (.aload_n 0, 1) := by decide +kernel
theorem d_Op_copyFrom_40 : decode prog_3_method_3_code 40 = .ok (.aload_n 1, 1) := by decide +kernel
theorem d_Op_copyFrom_41 : decode prog_3_method_3_code 41 = .ok (.getfield 31, 3) := by decide +kernel
theorem d_Op_copyFrom_44 : decode prog_3_method_3_code 44 = .ok (.putfield 31, 3) := by decide +kernel
theorem d_Op_copyFrom_47 : decode prog_3_method_3_code 47 = .ok (.return_, 1) := by decide +kernel
theorem d_Op_addBefore_0 : decode prog_3_method_4_code 0 = .ok (.aload_n 0, 1) := by decide +kernel
theorem d_Op_addBefore_1 : decode prog_3_method_4_code 1 = .ok (.getfield 31, 3) := by decide +kernel
theorem d_Op_addBefore_4 : decode prog_3_method_4_code 4 = .ok (.bipush 6, 2) := by decide +kernel
theorem d_Op_addBefore_6 : decode prog_3_method_4_code 6 = .ok (.if_icmp .lt 5, 3) := by decide +kernel
theorem d_Op_addBefore_9 : decode prog_3_method_4_code 9 = .ok (.iconst 0, 1) := by decide +kernel
theorem d_Op_addBefore_10 : decode prog_3_method_4_code 10 = .ok (.ireturn, 1) := by decide +kernel
theorem d_Op_addBefore_11 : decode prog_3_method_4_code 11 = .ok (.aload_n 0, 1) := by decide +kernel
theorem d_Op_addBefore_12 : decode prog_3_method_4_code 12 = .ok (.getfield 31, 3) := by decide +kernel
theorem d_Op_addBefore_15 : decode prog_3_method_4_code 15 = .ok (.istore_n 2, 1) := by decide +kernel
theorem d_Op_addBefore_16 : decode prog_3_method_4_code 16 = .ok (.iload_n 2, 1) := by decide +kernel
theorem d_Op_addBefore_17 : decode prog_3_method_4_code 17 = .ok (.ifCond .le 35, 3) := by decide +kernel
theorem d_Op_addBefore_20 : decode prog_3_method_4_code 20 = .ok (.aload_n 0, 1) := by decide +kernel
theorem d_Op_addBefore_21 : decode prog_3_method_4_code 21 = .ok (.getfield 9, 3) := by decide +kernel
theorem d_Op_addBefore_24 : decode prog_3_method_4_code 24 = .ok (.iload_n 2, 1) := by decide +kernel
theorem d_Op_addBefore_25 : decode prog_3_method_4_code 25 = .ok (.iconst 1, 1) := by decide +kernel
theorem d_Op_addBefore_26 : decode prog_3_method_4_code 26 = .ok (.isub, 1) := by decide +kernel
theorem d_Op_addBefore_27 : decode prog_3_method_4_code 27 = .ok (.iaload, 1) := by decide +kernel
theorem d_Op_addBefore_28 : decode prog_3_method_4_code 28 = .ok (.iload_n 1, 1) := by decide +kernel
theorem d_Op_addBefore_29 : decode prog_3_method_4_code 29 = .ok (.if_icmp .le 23, 3) := by decide +kernel
theorem d_Op_addBefore_32 : decode prog_3_method_4_code 32 = .ok (.aload_n 0, 1) := by decide +kernel
theorem d_Op_addBefore_33 : decode prog_3_method_4_code 33 = .ok (.getfield 9, 3) := by decide +kernel
theorem d_Op_addBefore_36 : decode prog_3_method_4_code 36 = .ok (.iload_n 2, 1) := by decide +kernel
theorem d_Op_addBefore_37 : decode prog_3_method_4_code 37 = .ok (.aload_n 0, 1) := by decide +kernel
theorem d_Op_addBefore_38 : decode prog_3_method_4_code 38 = .ok (.getfield 9, 3) := by decide +kernel
theorem d_Op_addBefore_41 : decode prog_3_method_4_code 41 = .ok (.iload_n 2, 1) := by decide +kernel
theorem d_Op_addBefore_42 : decode prog_3_method_4_code 42 = .ok (.iconst 1, 1) := by decide +kernel
theorem d_Op_addBefore_43 : decode prog_3_method_4_code 43 = .ok (.isub, 1) := by decide +kernel
theorem d_Op_addBefore_44 : decode prog_3_method_4_code 44 = .ok (.iaload, 1) := by decide +kernel
theorem d_Op_addBefore_45 : decode prog_3_method_4_code 45 = .ok (.iastore, 1) := by decide +kernel
theorem d_Op_addBefore_46 : decode prog_3_method_4_code 46 = .ok (.iinc 2 (-1), 3) := by decide +kernel
theorem d_Op_addBefore_49 : decode prog_3_method_4_code 49 = .ok (.goto (-33), 3) := by decide +kernel
theorem d_Op_addBefore_52 : decode prog_3_method_4_code 52 = .ok (.aload_n 0, 1) := by decide +kernel
theorem d_Op_addBefore_53 : decode prog_3_method_4_code 53 = .ok (.getfield 9, 3) := by decide +kernel
theorem d_Op_addBefore_56 : decode prog_3_method_4_code 56 = .ok (.iload_n 2, 1) := by decide +kernel
theorem d_Op_addBefore_57 : decode prog_3_method_4_code 57 = .ok (.iload_n 1, 1) := by decide +kernel
theorem d_Op_addBefore_58 : decode prog_3_method_4_code 58 = .ok (.iastore, 1) := by decide +kernel
theorem d_Op_addBefore_59 : decode prog_3_method_4_code 59 = .ok (.aload_n 0, 1) := by decide +kernel
theorem d_Op_addBefore_60 : decode prog_3_method_4_code 60 = .ok (.dup, 1) := by decide +kernel
theorem d_Op_addBefore_61 : decode prog_3_method_4_code 61 = .ok (.getfield 31, 3) := by decide +kernel
theorem d_Op_addBefore_64 : decode prog_3_method_4_code 64 = .ok (.iconst 1, 1) := by decide +kernel
theorem d_Op_addBefore_65 : decode prog_3_method_4_code 65 = .ok (.iadd, 1) := by decide +kernel
theorem d_Op_addBefore_66 : decode prog_3_method_4_code 66 = .ok (.putfield 31, 3) := by decide +kernel
theorem d_Op_addBefore_69 : decode prog_3_method_4_code 69 = .ok (.iconst 1, 1) := by decide +kernel
theorem d_Op_addBefore_70 : decode prog_3_method_4_code 70 = .ok (.ireturn, 1) := by decide +kernel
theorem d_Op_hasBefore_0 : decode prog_3_method_5_code 0 = .ok (.iconst 0, 1) := by decide +kernel
theorem d_Op_hasBefore_1 : decode prog_3_method_5_code 1 = .ok (.istore_n 2, 1) := by decide +kernel
theorem d_Op_hasBefore_2 : decode prog_3_method_5_code 2 = .ok (.iload_n 2, 1) := by decide +kernel
theorem d_Op_hasBefore_3 : decode prog_3_method_5_code 3 = .ok (.aload_n 0, 1) := by decide +kernel
theorem d_Op_hasBefore_4 : decode prog_3_method_5_code 4 = .ok (.getfield 31, 3) := by decide +kernel
theorem d_Op_hasBefore_7 : decode prog_3_method_5_code 7 = .ok (.if_icmp .ge 21, 3) := by decide +kernel
theorem d_Op_hasBefore_10 : decode prog_3_method_5_code 10 = .ok (.aload_n 0, 1) := by decide +kernel
theorem d_Op_hasBefore_11 : decode prog_3_method_5_code 11 = .ok (.getfield 9, 3) := by decide +kernel
theorem d_Op_hasBefore_14 : decode prog_3_method_5_code 14 = .ok (.iload_n 2, 1) := by decide +kernel
theorem d_Op_hasBefore_15 : decode prog_3_method_5_code 15 = .ok (.iaload, 1) := by decide +kernel
theorem d_Op_hasBefore_16 : decode prog_3_method_5_code 16 = .ok (.iload_n 1, 1) := by decide +kernel
theorem d_Op_hasBefore_17 : decode prog_3_method_5_code 17 = .ok (.if_icmp .ne 5, 3) := by decide +kernel
theorem d_Op_hasBefore_20 : decode prog_3_method_5_code 20 = .ok (.iconst 1, 1) := by decide +kernel
theorem d_Op_hasBefore_21 : decode prog_3_method_5_code 21 = .ok (.ireturn, 1) := by decide +kernel
theorem d_Op_hasBefore_22 : decode prog_3_method_5_code 22 = .ok (.iinc 2 1, 3) := by decide +kernel
theorem d_Op_hasBefore_25 : decode prog_3_method_5_code 25 = .ok (.goto (-23), 3) := by decide +kernel
theorem d_Op_hasBefore_28 : decode prog_3_method_5_code 28 = .ok (.iconst 0, 1) := by decide +kernel
theorem d_Op_hasBefore_29 : decode prog_3_method_5_code 29 = .ok (.ireturn, 1) := by decide +kernel
theorem d_Op_writesToMap_0 : decode prog_3_method_6_code 0 = .ok (.aload_n 0, 1) := by decide +kernel
theorem d_Op_writesToMap_1 : decode prog_3_method_6_code 1 = .ok (.getfield 19, 3) := by decide +kernel
theorem d_Op_writesToMap_4 : decode prog_3_method_6_code 4 = .ok (.ifCond .eq 27, 3) := by decide +kernel
theorem d_Op_writesToMap_7 : decode prog_3_method_6_code 7 = .ok (.aload_n 0, 1) := by decide +kernel
theorem d_Op_writesToMap_8 : decode prog_3_method_6_code 8 = .ok (.getfield 19, 3) := by decide +kernel
theorem d_Op_writesToMap_11 : decode prog_3_method_6_code 11 = .ok (.iconst 1, 1) := by decide +kernel
theorem d_Op_writesToMap_12 : decode prog_3_method_6_code 12 = .ok (.if_icmp .eq 19, 3) := by decide +kernel
theorem d_Op_writesToMap_15 : decode prog_3_method_6_code 15 = .ok (.aload_n 0, 1) := by decide +kernel
theorem d_Op_writesToMap_16 : decode prog_3_method_6_code 16 = .ok (.getfield 19, 3) := by decide +kernel
theorem d_Op_writesToMap_19 : decode prog_3_method_6_code 19 = .ok (.iconst 2, 1) := by decide +kernel
theorem d_Op_writesToMap_20 : decode prog_3_method_6_code 20 = .ok (.if_icmp .eq 11, 3) := by decide +kernel
theorem d_Op_writesToMap_23 : decode prog_3_method_6_code 23 = .ok (.aload_n 0, 1) := by decide +kernel
theorem d_Op_writesToMap_24 : decode prog_3_method_6_code 24 = .ok (.getfield 19, 3) := by decide +kernel
theorem d_Op_writesToMap_27 : decode prog_3_method_6_code 27 = .ok (.iconst 5, 1) := by decide +kernel
theorem d_Op_writesToMap_28 : decode prog_3_method_6_code 28 = .ok (.if_icmp .ne 7, 3) := by decide +kernel
theorem d_Op_writesToMap_31 : decode prog_3_method_6_code 31 = .ok (.iconst 1, 1) := by decide +kernel
theorem d_Op_writesToMap_32 : decode prog_3_method_6_code 32 = .ok (.goto 4, 3) := by decide +kernel
theorem d_Op_writesToMap_35 : decode prog_3_method_6_code 35 = .ok (.iconst 0, 1) := by decide +kernel
theorem d_Op_writesToMap_36 : decode prog_3_method_6_code 36 = .ok (.ireturn, 1) := by decide +kernel
theorem d_Op_names_0 : decode prog_3_method_7_code 0 = .ok (.iload_n 1, 1) := by decide +kernel
theorem d_Op_names_1 : decode prog_3_method_7_code 1 = .ok (.ifCond .eq 31, 3) := by decide +kernel
theorem d_Op_names_4 : decode prog_3_method_7_code 4 = .ok (.aload_n 0, 1) := by decide +kernel
theorem d_Op_names_5 : decode prog_3_method_7_code 5 = .ok (.getfield 22, 3) := by decide +kernel
theorem d_Op_names_8 : decode prog_3_method_7_code 8 = .ok (.iload_n 1, 1) := by decide +kernel
theorem d_Op_names_9 : decode prog_3_method_7_code 9 = .ok (.if_icmp .eq 19, 3) := by decide +kernel
theorem d_Op_names_12 : decode prog_3_method_7_code 12 = .ok (.aload_n 0, 1) := by decide +kernel
theorem d_Op_names_13 : decode prog_3_method_7_code 13 = .ok (.getfield 19, 3) := by decide +kernel
theorem d_Op_names_16 : decode prog_3_method_7_code 16 = .ok (.iconst 3, 1) := by decide +kernel
theorem d_Op_names_17 : decode prog_3_method_7_code 17 = .ok (.if_icmp .ne 15, 3) := by decide +kernel
theorem d_Op_names_20 : decode prog_3_method_7_code 20 = .ok (.aload_n 0, 1) := by decide +kernel
theorem d_Op_names_21 : decode prog_3_method_7_code 21 = .ok (.getfield 25, 3) := by decide +kernel
theorem d_Op_names_24 : decode prog_3_method_7_code 24 = .ok (.iload_n 1, 1) := by decide +kernel
theorem d_Op_names_25 : decode prog_3_method_7_code 25 = .ok (.if_icmp .ne 7, 3) := by decide +kernel
theorem d_Op_names_28 : decode prog_3_method_7_code 28 = .ok (.iconst 1, 1) := by decide +kernel
theorem d_Op_names_29 : decode prog_3_method_7_code 29 = .ok (.goto 4, 3) := by decide +kernel
theorem d_Op_names_32 : decode prog_3_method_7_code 32 = .ok (.iconst 0, 1) := by decide +kernel
theorem d_Op_names_33 : decode prog_3_method_7_code 33 = .ok (.ireturn, 1) := by decide +kernel
theorem d_Op_namesOnlyBefore_0 : decode prog_3_method_8_code 0 = .ok (.aload_n 0, 1) := by decide +kernel
theorem d_Op_namesOnlyBefore_1 : decode prog_3_method_8_code 1 = .ok (.getfield 19, 3) := by decide +kernel
theorem d_Op_namesOnlyBefore_4 : decode prog_3_method_8_code 4 = .ok (.iconst 3, 1) := by decide +kernel
theorem d_Op_namesOnlyBefore_5 : decode prog_3_method_8_code 5 = .ok (.if_icmp .ne 14, 3) := by decide +kernel
theorem d_Op_namesOnlyBefore_8 : decode prog_3_method_8_code 8 = .ok (.aload_n 0, 1) := by decide +kernel
theorem d_Op_namesOnlyBefore_9 : decode prog_3_method_8_code 9 = .ok (.getfield 25, 3) := by decide +kernel
theorem d_Op_namesOnlyBefore_12 : decode prog_3_method_8_code 12 = .ok (.ifCond .eq 7, 3) := by decide +kernel
theorem d_Op_namesOnlyBefore_15 : decode prog_3_method_8_code 15 = .ok (.iconst 1, 1) := by decide +kernel
theorem d_Op_namesOnlyBefore_16 : decode prog_3_method_8_code 16 = .ok (.goto 4, 3) := by decide +kernel
theorem d_Op_namesOnlyBefore_19 : decode prog_3_method_8_code 19 = .ok (.iconst 0, 1) := by decide +kernel
theorem d_Op_namesOnlyBefore_20 : decode prog_3_method_8_code 20 = .ok (.istore_n 1, 1) := by decide +kernel
theorem d_Op_namesOnlyBefore_21 : decode prog_3_method_8_code 21 = .ok (.aload_n 0, 1) := by decide +kernel
theorem d_Op_namesOnlyBefore_22 : decode prog_3_method_8_code 22 = .ok (.getfield 22, 3) := by decide +kernel
theorem d_Op_namesOnlyBefore_25 : decode prog_3_method_8_code 25 = .ok (.ifCond .eq 14, 3) := by decide +kernel
theorem d_Op_namesOnlyBefore_28 : decode prog_3_method_8_code 28 = .ok (.aload_n 0, 1) := by decide +kernel
theorem d_Op_namesOnlyBefore_29 : decode prog_3_method_8_code 29 = .ok (.aload_n 0, 1) := by decide +kernel
theorem d_Op_namesOnlyBefore_30 : decode prog_3_method_8_code 30 = .ok (.getfield 22, 3) := by decide +kernel
theorem d_Op_namesOnlyBefore_33 : decode prog_3_method_8_code 33 = .ok (.invokevirtual 44, 3) := by decide +kernel
theorem d_Op_namesOnlyBefore_36 : decode prog_3_method_8_code 36 = .ok (.ifCond .eq 22, 3) := by decide +kernel
theorem d_Op_namesOnlyBefore_39 : decode prog_3_method_8_code 39 = .ok (.iload_n 1, 1) := by decide +kernel
theorem d_Op_namesOnlyBefore_40 : decode prog_3_method_8_code 40 = .ok (.ifCond .eq 14, 3) := by decide +kernel
theorem d_Op_namesOnlyBefore_43 : decode prog_3_method_8_code 43 = .ok (.aload_n 0, 1) := by decide +kernel
theorem d_Op_namesOnlyBefore_44 : decode prog_3_method_8_code 44 = .ok (.aload_n 0, 1) := by decide +kernel
theorem d_Op_namesOnlyBefore_45 : decode prog_3_method_8_code 45 = .ok (.getfield 25, 3) := by decide +kernel
theorem d_Op_namesOnlyBefore_48 : decode prog_3_method_8_code 48 = .ok (.invokevirtual 44, 3) := by decide +kernel
theorem d_Op_namesOnlyBefore_51 : decode prog_3_method_8_code 51 = .ok (.ifCond .eq 7, 3) := by decide +kernel
theorem d_Op_namesOnlyBefore_54 : decode prog_3_method_8_code 54 = .ok (.iconst 1, 1) := by decide +kernel
theorem d_Op_namesOnlyBefore_55 : decode prog_3_method_8_code 55 = .ok (.goto 4, 3) := by decide +kernel
theorem d_Op_namesOnlyBefore_58 : decode prog_3_method_8_code 58 = .ok (.iconst 0, 1) := by decide +kernel
theorem d_Op_namesOnlyBefore_59 : decode prog_3_method_8_code 59 = .ok (.ireturn, 1) := by decide +kernel
theorem d_Op_isBehindBefore_0 : decode prog_3_method_9_code 0 = .ok (.iconst 0, 1) := by decide +kernel
theorem d_Op_isBehindBefore_1 : decode prog_3_method_9_code 1 = .ok (.istore_n 1, 1) := by decide +kernel
theorem d_Op_isBehindBefore_2 : decode prog_3_method_9_code 2 = .ok (.iload_n 1, 1) := by decide +kernel
theorem d_Op_isBehindBefore_3 : decode prog_3_method_9_code 3 = .ok (.aload_n 0, 1) := by decide +kernel
theorem d_Op_isBehindBefore_4 : decode prog_3_method_9_code 4 = .ok (.getfield 31, 3) := by decide +kernel
theorem d_Op_isBehindBefore_7 : decode prog_3_method_9_code 7 = .ok (.if_icmp .ge 24, 3) := by decide +kernel
theorem d_Op_isBehindBefore_10 : decode prog_3_method_9_code 10 = .ok (.aload_n 0, 1) := by decide +kernel
theorem d_Op_isBehindBefore_11 : decode prog_3_method_9_code 11 = .ok (.getfield 9, 3) := by decide +kernel
theorem d_Op_isBehindBefore_14 : decode prog_3_method_9_code 14 = .ok (.iload_n 1, 1) := by decide +kernel
theorem d_Op_isBehindBefore_15 : decode prog_3_method_9_code 15 = .ok (.iaload, 1) := by decide +kernel
theorem d_Op_isBehindBefore_16 : decode prog_3_method_9_code 16 = .ok (.aload_n 0, 1) := by decide +kernel
theorem d_Op_isBehindBefore_17 : decode prog_3_method_9_code 17 = .ok (.getfield 15, 3) := by decide +kernel
theorem d_Op_isBehindBefore_20 : decode prog_3_method_9_code 20 = .ok (.if_icmp .lt 5, 3) := by decide +kernel
theorem d_Op_isBehindBefore_23 : decode prog_3_method_9_code 23 = .ok (.iconst 0, 1) := by decide +kernel
theorem d_Op_isBehindBefore_24 : decode prog_3_method_9_code 24 = .ok (.ireturn, 1) := by decide +kernel
theorem d_Op_isBehindBefore_25 : decode prog_3_method_9_code 25 = .ok (.iinc 1 1, 3) := by decide +kernel
theorem d_Op_isBehindBefore_28 : decode prog_3_method_9_code 28 = .ok (.goto (-26), 3) := by decide +kernel
theorem d_Op_isBehindBefore_31 : decode prog_3_method_9_code 31 = .ok (.iconst 1, 1) := by decide +kernel
theorem d_Op_isBehindBefore_32 : decode prog_3_method_9_code 32 = .ok (.ireturn, 1) := by decide +kernel
theorem d_Op_hasSoundParts_0 : decode prog_3_method_10_code 0 = .ok (.aload_n 0, 1) := by decide +kernel
theorem d_Op_hasSoundParts_1 : decode prog_3_method_10_code 1 = .ok (.invokevirtual 48, 3) := by decide +kernel
theorem d_Op_hasSoundParts_4 : decode prog_3_method_10_code 4 = .ok (.ifCond .eq 43, 3) := by decide +kernel
theorem d_Op_hasSoundParts_7 : decode prog_3_method_10_code 7 = .ok (.aload_n 0, 1) := by decide +kernel
theorem d_Op_hasSoundParts_8 : decode prog_3_method_10_code 8 = .ok (.getfield 22, 3) := by decide +kernel
theorem d_Op_hasSoundParts_11 : decode prog_3_method_10_code 11 = .ok (.ifCond .eq 13, 3) := by decide +kernel
theorem d_Op_hasSoundParts_14 : decode prog_3_method_10_code 14 = .ok (.aload_n 0, 1) := by decide +kernel
theorem d_Op_hasSoundParts_15 : decode prog_3_method_10_code 15 = .ok (.getfield 22, 3) := by decide +kernel
theorem d_Op_hasSoundParts_18 : decode prog_3_method_10_code 18 = .ok (.invokestatic 52, 3) := by decide +kernel
theorem d_Op_hasSoundParts_21 : decode prog_3_method_10_code 21 = .ok (.ifCond .eq 24, 3) := by decide +kernel
theorem d_Op_hasSoundParts_24 : decode prog_3_method_10_code 24 = .ok (.aload_n 0, 1) := by decide +kernel
theorem d_Op_hasSoundParts_25 : decode prog_3_method_10_code 25 = .ok (.getfield 25, 3) := by decide +kernel
theorem d_Op_hasSoundParts_28 : decode prog_3_method_10_code 28 = .ok (.invokestatic 55, 3) := by decide +kernel
theorem d_Op_hasSoundParts_31 : decode prog_3_method_10_code 31 = .ok (.ifCond .eq 14, 3) := by decide +kernel
theorem d_Op_hasSoundParts_34 : decode prog_3_method_10_code 34 = .ok (.aload_n 0, 1) := by decide +kernel
theorem d_Op_hasSoundParts_35 : decode prog_3_method_10_code 35 = .ok (.invokevirtual 58, 3) := by decide +kernel
theorem d_Op_hasSoundParts_38 : decode prog_3_method_10_code 38 = .ok (.ifCond .eq 7, 3) := by decide +kernel
theorem d_Op_hasSoundParts_41 : decode prog_3_method_10_code 41 = .ok (.iconst 1, 1) := by decide +kernel
theorem d_Op_hasSoundParts_42 : decode prog_3_method_10_code 42 = .ok (.goto 4, 3) := by decide +kernel
theorem d_Op_hasSoundParts_45 : decode prog_3_method_10_code 45 = .ok (.iconst 0, 1) := by decide +kernel
theorem d_Op_hasSoundParts_46 : decode prog_3_method_10_code 46 = .ok (.ireturn, 1) := by decide +kernel
theorem d_Op_hasSoundParts_47 : decode prog_3_method_10_code 47 = .ok (.aload_n 0, 1) := by decide +kernel
theorem d_Op_hasSoundParts_48 : decode prog_3_method_10_code 48 = .ok (.getfield 19, 3) := by decide +kernel
theorem d_Op_hasSoundParts_51 : decode prog_3_method_10_code 51 = .ok (.iconst 3, 1) := by decide +kernel
theorem d_Op_hasSoundParts_52 : decode prog_3_method_10_code 52 = .ok (.if_icmp .ne 43, 3) := by decide +kernel
theorem d_Op_hasSoundParts_55 : decode prog_3_method_10_code 55 = .ok (.aload_n 0, 1) := by decide +kernel
theorem d_Op_hasSoundParts_56 : decode prog_3_method_10_code 56 = .ok (.getfield 22, 3) := by decide +kernel
theorem d_Op_hasSoundParts_59 : decode prog_3_method_10_code 59 = .ok (.invokestatic 52, 3) := by decide +kernel
theorem d_Op_hasSoundParts_62 : decode prog_3_method_10_code 62 = .ok (.ifCond .eq 31, 3) := by decide +kernel
theorem d_Op_hasSoundParts_65 : decode prog_3_method_10_code 65 = .ok (.aload_n 0, 1) := by decide +kernel
theorem d_Op_hasSoundParts_66 : decode prog_3_method_10_code 66 = .ok (.getfield 25, 3) := by decide +kernel
theorem d_Op_hasSoundParts_69 : decode prog_3_method_10_code 69 = .ok (.ifCond .eq 13, 3) := by decide +kernel
theorem d_Op_hasSoundParts_72 : decode prog_3_method_10_code 72 = .ok (.aload_n 0, 1) := by decide +kernel
theorem d_Op_hasSoundParts_73 : decode prog_3_method_10_code 73 = .ok (.getfield 25, 3) := by decide +kernel
theorem d_Op_hasSoundParts_76 : decode prog_3_method_10_code 76 = .ok (.invokestatic 52, 3) := by decide +kernel
theorem d_Op_hasSoundParts_79 : decode prog_3_method_10_code 79 = .ok (.ifCond .eq 14, 3) := by decide +kernel
theorem d_Op_hasSoundParts_82 : decode prog_3_method_10_code 82 = .ok (.aload_n 0, 1) := by decide +kernel
theorem d_Op_hasSoundParts_83 : decode prog_3_method_10_code 83 = .ok (.invokevirtual 58, 3) := by decide +kernel
theorem d_Op_hasSoundParts_86 : decode prog_3_method_10_code 86 = .ok (.ifCond .eq 7, 3) := by decide +kernel
theorem d_Op_hasSoundParts_89 : decode prog_3_method_10_code 89 = .ok (.iconst 1, 1) := by decide +kernel
theorem d_Op_hasSoundParts_90 : decode prog_3_method_10_code 90 = .ok (.goto 4, 3) := by decide +kernel
theorem d_Op_hasSoundParts_93 : decode prog_3_method_10_code 93 = .ok (.iconst 0, 1) := by decide +kernel
theorem d_Op_hasSoundParts_94 : decode prog_3_method_10_code 94 = .ok (.ireturn, 1) := by decide +kernel
theorem d_Op_hasSoundParts_95 : decode prog_3_method_10_code 95 = .ok (.aload_n 0, 1) := by decide +kernel
theorem d_Op_hasSoundParts_96 : decode prog_3_method_10_code 96 = .ok (.getfield 19, 3) := by decide +kernel
theorem d_Op_hasSoundParts_99 : decode prog_3_method_10_code 99 = .ok (.iconst 4, 1) := by decide +kernel
theorem d_Op_hasSoundParts_100 : decode prog_3_method_10_code 100 = .ok (.if_icmp .ne 31, 3) := by decide +kernel
theorem d_Op_hasSoundParts_103 : decode prog_3_method_10_code 103 = .ok (.aload_n 0, 1) := by decide +kernel
theorem d_Op_hasSoundParts_104 : decode prog_3_method_10_code 104 = .ok (.getfield 22, 3) := by decide +kernel
theorem d_Op_hasSoundParts_107 : decode prog_3_method_10_code 107 = .ok (.invokestatic 52, 3) := by decide +kernel
theorem d_Op_hasSoundParts_110 : decode prog_3_method_10_code 110 = .ok (.ifCond .eq 21, 3) := by decide +kernel
theorem d_Op_hasSoundParts_113 : decode prog_3_method_10_code 113 = .ok (.aload_n 0, 1) := by decide +kernel
theorem d_Op_hasSoundParts_114 : decode prog_3_method_10_code 114 = .ok (.getfield 25, 3) := by decide +kernel
theorem d_Op_hasSoundParts_117 : decode prog_3_method_10_code 117 = .ok (.ifCond .ne 14, 3) := by decide +kernel
theorem d_Op_hasSoundParts_120 : decode prog_3_method_10_code 120 = .ok (.aload_n 0, 1) := by decide +kernel
theorem d_Op_hasSoundParts_121 : decode prog_3_method_10_code 121 = .ok (.invokevirtual 58, 3) := by decide +kernel
theorem d_Op_hasSoundParts_124 : decode prog_3_method_10_code 124 = .ok (.ifCond .eq 7, 3) := by decide +kernel
theorem d_Op_hasSoundParts_127 : decode prog_3_method_10_code 127 = .ok (.iconst 1, 1) := by decide +kernel
theorem d_Op_hasSoundParts_128 : decode prog_3_method_10_code 128 = .ok (.goto 4, 3) := by decide +kernel
theorem d_Op_hasSoundParts_131 : decode prog_3_method_10_code 131 = .ok (.iconst 0, 1) := by decide +kernel
theorem d_Op_hasSoundParts_132 : decode prog_3_method_10_code 132 = .ok (.ireturn, 1) := by decide +kernel
theorem d_Op_hasSoundValue_0 : decode prog_3_method_11_code 0 = .ok (.aload_n 0, 1) := by decide +kernel
theorem d_Op_hasSoundValue_1 : decode prog_3_method_11_code 1 = .ok (.getfield 19, 3) := by decide +kernel
theorem d_Op_hasSoundValue_4 : decode prog_3_method_11_code 4 = .ok (.ifCond .eq 11, 3) := by decide +kernel
theorem d_Op_hasSoundValue_7 : decode prog_3_method_11_code 7 = .ok (.aload_n 0, 1) := by decide +kernel
theorem d_Op_hasSoundValue_8 : decode prog_3_method_11_code 8 = .ok (.getfield 19, 3) := by decide +kernel
theorem d_Op_hasSoundValue_11 : decode prog_3_method_11_code 11 = .ok (.iconst 3, 1) := by decide +kernel
theorem d_Op_hasSoundValue_12 : decode prog_3_method_11_code 12 = .ok (.if_icmp .ne 8, 3) := by decide +kernel
theorem d_Op_hasSoundValue_15 : decode prog_3_method_11_code 15 = .ok (.bipush 99, 2) := by decide +kernel
theorem d_Op_hasSoundValue_17 : decode prog_3_method_11_code 17 = .ok (.goto 4, 3) := by decide +kernel
theorem d_Op_hasSoundValue_20 : decode prog_3_method_11_code 20 = .ok (.iconst 0, 1) := by decide +kernel
theorem d_Op_hasSoundValue_21 : decode prog_3_method_11_code 21 = .ok (.istore_n 1, 1) := by decide +kernel
theorem d_Op_hasSoundValue_22 : decode prog_3_method_11_code 22 = .ok (.aload_n 0, 1) := by decide +kernel
theorem d_Op_hasSoundValue_23 : decode prog_3_method_11_code 23 = .ok (.getfield 28, 3) := by decide +kernel
theorem d_Op_hasSoundValue_26 : decode prog_3_method_11_code 26 = .ok (.ifCond .lt 15, 3) := by decide +kernel
theorem d_Op_hasSoundValue_29 : decode prog_3_method_11_code 29 = .ok (.aload_n 0, 1) := by decide +kernel
theorem d_Op_hasSoundValue_30 : decode prog_3_method_11_code 30 = .ok (.getfield 28, 3) := by decide +kernel
theorem d_Op_hasSoundValue_33 : decode prog_3_method_11_code 33 = .ok (.iload_n 1, 1) := by decide +kernel
theorem d_Op_hasSoundValue_34 : decode prog_3_method_11_code 34 = .ok (.if_icmp .gt 7, 3) := by decide +kernel
theorem d_Op_hasSoundValue_37 : decode prog_3_method_11_code 37 = .ok (.iconst 1, 1) := by decide +kernel
theorem d_Op_hasSoundValue_38 : decode prog_3_method_11_code 38 = .ok (.goto 4, 3) := by decide +kernel
theorem d_Op_hasSoundValue_41 : decode prog_3_method_11_code 41 = .ok (.iconst 0, 1) := by decide +kernel
theorem d_Op_hasSoundValue_42 : decode prog_3_method_11_code 42 = .ok (.ireturn, 1) := by decide +kernel
theorem d_Op_hasSameBytesAs_0 : decode prog_3_method_12_code 0 = .ok (.aload_n 0, 1) := by decide +kernel
theorem d_Op_hasSameBytesAs_1 : decode prog_3_method_12_code 1 = .ok (.getfield 15, 3) := by decide +kernel
theorem d_Op_hasSameBytesAs_4 : decode prog_3_method_12_code 4 = .ok (.aload_n 1, 1) := by decide +kernel
theorem d_Op_hasSameBytesAs_5 : decode prog_3_method_12_code 5 = .ok (.getfield 15, 3) := by decide +kernel
theorem d_Op_hasSameBytesAs_8 : decode prog_3_method_12_code 8 = .ok (.if_icmp .ne 58, 3) := by decide +kernel
theorem d_Op_hasSameBytesAs_11 : decode prog_3_method_12_code 11 = .ok (.aload_n 0, 1) := by decide +kernel
theorem d_Op_hasSameBytesAs_12 : decode prog_3_method_12_code 12 = .ok (.getfield 19, 3) := by decide +kernel
theorem d_Op_hasSameBytesAs_15 : decode prog_3_method_12_code 15 = .ok (.aload_n 1, 1) := by decide +kernel
theorem d_Op_hasSameBytesAs_16 : decode prog_3_method_12_code 16 = .ok (.getfield 19, 3) := by decide +kernel
theorem d_Op_hasSameBytesAs_19 : decode prog_3_method_12_code 19 = .ok (.if_icmp .ne 47, 3) := by decide +kernel
theorem d_Op_hasSameBytesAs_22 : decode prog_3_method_12_code 22 = .ok (.aload_n 0, 1) := by decide +kernel
theorem d_Op_hasSameBytesAs_23 : decode prog_3_method_12_code 23 = .ok (.getfield 22, 3) := by decide +kernel
theorem d_Op_hasSameBytesAs_26 : decode prog_3_method_12_code 26 = .ok (.aload_n 1, 1) := by decide +kernel
theorem d_Op_hasSameBytesAs_27 : decode prog_3_method_12_code 27 = .ok (.getfield 22, 3) := by decide +kernel
theorem d_Op_hasSameBytesAs_30 : decode prog_3_method_12_code 30 = .ok (.if_icmp .ne 36, 3) := by decide +kernel
theorem d_Op_hasSameBytesAs_33 : decode prog_3_method_12_code 33 = .ok (.aload_n 0, 1) := by decide +kernel
theorem d_Op_hasSameBytesAs_34 : decode prog_3_method_12_code 34 = .ok (.getfield 25, 3) := by decide +kernel
theorem d_Op_hasSameBytesAs_37 : decode prog_3_method_12_code 37 = .ok (.aload_n 1, 1) := by decide +kernel
theorem d_Op_hasSameBytesAs_38 : decode prog_3_method_12_code 38 = .ok (.getfield 25, 3) := by decide +kernel
theorem d_Op_hasSameBytesAs_41 : decode prog_3_method_12_code 41 = .ok (.if_icmp .ne 25, 3) := by decide +kernel
theorem d_Op_hasSameBytesAs_44 : decode prog_3_method_12_code 44 = .ok (.aload_n 0, 1) := by decide +kernel
theorem d_Op_hasSameBytesAs_45 : decode prog_3_method_12_code 45 = .ok (.getfield 28, 3) := by decide +kernel
theorem d_Op_hasSameBytesAs_48 : decode prog_3_method_12_code 48 = .ok (.aload_n 1, 1) := by decide +kernel
theorem d_Op_hasSameBytesAs_49 : decode prog_3_method_12_code 49 = .ok (.getfield 28, 3) := by decide +kernel
theorem d_Op_hasSameBytesAs_52 : decode prog_3_method_12_code 52 = .ok (.if_icmp .ne 14, 3) := by decide +kernel
theorem d_Op_hasSameBytesAs_55 : decode prog_3_method_12_code 55 = .ok (.aload_n 0, 1) := by decide +kernel
theorem d_Op_hasSameBytesAs_56 : decode prog_3_method_12_code 56 = .ok (.getfield 31, 3) := by decide +kernel
theorem d_Op_hasSameBytesAs_59 : decode prog_3_method_12_code 59 = .ok (.aload_n 1, 1) := by decide +kernel
theorem d_Op_hasSameBytesAs_60 : decode prog_3_method_12_code 60 = .ok (.getfield 31, 3) := by decide +kernel
theorem d_Op_hasSameBytesAs_63 : decode prog_3_method_12_code 63 = .ok (.if_icmp .eq 5, 3) := by decide +kernel
theorem d_Op_hasSameBytesAs_66 : decode prog_3_method_12_code 66 = .ok (.iconst 0, 1) := by decide +kernel
theorem d_Op_hasSameBytesAs_67 : decode prog_3_method_12_code 67 = .ok (.ireturn, 1) := by decide +kernel
theorem d_Op_hasSameBytesAs_68 : decode prog_3_method_12_code 68 = .ok (.iconst 0, 1) := by decide +kernel
theorem d_Op_hasSameBytesAs_69 : decode prog_3_method_12_code 69 = .ok (.istore_n 2, 1) := by decide +kernel
theorem d_Op_hasSameBytesAs_70 : decode prog_3_method_12_code 70 = .ok (.iload_n 2, 1) := by decide +kernel
theorem d_Op_hasSameBytesAs_71 : decode prog_3_method_12_code 71 = .ok (.aload_n 0, 1) := by decide +kernel
theorem d_Op_hasSameBytesAs_72 : decode prog_3_method_12_code 72 = .ok (.getfield 31, 3) := by decide +kernel
theorem d_Op_hasSameBytesAs_75 : decode prog_3_method_12_code 75 = .ok (.if_icmp .ge 26, 3) := by decide +kernel
theorem d_Op_hasSameBytesAs_78 : decode prog_3_method_12_code 78 = .ok (.aload_n 0, 1) := by decide +kernel
theorem d_Op_hasSameBytesAs_79 : decode prog_3_method_12_code 79 = .ok (.getfield 9, 3) := by decide +kernel
theorem d_Op_hasSameBytesAs_82 : decode prog_3_method_12_code 82 = .ok (.iload_n 2, 1) := by decide +kernel
theorem d_Op_hasSameBytesAs_83 : decode prog_3_method_12_code 83 = .ok (.iaload, 1) := by decide +kernel
theorem d_Op_hasSameBytesAs_84 : decode prog_3_method_12_code 84 = .ok (.aload_n 1, 1) := by decide +kernel
theorem d_Op_hasSameBytesAs_85 : decode prog_3_method_12_code 85 = .ok (.getfield 9, 3) := by decide +kernel
theorem d_Op_hasSameBytesAs_88 : decode prog_3_method_12_code 88 = .ok (.iload_n 2, 1) := by decide +kernel
theorem d_Op_hasSameBytesAs_89 : decode prog_3_method_12_code 89 = .ok (.iaload, 1) := by decide +kernel
theorem d_Op_hasSameBytesAs_90 : decode prog_3_method_12_code 90 = .ok (.if_icmp .eq 5, 3) := by decide +kernel
theorem d_Op_hasSameBytesAs_93 : decode prog_3_method_12_code 93 = .ok (.iconst 0, 1) := by decide +kernel
theorem d_Op_hasSameBytesAs_94 : decode prog_3_method_12_code 94 = .ok (.ireturn, 1) := by decide +kernel
theorem d_Op_hasSameBytesAs_95 : decode prog_3_method_12_code 95 = .ok (.iinc 2 1, 3) := by decide +kernel
theorem d_Op_hasSameBytesAs_98 : decode prog_3_method_12_code 98 = .ok (.goto (-28), 3) := by decide +kernel
theorem d_Op_hasSameBytesAs_101 : decode prog_3_method_12_code 101 = .ok (.iconst 1, 1) := by decide +kernel
theorem d_Op_hasSameBytesAs_102 : decode prog_3_method_12_code 102 = .ok (.ireturn, 1) := by decide +kernel
end
section
/-! decode rows -/
theorem d_Do_init_0 : decode prog_1_method_1_code 0 = .ok (.aload_n 0, 1) := by decide +kernel
theorem d_Do_init_1 : decode prog_1_method_1_code 1 = .ok (.invokespecial 1, 3) := by decide +kernel
theorem d_Do_init_4 : decode prog_1_method_1_code 4 = .ok (.aload_n 0, 1) := by decide +kernel
theorem d_Do_init_5 : decode prog_1_method_1_code 5 = .ok (.iconst 3, 1) := by decide +kernel
theorem d_Do_init_6 : decode prog_1_method_1_code 6 = .ok (.anewarray 9, 3) := by decide +kernel
theorem d_Do_init_9 : decode prog_1_method_1_code 9 = .ok (.putfield 11, 3) := by decide +kernel
theorem d_Do_init_12 : decode prog_1_method_1_code 12 = .ok (.iconst 0, 1) := by decide +kernel
theorem d_Do_init_13 : decode prog_1_method_1_code 13 = .ok (.istore_n 1, 1) := by decide +kernel
theorem d_Do_init_14 : decode prog_1_method_1_code 14 = .ok (.iload_n 1, 1) := by decide +kernel
theorem d_Do_init_15 : decode prog_1_method_1_code 15 = .ok (.iconst 3, 1) := by decide +kernel
theorem d_Do_init_16 : decode prog_1_method_1_code 16 = .ok (.if_icmp .ge 23, 3) := by decide +kernel
theorem d_Do_init_19 : decode prog_1_method_1_code 19 = .ok (.aload_n 0, 1) := by decide +kernel
theorem d_Do_init_20 : decode prog_1_method_1_code 20 = .ok (.getfield 11, 3) := by decide +kernel
theorem d_Do_init_23 : decode prog_1_method_1_code 23 = .ok (.iload_n 1, 1) := by decide +kernel
theorem d_Do_init_24 : decode prog_1_method_1_code 24 = .ok (.new 9, 3) := by decide +kernel
theorem d_Do_init_27 : decode prog_1_method_1_code 27 = .ok (.dup, 1) := by decide +kernel
theorem d_Do_init_28 : decode prog_1_method_1_code 28 = .ok (.iload_n 1, 1) := by decide +kernel
theorem d_Do_init_29 : decode prog_1_method_1_code 29 = .ok (.invokespecial 15, 3) := by decide +kernel
theorem d_Do_init_32 : decode prog_1_method_1_code 32 = .ok (.aastore, 1) := by decide +kernel
theorem d_Do_init_33 : decode prog_1_method_1_code 33 = .ok (.iinc 1 1, 3) := by decide +kernel
theorem d_Do_init_36 : decode prog_1_method_1_code 36 = .ok (.goto (-22), 3) := by decide +kernel
theorem d_Do_init_39 : decode prog_1_method_1_code 39 = .ok (.aload_n 0, 1) := by decide +kernel
theorem d_Do_init_40 : decode prog_1_method_1_code 40 = .ok (.new 18, 3) := by decide +kernel
theorem d_Do_init_43 : decode prog_1_method_1_code 43 = .ok (.dup, 1) := by decide +kernel
theorem d_Do_init_44 : decode prog_1_method_1_code 44 = .ok (.invokespecial 20, 3) := by decide +kernel
theorem d_Do_init_47 : decode prog_1_method_1_code 47 = .ok (.putfield 21, 3) := by decide +kernel
theorem d_Do_init_50 : decode prog_1_method_1_code 50 = .ok (.aload_n 0, 1) := by decide +kernel
theorem d_Do_init_51 : decode prog_1_method_1_code 51 = .ok (.new 25, 3) := by decide +kernel
theorem d_Do_init_54 : decode prog_1_method_1_code 54 = .ok (.dup, 1) := by decide +kernel
theorem d_Do_init_55 : decode prog_1_method_1_code 55 = .ok (.invokespecial 27, 3) := by decide +kernel
theorem d_Do_init_58 : decode prog_1_method_1_code 58 = .ok (.putfield 28, 3) := by decide +kernel
theorem d_Do_init_61 : decode prog_1_method_1_code 61 = .ok (.aload_n 0, 1) := by decide +kernel
theorem d_Do_init_62 : decode prog_1_method_1_code 62 = .ok (.new 32, 3) := by decide +kernel
theorem d_Do_init_65 : decode prog_1_method_1_code 65 = .ok (.dup, 1) := by decide +kernel
theorem d_Do_init_66 : decode prog_1_method_1_code 66 = .ok (.invokespecial 34, 3) := by decide +kernel
theorem d_Do_init_69 : decode prog_1_method_1_code 69 = .ok (.putfield 35, 3) := by decide +kernel
theorem d_Do_init_72 : decode prog_1_method_1_code 72 = .ok (.return_, 1) := by decide +kernel
theorem d_Do_edit_0 : decode prog_1_method_2_code 0 = .ok (.iload_n 1, 1) := by decide +kernel
theorem d_Do_edit_1 : decode prog_1_method_2_code 1 = .ok (.invokestatic 39, 3) := by decide +kernel
theorem d_Do_edit_4 : decode prog_1_method_2_code 4 = .ok (.ifCond .ne 5, 3) := by decide +kernel
theorem d_Do_edit_7 : decode prog_1_method_2_code 7 = .ok (.iconst (-1), 1) := by decide +kernel
theorem d_Do_edit_8 : decode prog_1_method_2_code 8 = .ok (.ireturn, 1) := by decide +kernel
theorem d_Do_edit_9 : decode prog_1_method_2_code 9 = .ok (.aload_n 0, 1) := by decide +kernel
theorem d_Do_edit_10 : decode prog_1_method_2_code 10 = .ok (.getfield 35, 3) := by decide +kernel
theorem d_Do_edit_13 : decode prog_1_method_2_code 13 = .ok (.iconst (-1), 1) := by decide +kernel
theorem d_Do_edit_14 : decode prog_1_method_2_code 14 = .ok (.iload_n 2, 1) := by decide +kernel
theorem d_Do_edit_15 : decode prog_1_method_2_code 15 = .ok (.iload_n 3, 1) := by decide +kernel
theorem d_Do_edit_16 : decode prog_1_method_2_code 16 = .ok (.iload 4, 2) := by decide +kernel
theorem d_Do_edit_18 : decode prog_1_method_2_code 18 = .ok (.iload 5, 2) := by decide +kernel
theorem d_Do_edit_20 : decode prog_1_method_2_code 20 = .ok (.invokevirtual 43, 3) := by decide +kernel
theorem d_Do_edit_23 : decode prog_1_method_2_code 23 = .ok (.aload_n 0, 1) := by decide +kernel
theorem d_Do_edit_24 : decode prog_1_method_2_code 24 = .ok (.getfield 35, 3) := by decide +kernel
theorem d_Do_edit_27 : decode prog_1_method_2_code 27 = .ok (.invokevirtual 47, 3) := by decide +kernel
theorem d_Do_edit_30 : decode prog_1_method_2_code 30 = .ok (.ifCond .eq 19, 3) := by decide +kernel
theorem d_Do_edit_33 : decode prog_1_method_2_code 33 = .ok (.aload_n 0, 1) := by decide +kernel
theorem d_Do_edit_34 : decode prog_1_method_2_code 34 = .ok (.getfield 11, 3) := by decide +kernel
theorem d_Do_edit_37 : decode prog_1_method_2_code 37 = .ok (.iload_n 1, 1) := by decide +kernel
theorem d_Do_edit_38 : decode prog_1_method_2_code 38 = .ok (.aaload, 1) := by decide +kernel
theorem d_Do_edit_39 : decode prog_1_method_2_code 39 = .ok (.aload_n 0, 1) := by decide +kernel
theorem d_Do_edit_40 : decode prog_1_method_2_code 40 = .ok (.getfield 35, 3) := by decide +kernel
theorem d_Do_edit_43 : decode prog_1_method_2_code 43 = .ok (.invokevirtual 51, 3) := by decide +kernel
theorem d_Do_edit_46 : decode prog_1_method_2_code 46 = .ok (.ifCond .ne 5, 3) := by decide +kernel
theorem d_Do_edit_49 : decode prog_1_method_2_code 49 = .ok (.iconst (-1), 1) := by decide +kernel
theorem d_Do_edit_50 : decode prog_1_method_2_code 50 = .ok (.ireturn, 1) := by decide +kernel
theorem d_Do_edit_51 : decode prog_1_method_2_code 51 = .ok (.aload_n 0, 1) := by decide +kernel
theorem d_Do_edit_52 : decode prog_1_method_2_code 52 = .ok (.getfield 11, 3) := by decide +kernel
theorem d_Do_edit_55 : decode prog_1_method_2_code 55 = .ok (.iload_n 1, 1) := by decide +kernel
theorem d_Do_edit_56 : decode prog_1_method_2_code 56 = .ok (.aaload, 1) := by decide +kernel
theorem d_Do_edit_57 : decode prog_1_method_2_code 57 = .ok (.aload_n 0, 1) := by decide +kernel
theorem d_Do_edit_58 : decode prog_1_method_2_code 58 = .ok (.getfield 35, 3) := by decide +kernel
theorem d_Do_edit_61 : decode prog_1_method_2_code 61 = .ok (.invokevirtual 55, 3) := by decide +kernel
theorem d_Do_edit_64 : decode prog_1_method_2_code 64 = .ok (.ireturn, 1) := by decide +kernel
theorem d_Do_emit_0 : decode prog_1_method_3_code 0 = .ok (.iload_n 1, 1) := by decide +kernel
theorem d_Do_emit_1 : decode prog_1_method_3_code 1 = .ok (.invokestatic 39, 3) := by decide +kernel
theorem d_Do_emit_4 : decode prog_1_method_3_code 4 = .ok (.ifCond .ne 5, 3) := by decide +kernel
theorem d_Do_emit_7 : decode prog_1_method_3_code 7 = .ok (.iconst (-1), 1) := by decide +kernel
theorem d_Do_emit_8 : decode prog_1_method_3_code 8 = .ok (.ireturn, 1) := by decide +kernel
theorem d_Do_emit_9 : decode prog_1_method_3_code 9 = .ok (.aload_n 0, 1) := by decide +kernel
theorem d_Do_emit_10 : decode prog_1_method_3_code 10 = .ok (.getfield 11, 3) := by decide +kernel
theorem d_Do_emit_13 : decode prog_1_method_3_code 13 = .ok (.iload_n 1, 1) := by decide +kernel
theorem d_Do_emit_14 : decode prog_1_method_3_code 14 = .ok (.aaload, 1) := by decide +kernel
theorem d_Do_emit_15 : decode prog_1_method_3_code 15 = .ok (.iload_n 2, 1) := by decide +kernel
theorem d_Do_emit_16 : decode prog_1_method_3_code 16 = .ok (.aload_n 0, 1) := by decide +kernel
theorem d_Do_emit_17 : decode prog_1_method_3_code 17 = .ok (.getfield 11, 3) := by decide +kernel
theorem d_Do_emit_20 : decode prog_1_method_3_code 20 = .ok (.iload_n 1, 1) := by decide +kernel
theorem d_Do_emit_21 : decode prog_1_method_3_code 21 = .ok (.aaload, 1) := by decide +kernel
theorem d_Do_emit_22 : decode prog_1_method_3_code 22 = .ok (.getfield 59, 3) := by decide +kernel
theorem d_Do_emit_25 : decode prog_1_method_3_code 25 = .ok (.invokevirtual 63, 3) := by decide +kernel
theorem d_Do_emit_28 : decode prog_1_method_3_code 28 = .ok (.istore_n 3, 1) := by decide +kernel
theorem d_Do_emit_29 : decode prog_1_method_3_code 29 = .ok (.iload_n 3, 1) := by decide +kernel
theorem d_Do_emit_30 : decode prog_1_method_3_code 30 = .ok (.iconst (-1), 1) := by decide +kernel
theorem d_Do_emit_31 : decode prog_1_method_3_code 31 = .ok (.if_icmp .ne 5, 3) := by decide +kernel
theorem d_Do_emit_34 : decode prog_1_method_3_code 34 = .ok (.iconst (-1), 1) := by decide +kernel
theorem d_Do_emit_35 : decode prog_1_method_3_code 35 = .ok (.ireturn, 1) := by decide +kernel
theorem d_Do_emit_36 : decode prog_1_method_3_code 36 = .ok (.aload_n 0, 1) := by decide +kernel
theorem d_Do_emit_37 : decode prog_1_method_3_code 37 = .ok (.getfield 28, 3) := by decide +kernel
theorem d_Do_emit_40 : decode prog_1_method_3_code 40 = .ok (.aload_n 0, 1) := by decide +kernel
theorem d_Do_emit_41 : decode prog_1_method_3_code 41 = .ok (.getfield 11, 3) := by decide +kernel
theorem d_Do_emit_44 : decode prog_1_method_3_code 44 = .ok (.iload_n 1, 1) := by decide +kernel
theorem d_Do_emit_45 : decode prog_1_method_3_code 45 = .ok (.aaload, 1) := by decide +kernel
theorem d_Do_emit_46 : decode prog_1_method_3_code 46 = .ok (.getfield 67, 3) := by decide +kernel
theorem d_Do_emit_49 : decode prog_1_method_3_code 49 = .ok (.iload_n 3, 1) := by decide +kernel
theorem d_Do_emit_50 : decode prog_1_method_3_code 50 = .ok (.aaload, 1) := by decide +kernel
theorem d_Do_emit_51 : decode prog_1_method_3_code 51 = .ok (.invokevirtual 71, 3) := by decide +kernel
theorem d_Do_emit_54 : decode prog_1_method_3_code 54 = .ok (.aload_n 0, 1) := by decide +kernel
theorem d_Do_emit_55 : decode prog_1_method_3_code 55 = .ok (.getfield 28, 3) := by decide +kernel
theorem d_Do_emit_58 : decode prog_1_method_3_code 58 = .ok (.getfield 75, 3) := by decide +kernel
theorem d_Do_emit_61 : decode prog_1_method_3_code 61 = .ok (.ireturn, 1) := by decide +kernel
theorem d_Do_wire_0 : decode prog_1_method_4_code 0 = .ok (.iload_n 1, 1) := by decide +kernel
theorem d_Do_wire_1 : decode prog_1_method_4_code 1 = .ok (.iconst (-1), 1) := by decide +kernel
theorem d_Do_wire_2 : decode prog_1_method_4_code 2 = .ok (.if_icmp .ne 13, 3) := by decide +kernel
theorem d_Do_wire_5 : decode prog_1_method_4_code 5 = .ok (.aload_n 0, 1) := by decide +kernel
theorem d_Do_wire_6 : decode prog_1_method_4_code 6 = .ok (.getfield 28, 3) := by decide +kernel
theorem d_Do_wire_9 : decode prog_1_method_4_code 9 = .ok (.getfield 75, 3) := by decide +kernel
theorem d_Do_wire_12 : decode prog_1_method_4_code 12 = .ok (.goto 11, 3) := by decide +kernel
theorem d_Do_wire_15 : decode prog_1_method_4_code 15 = .ok (.aload_n 0, 1) := by decide +kernel
theorem d_Do_wire_16 : decode prog_1_method_4_code 16 = .ok (.getfield 28, 3) := by decide +kernel
theorem d_Do_wire_19 : decode prog_1_method_4_code 19 = .ok (.iload_n 1, 1) := by decide +kernel
theorem d_Do_wire_20 : decode prog_1_method_4_code 20 = .ok (.invokevirtual 78, 3) := by decide +kernel
theorem d_Do_wire_23 : decode prog_1_method_4_code 23 = .ok (.ireturn, 1) := by decide +kernel
theorem d_Do_alter_0 : decode prog_1_method_5_code 0 = .ok (.aload_n 0, 1) := by decide +kernel
theorem d_Do_alter_1 : decode prog_1_method_5_code 1 = .ok (.getfield 28, 3) := by decide +kernel
theorem d_Do_alter_4 : decode prog_1_method_5_code 4 = .ok (.iload_n 1, 1) := by decide +kernel
theorem d_Do_alter_5 : decode prog_1_method_5_code 5 = .ok (.iload_n 2, 1) := by decide +kernel
theorem d_Do_alter_6 : decode prog_1_method_5_code 6 = .ok (.invokevirtual 82, 3) := by decide +kernel
theorem d_Do_alter_9 : decode prog_1_method_5_code 9 = .ok (.ireturn, 1) := by decide +kernel
theorem d_Do_cut_0 : decode prog_1_method_6_code 0 = .ok (.aload_n 0, 1) := by decide +kernel
theorem d_Do_cut_1 : decode prog_1_method_6_code 1 = .ok (.getfield 28, 3) := by decide +kernel
theorem d_Do_cut_4 : decode prog_1_method_6_code 4 = .ok (.iload_n 1, 1) := by decide +kernel
theorem d_Do_cut_5 : decode prog_1_method_6_code 5 = .ok (.invokevirtual 86, 3) := by decide +kernel
theorem d_Do_cut_8 : decode prog_1_method_6_code 8 = .ok (.ireturn, 1) := by decide +kernel
theorem d_Do_receive_0 : decode prog_1_method_7_code 0 = .ok (.iload_n 1, 1) := by decide +kernel
theorem d_Do_receive_1 : decode prog_1_method_7_code 1 = .ok (.invokestatic 39, 3) := by decide +kernel
theorem d_Do_receive_4 : decode prog_1_method_7_code 4 = .ok (.ifCond .ne 5, 3) := by decide +kernel
theorem d_Do_receive_7 : decode prog_1_method_7_code 7 = .ok (.iconst (-1), 1) := by decide +kernel
theorem d_Do_receive_8 : decode prog_1_method_7_code 8 = .ok (.ireturn, 1) := by decide +kernel
theorem d_Do_receive_9 : decode prog_1_method_7_code 9 = .ok (.aload_n 0, 1) := by decide +kernel
theorem d_Do_receive_10 : decode prog_1_method_7_code 10 = .ok (.getfield 28, 3) := by decide +kernel
theorem d_Do_receive_13 : decode prog_1_method_7_code 13 = .ok (.aload_n 0, 1) := by decide +kernel
theorem d_Do_receive_14 : decode prog_1_method_7_code 14 = .ok (.getfield 35, 3) := by decide +kernel
theorem d_Do_receive_17 : decode prog_1_method_7_code 17 = .ok (.invokevirtual 89, 3) := by decide +kernel
theorem d_Do_receive_20 : decode prog_1_method_7_code 20 = .ok (.ifCond .ne 6, 3) := by decide +kernel
theorem d_Do_receive_23 : decode prog_1_method_7_code 23 = .ok (.bipush (-2), 2) := by decide +kernel
theorem d_Do_receive_25 : decode prog_1_method_7_code 25 = .ok (.ireturn, 1) := by decide +kernel
theorem d_Do_receive_26 : decode prog_1_method_7_code 26 = .ok (.aload_n 0, 1) := by decide +kernel
theorem d_Do_receive_27 : decode prog_1_method_7_code 27 = .ok (.getfield 11, 3) := by decide +kernel
theorem d_Do_receive_30 : decode prog_1_method_7_code 30 = .ok (.iload_n 1, 1) := by decide +kernel
theorem d_Do_receive_31 : decode prog_1_method_7_code 31 = .ok (.aaload, 1) := by decide +kernel
theorem d_Do_receive_32 : decode prog_1_method_7_code 32 = .ok (.aload_n 0, 1) := by decide +kernel
theorem d_Do_receive_33 : decode prog_1_method_7_code 33 = .ok (.getfield 35, 3) := by decide +kernel
theorem d_Do_receive_36 : decode prog_1_method_7_code 36 = .ok (.invokevirtual 92, 3) := by decide +kernel
theorem d_Do_receive_39 : decode prog_1_method_7_code 39 = .ok (.ireturn, 1) := by decide +kernel
theorem d_Do_held_0 : decode prog_1_method_8_code 0 = .ok (.iload_n 1, 1) := by decide +kernel
theorem d_Do_held_1 : decode prog_1_method_8_code 1 = .ok (.invokestatic 39, 3) := by decide +kernel
theorem d_Do_held_4 : decode prog_1_method_8_code 4 = .ok (.ifCond .eq 15, 3) := by decide +kernel
theorem d_Do_held_7 : decode prog_1_method_8_code 7 = .ok (.aload_n 0, 1) := by decide +kernel
theorem d_Do_held_8 : decode prog_1_method_8_code 8 = .ok (.getfield 11, 3) := by decide +kernel
theorem d_Do_held_11 : decode prog_1_method_8_code 11 = .ok (.iload_n 1, 1) := by decide +kernel
theorem d_Do_held_12 : decode prog_1_method_8_code 12 = .ok (.aaload, 1) := by decide +kernel
theorem d_Do_held_13 : decode prog_1_method_8_code 13 = .ok (.getfield 59, 3) := by decide +kernel
theorem d_Do_held_16 : decode prog_1_method_8_code 16 = .ok (.goto 4, 3) := by decide +kernel
theorem d_Do_held_19 : decode prog_1_method_8_code 19 = .ok (.iconst (-1), 1) := by decide +kernel
theorem d_Do_held_20 : decode prog_1_method_8_code 20 = .ok (.ireturn, 1) := by decide +kernel
theorem d_Do_log_0 : decode prog_1_method_9_code 0 = .ok (.iload_n 1, 1) := by decide +kernel
theorem d_Do_log_1 : decode prog_1_method_9_code 1 = .ok (.invokestatic 39, 3) := by decide +kernel
theorem d_Do_log_4 : decode prog_1_method_9_code 4 = .ok (.ifCond .ne 5, 3) := by decide +kernel
theorem d_Do_log_7 : decode prog_1_method_9_code 7 = .ok (.iconst (-1), 1) := by decide +kernel
theorem d_Do_log_8 : decode prog_1_method_9_code 8 = .ok (.ireturn, 1) := by decide +kernel
theorem d_Do_log_9 : decode prog_1_method_9_code 9 = .ok (.aload_n 0, 1) := by decide +kernel
theorem d_Do_log_10 : decode prog_1_method_9_code 10 = .ok (.getfield 11, 3) := by decide +kernel
theorem d_Do_log_13 : decode prog_1_method_9_code 13 = .ok (.iload_n 1, 1) := by decide +kernel
theorem d_Do_log_14 : decode prog_1_method_9_code 14 = .ok (.aaload, 1) := by decide +kernel
theorem d_Do_log_15 : decode prog_1_method_9_code 15 = .ok (.astore_n 3, 1) := by decide +kernel
theorem d_Do_log_16 : decode prog_1_method_9_code 16 = .ok (.iload_n 2, 1) := by decide +kernel
theorem d_Do_log_17 : decode prog_1_method_9_code 17 = .ok (.iconst (-1), 1) := by decide +kernel
theorem d_Do_log_18 : decode prog_1_method_9_code 18 = .ok (.if_icmp .ne 8, 3) := by decide +kernel
theorem d_Do_log_21 : decode prog_1_method_9_code 21 = .ok (.aload_n 3, 1) := by decide +kernel
theorem d_Do_log_22 : decode prog_1_method_9_code 22 = .ok (.getfield 95, 3) := by decide +kernel
theorem d_Do_log_25 : decode prog_1_method_9_code 25 = .ok (.ireturn, 1) := by decide +kernel
theorem d_Do_log_26 : decode prog_1_method_9_code 26 = .ok (.iload_n 2, 1) := by decide +kernel
theorem d_Do_log_27 : decode prog_1_method_9_code 27 = .ok (.ifCond .lt 23, 3) := by decide +kernel
theorem d_Do_log_30 : decode prog_1_method_9_code 30 = .ok (.iload_n 2, 1) := by decide +kernel
theorem d_Do_log_31 : decode prog_1_method_9_code 31 = .ok (.aload_n 3, 1) := by decide +kernel
theorem d_Do_log_32 : decode prog_1_method_9_code 32 = .ok (.getfield 95, 3) := by decide +kernel
theorem d_Do_log_35 : decode prog_1_method_9_code 35 = .ok (.if_icmp .ge 15, 3) := by decide +kernel
theorem d_Do_log_38 : decode prog_1_method_9_code 38 = .ok (.aload_n 3, 1) := by decide +kernel
theorem d_Do_log_39 : decode prog_1_method_9_code 39 = .ok (.getfield 67, 3) := by decide +kernel
theorem d_Do_log_42 : decode prog_1_method_9_code 42 = .ok (.iload_n 2, 1) := by decide +kernel
theorem d_Do_log_43 : decode prog_1_method_9_code 43 = .ok (.aaload, 1) := by decide +kernel
theorem d_Do_log_44 : decode prog_1_method_9_code 44 = .ok (.getfield 98, 3) := by decide +kernel
theorem d_Do_log_47 : decode prog_1_method_9_code 47 = .ok (.goto 4, 3) := by decide +kernel
theorem d_Do_log_50 : decode prog_1_method_9_code 50 = .ok (.iconst (-1), 1) := by decide +kernel
theorem d_Do_log_51 : decode prog_1_method_9_code 51 = .ok (.ireturn, 1) := by decide +kernel
theorem d_Do_past_0 : decode prog_1_method_10_code 0 = .ok (.iload_n 1, 1) := by decide +kernel
theorem d_Do_past_1 : decode prog_1_method_10_code 1 = .ok (.invokestatic 39, 3) := by decide +kernel
theorem d_Do_past_4 : decode prog_1_method_10_code 4 = .ok (.ifCond .ne 5, 3) := by decide +kernel
theorem d_Do_past_7 : decode prog_1_method_10_code 7 = .ok (.iconst 0, 1) := by decide +kernel
theorem d_Do_past_8 : decode prog_1_method_10_code 8 = .ok (.ireturn, 1) := by decide +kernel
theorem d_Do_past_9 : decode prog_1_method_10_code 9 = .ok (.aload_n 0, 1) := by decide +kernel
theorem d_Do_past_10 : decode prog_1_method_10_code 10 = .ok (.getfield 11, 3) := by decide +kernel
theorem d_Do_past_13 : decode prog_1_method_10_code 13 = .ok (.iload_n 1, 1) := by decide +kernel
theorem d_Do_past_14 : decode prog_1_method_10_code 14 = .ok (.aaload, 1) := by decide +kernel
theorem d_Do_past_15 : decode prog_1_method_10_code 15 = .ok (.astore 4, 2) := by decide +kernel
theorem d_Do_past_17 : decode prog_1_method_10_code 17 = .ok (.aload 4, 2) := by decide +kernel
theorem d_Do_past_19 : decode prog_1_method_10_code 19 = .ok (.iload_n 2, 1) := by decide +kernel
theorem d_Do_past_20 : decode prog_1_method_10_code 20 = .ok (.aload 4, 2) := by decide +kernel
theorem d_Do_past_22 : decode prog_1_method_10_code 22 = .ok (.getfield 95, 3) := by decide +kernel
theorem d_Do_past_25 : decode prog_1_method_10_code 25 = .ok (.invokevirtual 63, 3) := by decide +kernel
theorem d_Do_past_28 : decode prog_1_method_10_code 28 = .ok (.istore 5, 2) := by decide +kernel
theorem d_Do_past_30 : decode prog_1_method_10_code 30 = .ok (.aload 4, 2) := by decide +kernel
theorem d_Do_past_32 : decode prog_1_method_10_code 32 = .ok (.iload_n 3, 1) := by decide +kernel
theorem d_Do_past_33 : decode prog_1_method_10_code 33 = .ok (.aload 4, 2) := by decide +kernel
theorem d_Do_past_35 : decode prog_1_method_10_code 35 = .ok (.getfield 95, 3) := by decide +kernel
theorem d_Do_past_38 : decode prog_1_method_10_code 38 = .ok (.invokevirtual 63, 3) := by decide +kernel
theorem d_Do_past_41 : decode prog_1_method_10_code 41 = .ok (.istore 6, 2) := by decide +kernel
theorem d_Do_past_43 : decode prog_1_method_10_code 43 = .ok (.iload 5, 2) := by decide +kernel
theorem d_Do_past_45 : decode prog_1_method_10_code 45 = .ok (.iconst (-1), 1) := by decide +kernel
theorem d_Do_past_46 : decode prog_1_method_10_code 46 = .ok (.if_icmp .eq 25, 3) := by decide +kernel
theorem d_Do_past_49 : decode prog_1_method_10_code 49 = .ok (.iload 6, 2) := by decide +kernel
theorem d_Do_past_51 : decode prog_1_method_10_code 51 = .ok (.iconst (-1), 1) := by decide +kernel
theorem d_Do_past_52 : decode prog_1_method_10_code 52 = .ok (.if_icmp .eq 19, 3) := by decide +kernel
theorem d_Do_past_55 : decode prog_1_method_10_code 55 = .ok (.aload 4, 2) := by decide +kernel
theorem d_Do_past_57 : decode prog_1_method_10_code 57 = .ok (.iload 5, 2) := by decide +kernel
theorem d_Do_past_59 : decode prog_1_method_10_code 59 = .ok (.iload 6, 2) := by decide +kernel
theorem d_Do_past_61 : decode prog_1_method_10_code 61 = .ok (.invokevirtual 101, 3) := by decide +kernel
theorem d_Do_past_64 : decode prog_1_method_10_code 64 = .ok (.ifCond .eq 7, 3) := by decide +kernel
theorem d_Do_past_67 : decode prog_1_method_10_code 67 = .ok (.iconst 1, 1) := by decide +kernel
theorem d_Do_past_68 : decode prog_1_method_10_code 68 = .ok (.goto 4, 3) := by decide +kernel
theorem d_Do_past_71 : decode prog_1_method_10_code 71 = .ok (.iconst 0, 1) := by decide +kernel
theorem d_Do_past_72 : decode prog_1_method_10_code 72 = .ok (.ireturn, 1) := by decide +kernel
theorem d_Do_heads_0 : decode prog_1_method_11_code 0 = .ok (.iload_n 1, 1) := by decide +kernel
theorem d_Do_heads_1 : decode prog_1_method_11_code 1 = .ok (.invokestatic 39, 3) := by decide +kernel
theorem d_Do_heads_4 : decode prog_1_method_11_code 4 = .ok (.ifCond .eq 15, 3) := by decide +kernel
theorem d_Do_heads_7 : decode prog_1_method_11_code 7 = .ok (.aload_n 0, 1) := by decide +kernel
theorem d_Do_heads_8 : decode prog_1_method_11_code 8 = .ok (.getfield 11, 3) := by decide +kernel
theorem d_Do_heads_11 : decode prog_1_method_11_code 11 = .ok (.iload_n 1, 1) := by decide +kernel
theorem d_Do_heads_12 : decode prog_1_method_11_code 12 = .ok (.aaload, 1) := by decide +kernel
theorem d_Do_heads_13 : decode prog_1_method_11_code 13 = .ok (.invokevirtual 104, 3) := by decide +kernel
theorem d_Do_heads_16 : decode prog_1_method_11_code 16 = .ok (.goto 4, 3) := by decide +kernel
theorem d_Do_heads_19 : decode prog_1_method_11_code 19 = .ok (.iconst (-1), 1) := by decide +kernel
theorem d_Do_heads_20 : decode prog_1_method_11_code 20 = .ok (.ireturn, 1) := by decide +kernel
theorem d_Do_entry_0 : decode prog_1_method_12_code 0 = .ok (.iload_n 1, 1) := by decide +kernel
theorem d_Do_entry_1 : decode prog_1_method_12_code 1 = .ok (.invokestatic 39, 3) := by decide +kernel
theorem d_Do_entry_4 : decode prog_1_method_12_code 4 = .ok (.ifCond .eq 23, 3) := by decide +kernel
theorem d_Do_entry_7 : decode prog_1_method_12_code 7 = .ok (.aload_n 0, 1) := by decide +kernel
theorem d_Do_entry_8 : decode prog_1_method_12_code 8 = .ok (.getfield 11, 3) := by decide +kernel
theorem d_Do_entry_11 : decode prog_1_method_12_code 11 = .ok (.iload_n 1, 1) := by decide +kernel
theorem d_Do_entry_12 : decode prog_1_method_12_code 12 = .ok (.aaload, 1) := by decide +kernel
theorem d_Do_entry_13 : decode prog_1_method_12_code 13 = .ok (.iload_n 2, 1) := by decide +kernel
theorem d_Do_entry_14 : decode prog_1_method_12_code 14 = .ok (.invokevirtual 108, 3) := by decide +kernel
theorem d_Do_entry_17 : decode prog_1_method_12_code 17 = .ok (.ifCond .eq 10, 3) := by decide +kernel
theorem d_Do_entry_20 : decode prog_1_method_12_code 20 = .ok (.iload_n 3, 1) := by decide +kernel
theorem d_Do_entry_21 : decode prog_1_method_12_code 21 = .ok (.invokestatic 111, 3) := by decide +kernel
theorem d_Do_entry_24 : decode prog_1_method_12_code 24 = .ok (.ifCond .ne 5, 3) := by decide +kernel
theorem d_Do_entry_27 : decode prog_1_method_12_code 27 = .ok (.iconst (-1), 1) := by decide +kernel
theorem d_Do_entry_28 : decode prog_1_method_12_code 28 = .ok (.ireturn, 1) := by decide +kernel
theorem d_Do_entry_29 : decode prog_1_method_12_code 29 = .ok (.aload_n 0, 1) := by decide +kernel
theorem d_Do_entry_30 : decode prog_1_method_12_code 30 = .ok (.getfield 21, 3) := by decide +kernel
theorem d_Do_entry_33 : decode prog_1_method_12_code 33 = .ok (.aload_n 0, 1) := by decide +kernel
theorem d_Do_entry_34 : decode prog_1_method_12_code 34 = .ok (.getfield 11, 3) := by decide +kernel
theorem d_Do_entry_37 : decode prog_1_method_12_code 37 = .ok (.iload_n 1, 1) := by decide +kernel
theorem d_Do_entry_38 : decode prog_1_method_12_code 38 = .ok (.aaload, 1) := by decide +kernel
theorem d_Do_entry_39 : decode prog_1_method_12_code 39 = .ok (.iload_n 2, 1) := by decide +kernel
theorem d_Do_entry_40 : decode prog_1_method_12_code 40 = .ok (.iload_n 3, 1) := by decide +kernel
theorem d_Do_entry_41 : decode prog_1_method_12_code 41 = .ok (.iload 4, 2) := by decide +kernel
theorem d_Do_entry_43 : decode prog_1_method_12_code 43 = .ok (.invokevirtual 114, 3) := by decide +kernel
theorem d_Do_entry_46 : decode prog_1_method_12_code 46 = .ok (.ireturn, 1) := by decide +kernel
theorem d_Do_element_0 : decode prog_1_method_13_code 0 = .ok (.iload_n 1, 1) := by decide +kernel
theorem d_Do_element_1 : decode prog_1_method_13_code 1 = .ok (.invokestatic 39, 3) := by decide +kernel
theorem d_Do_element_4 : decode prog_1_method_13_code 4 = .ok (.ifCond .eq 16, 3) := by decide +kernel
theorem d_Do_element_7 : decode prog_1_method_13_code 7 = .ok (.aload_n 0, 1) := by decide +kernel
theorem d_Do_element_8 : decode prog_1_method_13_code 8 = .ok (.getfield 11, 3) := by decide +kernel
theorem d_Do_element_11 : decode prog_1_method_13_code 11 = .ok (.iload_n 1, 1) := by decide +kernel
theorem d_Do_element_12 : decode prog_1_method_13_code 12 = .ok (.aaload, 1) := by decide +kernel
theorem d_Do_element_13 : decode prog_1_method_13_code 13 = .ok (.iload_n 2, 1) := by decide +kernel
theorem d_Do_element_14 : decode prog_1_method_13_code 14 = .ok (.invokevirtual 118, 3) := by decide +kernel
theorem d_Do_element_17 : decode prog_1_method_13_code 17 = .ok (.ifCond .ne 5, 3) := by decide +kernel
theorem d_Do_element_20 : decode prog_1_method_13_code 20 = .ok (.iconst (-1), 1) := by decide +kernel
theorem d_Do_element_21 : decode prog_1_method_13_code 21 = .ok (.ireturn, 1) := by decide +kernel
theorem d_Do_element_22 : decode prog_1_method_13_code 22 = .ok (.aload_n 0, 1) := by decide +kernel
theorem d_Do_element_23 : decode prog_1_method_13_code 23 = .ok (.getfield 21, 3) := by decide +kernel
theorem d_Do_element_26 : decode prog_1_method_13_code 26 = .ok (.aload_n 0, 1) := by decide +kernel
theorem d_Do_element_27 : decode prog_1_method_13_code 27 = .ok (.getfield 11, 3) := by decide +kernel
theorem d_Do_element_30 : decode prog_1_method_13_code 30 = .ok (.iload_n 1, 1) := by decide +kernel
theorem d_Do_element_31 : decode prog_1_method_13_code 31 = .ok (.aaload, 1) := by decide +kernel
theorem d_Do_element_32 : decode prog_1_method_13_code 32 = .ok (.iload_n 2, 1) := by decide +kernel
theorem d_Do_element_33 : decode prog_1_method_13_code 33 = .ok (.iload_n 3, 1) := by decide +kernel
theorem d_Do_element_34 : decode prog_1_method_13_code 34 = .ok (.invokevirtual 121, 3) := by decide +kernel
theorem d_Do_element_37 : decode prog_1_method_13_code 37 = .ok (.ireturn, 1) := by decide +kernel
theorem d_Do_value_0 : decode prog_1_method_14_code 0 = .ok (.iload_n 1, 1) := by decide +kernel
theorem d_Do_value_1 : decode prog_1_method_14_code 1 = .ok (.invokestatic 39, 3) := by decide +kernel
theorem d_Do_value_4 : decode prog_1_method_14_code 4 = .ok (.ifCond .ne 5, 3) := by decide +kernel
theorem d_Do_value_7 : decode prog_1_method_14_code 7 = .ok (.iconst (-1), 1) := by decide +kernel
theorem d_Do_value_8 : decode prog_1_method_14_code 8 = .ok (.ireturn, 1) := by decide +kernel
theorem d_Do_value_9 : decode prog_1_method_14_code 9 = .ok (.aload_n 0, 1) := by decide +kernel
theorem d_Do_value_10 : decode prog_1_method_14_code 10 = .ok (.getfield 11, 3) := by decide +kernel
theorem d_Do_value_13 : decode prog_1_method_14_code 13 = .ok (.iload_n 1, 1) := by decide +kernel
theorem d_Do_value_14 : decode prog_1_method_14_code 14 = .ok (.aaload, 1) := by decide +kernel
theorem d_Do_value_15 : decode prog_1_method_14_code 15 = .ok (.iload_n 2, 1) := by decide +kernel
theorem d_Do_value_16 : decode prog_1_method_14_code 16 = .ok (.aload_n 0, 1) := by decide +kernel
theorem d_Do_value_17 : decode prog_1_method_14_code 17 = .ok (.getfield 11, 3) := by decide +kernel
theorem d_Do_value_20 : decode prog_1_method_14_code 20 = .ok (.iload_n 1, 1) := by decide +kernel
theorem d_Do_value_21 : decode prog_1_method_14_code 21 = .ok (.aaload, 1) := by decide +kernel
theorem d_Do_value_22 : decode prog_1_method_14_code 22 = .ok (.getfield 95, 3) := by decide +kernel
theorem d_Do_value_25 : decode prog_1_method_14_code 25 = .ok (.invokevirtual 63, 3) := by decide +kernel
theorem d_Do_value_28 : decode prog_1_method_14_code 28 = .ok (.istore_n 3, 1) := by decide +kernel
theorem d_Do_value_29 : decode prog_1_method_14_code 29 = .ok (.iload_n 3, 1) := by decide +kernel
theorem d_Do_value_30 : decode prog_1_method_14_code 30 = .ok (.iconst (-1), 1) := by decide +kernel
theorem d_Do_value_31 : decode prog_1_method_14_code 31 = .ok (.if_icmp .ne 7, 3) := by decide +kernel
theorem d_Do_value_34 : decode prog_1_method_14_code 34 = .ok (.iconst (-1), 1) := by decide +kernel
theorem d_Do_value_35 : decode prog_1_method_14_code 35 = .ok (.goto 17, 3) := by decide +kernel
theorem d_Do_value_38 : decode prog_1_method_14_code 38 = .ok (.aload_n 0, 1) := by decide +kernel
theorem d_Do_value_39 : decode prog_1_method_14_code 39 = .ok (.getfield 11, 3) := by decide +kernel
theorem d_Do_value_42 : decode prog_1_method_14_code 42 = .ok (.iload_n 1, 1) := by decide +kernel
theorem d_Do_value_43 : decode prog_1_method_14_code 43 = .ok (.aaload, 1) := by decide +kernel
theorem d_Do_value_44 : decode prog_1_method_14_code 44 = .ok (.getfield 67, 3) := by decide +kernel
theorem d_Do_value_47 : decode prog_1_method_14_code 47 = .ok (.iload_n 3, 1) := by decide +kernel
theorem d_Do_value_48 : decode prog_1_method_14_code 48 = .ok (.aaload, 1) := by decide +kernel
theorem d_Do_value_49 : decode prog_1_method_14_code 49 = .ok (.getfield 125, 3) := by decide +kernel
theorem d_Do_value_52 : decode prog_1_method_14_code 52 = .ok (.ireturn, 1) := by decide +kernel
theorem d_Do_depth_0 : decode prog_1_method_15_code 0 = .ok (.iload_n 1, 1) := by decide +kernel
theorem d_Do_depth_1 : decode prog_1_method_15_code 1 = .ok (.invokestatic 39, 3) := by decide +kernel
theorem d_Do_depth_4 : decode prog_1_method_15_code 4 = .ok (.ifCond .eq 20, 3) := by decide +kernel
theorem d_Do_depth_7 : decode prog_1_method_15_code 7 = .ok (.aload_n 0, 1) := by decide +kernel
theorem d_Do_depth_8 : decode prog_1_method_15_code 8 = .ok (.getfield 21, 3) := by decide +kernel
theorem d_Do_depth_11 : decode prog_1_method_15_code 11 = .ok (.aload_n 0, 1) := by decide +kernel
theorem d_Do_depth_12 : decode prog_1_method_15_code 12 = .ok (.getfield 11, 3) := by decide +kernel
theorem d_Do_depth_15 : decode prog_1_method_15_code 15 = .ok (.iload_n 1, 1) := by decide +kernel
theorem d_Do_depth_16 : decode prog_1_method_15_code 16 = .ok (.aaload, 1) := by decide +kernel
theorem d_Do_depth_17 : decode prog_1_method_15_code 17 = .ok (.iload_n 2, 1) := by decide +kernel
theorem d_Do_depth_18 : decode prog_1_method_15_code 18 = .ok (.invokevirtual 128, 3) := by decide +kernel
theorem d_Do_depth_21 : decode prog_1_method_15_code 21 = .ok (.goto 4, 3) := by decide +kernel
theorem d_Do_depth_24 : decode prog_1_method_15_code 24 = .ok (.iconst (-1), 1) := by decide +kernel
theorem d_Do_depth_25 : decode prog_1_method_15_code 25 = .ok (.ireturn, 1) := by decide +kernel
theorem d_Do_sum_0 : decode prog_1_method_16_code 0 = .ok (.iload_n 1, 1) := by decide +kernel
theorem d_Do_sum_1 : decode prog_1_method_16_code 1 = .ok (.invokestatic 39, 3) := by decide +kernel
theorem d_Do_sum_4 : decode prog_1_method_16_code 4 = .ok (.ifCond .eq 19, 3) := by decide +kernel
theorem d_Do_sum_7 : decode prog_1_method_16_code 7 = .ok (.aload_n 0, 1) := by decide +kernel
theorem d_Do_sum_8 : decode prog_1_method_16_code 8 = .ok (.getfield 21, 3) := by decide +kernel
theorem d_Do_sum_11 : decode prog_1_method_16_code 11 = .ok (.aload_n 0, 1) := by decide +kernel
theorem d_Do_sum_12 : decode prog_1_method_16_code 12 = .ok (.getfield 11, 3) := by decide +kernel
theorem d_Do_sum_15 : decode prog_1_method_16_code 15 = .ok (.iload_n 1, 1) := by decide +kernel
theorem d_Do_sum_16 : decode prog_1_method_16_code 16 = .ok (.aaload, 1) := by decide +kernel
theorem d_Do_sum_17 : decode prog_1_method_16_code 17 = .ok (.invokevirtual 132, 3) := by decide +kernel
theorem d_Do_sum_20 : decode prog_1_method_16_code 20 = .ok (.goto 4, 3) := by decide +kernel
theorem d_Do_sum_23 : decode prog_1_method_16_code 23 = .ok (.iconst 0, 1) := by decide +kernel
theorem d_Do_sum_24 : decode prog_1_method_16_code 24 = .ok (.ireturn, 1) := by decide +kernel
theorem d_Do_level_0 : decode prog_1_method_17_code 0 = .ok (.iload_n 1, 1) := by decide +kernel
theorem d_Do_level_1 : decode prog_1_method_17_code 1 = .ok (.invokestatic 39, 3) := by decide +kernel
theorem d_Do_level_4 : decode prog_1_method_17_code 4 = .ok (.ifCond .eq 32, 3) := by decide +kernel
theorem d_Do_level_7 : decode prog_1_method_17_code 7 = .ok (.iload_n 2, 1) := by decide +kernel
theorem d_Do_level_8 : decode prog_1_method_17_code 8 = .ok (.invokestatic 39, 3) := by decide +kernel
theorem d_Do_level_11 : decode prog_1_method_17_code 11 = .ok (.ifCond .eq 25, 3) := by decide +kernel
theorem d_Do_level_14 : decode prog_1_method_17_code 14 = .ok (.aload_n 0, 1) := by decide +kernel
theorem d_Do_level_15 : decode prog_1_method_17_code 15 = .ok (.getfield 11, 3) := by decide +kernel
theorem d_Do_level_18 : decode prog_1_method_17_code 18 = .ok (.iload_n 1, 1) := by decide +kernel
theorem d_Do_level_19 : decode prog_1_method_17_code 19 = .ok (.aaload, 1) := by decide +kernel
theorem d_Do_level_20 : decode prog_1_method_17_code 20 = .ok (.aload_n 0, 1) := by decide +kernel
theorem d_Do_level_21 : decode prog_1_method_17_code 21 = .ok (.getfield 11, 3) := by decide +kernel
theorem d_Do_level_24 : decode prog_1_method_17_code 24 = .ok (.iload_n 2, 1) := by decide +kernel
theorem d_Do_level_25 : decode prog_1_method_17_code 25 = .ok (.aaload, 1) := by decide +kernel
theorem d_Do_level_26 : decode prog_1_method_17_code 26 = .ok (.invokevirtual 136, 3) := by decide +kernel
theorem d_Do_level_29 : decode prog_1_method_17_code 29 = .ok (.ifCond .eq 7, 3) := by decide +kernel
theorem d_Do_level_32 : decode prog_1_method_17_code 32 = .ok (.iconst 1, 1) := by decide +kernel
theorem d_Do_level_33 : decode prog_1_method_17_code 33 = .ok (.goto 4, 3) := by decide +kernel
theorem d_Do_level_36 : decode prog_1_method_17_code 36 = .ok (.iconst 0, 1) := by decide +kernel
theorem d_Do_level_37 : decode prog_1_method_17_code 37 = .ok (.ireturn, 1) := by decide +kernel
theorem d_Do_isReplica_0 : decode prog_1_method_18_code 0 = .ok (.iload_n 0, 1) := by decide +kernel
theorem d_Do_isReplica_1 : decode prog_1_method_18_code 1 = .ok (.ifCond .lt 12, 3) := by decide +kernel
theorem d_Do_isReplica_4 : decode prog_1_method_18_code 4 = .ok (.iload_n 0, 1) := by decide +kernel
theorem d_Do_isReplica_5 : decode prog_1_method_18_code 5 = .ok (.iconst 3, 1) := by decide +kernel
theorem d_Do_isReplica_6 : decode prog_1_method_18_code 6 = .ok (.if_icmp .ge 7, 3) := by decide +kernel
theorem d_Do_isReplica_9 : decode prog_1_method_18_code 9 = .ok (.iconst 1, 1) := by decide +kernel
theorem d_Do_isReplica_10 : decode prog_1_method_18_code 10 = .ok (.goto 4, 3) := by decide +kernel
theorem d_Do_isReplica_13 : decode prog_1_method_18_code 13 = .ok (.iconst 0, 1) := by decide +kernel
theorem d_Do_isReplica_14 : decode prog_1_method_18_code 14 = .ok (.ireturn, 1) := by decide +kernel
theorem d_Do_isKey_0 : decode prog_1_method_19_code 0 = .ok (.iload_n 0, 1) := by decide +kernel
theorem d_Do_isKey_1 : decode prog_1_method_19_code 1 = .ok (.ifCond .lt 12, 3) := by decide +kernel
theorem d_Do_isKey_4 : decode prog_1_method_19_code 4 = .ok (.iload_n 0, 1) := by decide +kernel
theorem d_Do_isKey_5 : decode prog_1_method_19_code 5 = .ok (.iconst 4, 1) := by decide +kernel
theorem d_Do_isKey_6 : decode prog_1_method_19_code 6 = .ok (.if_icmp .ge 7, 3) := by decide +kernel
theorem d_Do_isKey_9 : decode prog_1_method_19_code 9 = .ok (.iconst 1, 1) := by decide +kernel
theorem d_Do_isKey_10 : decode prog_1_method_19_code 10 = .ok (.goto 4, 3) := by decide +kernel
theorem d_Do_isKey_13 : decode prog_1_method_19_code 13 = .ok (.iconst 0, 1) := by decide +kernel
theorem d_Do_isKey_14 : decode prog_1_method_19_code 14 = .ok (.ireturn, 1) := by decide +kernel
theorem d_Do_isId_0 : decode prog_1_method_20_code 0 = .ok (.iload_n 0, 1) := by decide +kernel
theorem d_Do_isId_1 : decode prog_1_method_20_code 1 = .ok (.iconst 2, 1) := by decide +kernel
theorem d_Do_isId_2 : decode prog_1_method_20_code 2 = .ok (.ishr, 1) := by decide +kernel
theorem d_Do_isId_3 : decode prog_1_method_20_code 3 = .ok (.istore_n 1, 1) := by decide +kernel
theorem d_Do_isId_4 : decode prog_1_method_20_code 4 = .ok (.iload_n 1, 1) := by decide +kernel
theorem d_Do_isId_5 : decode prog_1_method_20_code 5 = .ok (.iconst 1, 1) := by decide +kernel
theorem d_Do_isId_6 : decode prog_1_method_20_code 6 = .ok (.if_icmp .lt 22, 3) := by decide +kernel
theorem d_Do_isId_9 : decode prog_1_method_20_code 9 = .ok (.iload_n 1, 1) := by decide +kernel
theorem d_Do_isId_10 : decode prog_1_method_20_code 10 = .ok (.bipush 40, 2) := by decide +kernel
theorem d_Do_isId_12 : decode prog_1_method_20_code 12 = .ok (.if_icmp .gt 16, 3) := by decide +kernel
theorem d_Do_isId_15 : decode prog_1_method_20_code 15 = .ok (.iload_n 0, 1) := by decide +kernel
theorem d_Do_isId_16 : decode prog_1_method_20_code 16 = .ok (.iconst 3, 1) := by decide +kernel
theorem d_Do_isId_17 : decode prog_1_method_20_code 17 = .ok (.iand, 1) := by decide +kernel
theorem d_Do_isId_18 : decode prog_1_method_20_code 18 = .ok (.invokestatic 39, 3) := by decide +kernel
theorem d_Do_isId_21 : decode prog_1_method_20_code 21 = .ok (.ifCond .eq 7, 3) := by decide +kernel
theorem d_Do_isId_24 : decode prog_1_method_20_code 24 = .ok (.iconst 1, 1) := by decide +kernel
theorem d_Do_isId_25 : decode prog_1_method_20_code 25 = .ok (.goto 4, 3) := by decide +kernel
theorem d_Do_isId_28 : decode prog_1_method_20_code 28 = .ok (.iconst 0, 1) := by decide +kernel
theorem d_Do_isId_29 : decode prog_1_method_20_code 29 = .ok (.ireturn, 1) := by decide +kernel
end
section
/-! blocks -/
theorem b_Op_init_0 {d : Nat} {a0 : Nat} {w : mW} {Q : Int32 → mW → Prop} (h : ∀ w1, w1 = wrN w 20 6 → mT w1 a0 = 2 ∧ (mZ w) ≠ 0 ∧ ∀ w2, w2 = wrP w1 a0 0 (mZ w) → Q 0 w2) : mG (d + 1) m_Op_init (0, 0) 0 [vR a0] [] w Q :=
  (g_aload_n 0 d_Op_init_0 rfl rfl (g_objInit d_Op_init_1 l_O_Op_3 (Nat.le_of_ble_eq_true rfl) (g_aload_n 0 d_Op_init_4 rfl rfl (g_bipush (6 : Int32) d_Op_init_5 rfl (g_newI 6 d_Op_init_7 l_W_int rfl (Nat.le_of_ble_eq_true rfl) ⟨(Nat.le_of_ble_eq_true rfl), (Nat.le_of_ble_eq_true rfl)⟩ (1, 6) rfl (have h := h _ rfl; (have s1 := h.1; have h := h.2; have s2 := h.1; have h := h.2; (g_putPF 1 0 d_Op_init_9 l_F_Op_9 rfl (Nat.le_of_ble_eq_true rfl) rfl (fun q hq => by cases hq; rfl) ⟨s1, s2, (have h := h _ rfl; (g_vret rfl d_Op_init_12 ⟨(Nat.le_of_ble_eq_true rfl), (Nat.le_of_ble_eq_true rfl)⟩ h))⟩))))))))
theorem e_Op_init {d : Nat} {a0 : Nat} {w : mW} {Q : Int32 → mW → Prop} (h : ∀ w1, w1 = wrN w 20 6 → mT w1 a0 = 2 ∧ (mZ w) ≠ 0 ∧ ∀ w2, w2 = wrP w1 a0 0 (mZ w) → Q 0 w2) : mC (d + 1) m_Op_init [.ref a0] w Q :=
  mG.call rfl rfl (Nat.le_of_ble_eq_true rfl) rfl (b_Op_init_0 h)
theorem b_Op_begin_0 {d : Nat} {a0 : Nat} {x1 : Int32} {x2 : Int32} {x3 : Int32} {x4 : Int32} {x5 : Int32} {w : mW} {Q : Int32 → mW → Prop} (h : mT w a0 = 2 ∧ ∀ w1, w1 = wrI w a0 2 x1 → mT w1 a0 = 2 ∧ ∀ w2, w2 = wrI w1 a0 3 x2 → mT w2 a0 = 2 ∧ ∀ w3, w3 = wrI w2 a0 4 x3 → mT w3 a0 = 2 ∧ ∀ w4, w4 = wrI w3 a0 5 x4 → mT w4 a0 = 2 ∧ ∀ w5, w5 = wrI w4 a0 6 x5 → mT w5 a0 = 2 ∧ ∀ w6, w6 = wrI w5 a0 1 (0 : Int32) → Q 0 w6) : mG d m_Op_begin (0, 0) 0 [vR a0, vI x1, vI x2, vI x3, vI x4, vI x5] [] w Q :=
  (g_aload_n 0 d_Op_begin_0 rfl rfl (g_iload_n 1 d_Op_begin_1 rfl rfl (have s1 := h.1; have h := h.2; (g_putI 1 2 d_Op_begin_2 l_F_Op_15 rfl (Nat.le_of_ble_eq_true rfl) ⟨s1, (have h := h _ rfl; (g_aload_n 0 d_Op_begin_5 rfl rfl (g_iload_n 2 d_Op_begin_6 rfl rfl (have s2 := h.1; have h := h.2; (g_putI 1 3 d_Op_begin_7 l_F_Op_19 rfl (Nat.le_of_ble_eq_true rfl) ⟨s2, (have h := h _ rfl; (g_aload_n 0 d_Op_begin_10 rfl rfl (g_iload_n 3 d_Op_begin_11 rfl rfl (have s3 := h.1; have h := h.2; (g_putI 1 4 d_Op_begin_12 l_F_Op_22 rfl (Nat.le_of_ble_eq_true rfl) ⟨s3, (have h := h _ rfl; (g_aload_n 0 d_Op_begin_15 rfl rfl (g_iload 4 d_Op_begin_16 rfl (have s4 := h.1; have h := h.2; (g_putI 1 5 d_Op_begin_18 l_F_Op_25 rfl (Nat.le_of_ble_eq_true rfl) ⟨s4, (have h := h _ rfl; (g_aload_n 0 d_Op_begin_21 rfl rfl (g_iload 5 d_Op_begin_22 rfl (have s5 := h.1; have h := h.2; (g_putI 1 6 d_Op_begin_24 l_F_Op_28 rfl (Nat.le_of_ble_eq_true rfl) ⟨s5, (have h := h _ rfl; (g_aload_n 0 d_Op_begin_27 rfl rfl (g_iconst (0 : Int32) d_Op_begin_28 rfl (have s6 := h.1; have h := h.2; (g_putI 1 1 d_Op_begin_29 l_F_Op_31 rfl (Nat.le_of_ble_eq_true rfl) ⟨s6, (have h := h _ rfl; (g_vret rfl d_Op_begin_32 ⟨(Nat.le_of_ble_eq_true rfl), (Nat.le_of_ble_eq_true rfl)⟩ h))⟩)))))⟩)))))⟩)))))⟩)))))⟩)))))⟩))))
theorem e_Op_begin {d : Nat} {a0 : Nat} {x1 : Int32} {x2 : Int32} {x3 : Int32} {x4 : Int32} {x5 : Int32} {w : mW} {Q : Int32 → mW → Prop} (h : mT w a0 = 2 ∧ ∀ w1, w1 = wrI w a0 2 x1 → mT w1 a0 = 2 ∧ ∀ w2, w2 = wrI w1 a0 3 x2 → mT w2 a0 = 2 ∧ ∀ w3, w3 = wrI w2 a0 4 x3 → mT w3 a0 = 2 ∧ ∀ w4, w4 = wrI w3 a0 5 x4 → mT w4 a0 = 2 ∧ ∀ w5, w5 = wrI w4 a0 6 x5 → mT w5 a0 = 2 ∧ ∀ w6, w6 = wrI w5 a0 1 (0 : Int32) → Q 0 w6) : mC d m_Op_begin [.ref a0, .int x1, .int x2, .int x3, .int x4, .int x5] w Q :=
  mG.call rfl rfl (Nat.le_of_ble_eq_true rfl) rfl (b_Op_begin_0 h)
theorem b_Op_copyFrom_0 {d : Nat} {a0 : Nat} {a1 : Nat} {w : mW} {Q : Int32 → mW → Prop} (h : mT w a1 = 2 ∧ mT w a0 = 2 ∧ mC d m_Op_begin [.ref a0, .int (mI w a1 2), .int (mI w a1 3), .int (mI w a1 4), .int (mI w a1 5), .int (mI w a1 6)] w (fun r1 w1 => mT w1 a1 = 2 ∧ mP w1 a1 0 ≠ 0 ∧ mT w1 a0 = 2 ∧ mP w1 a0 0 ≠ 0 ∧ mT w1 (mP w1 a1 0) = 20 ∧ mT w1 (mP w1 a0 0) = 20 ∧ (¬ (0 : Int32) < 0 ∧ ¬ (0 : Int32) < 0 ∧ ¬ (6 : Int32) < 0 ∧ (0 : Int32).toNatClampNeg + (6 : Int32).toNatClampNeg ≤ mL w1 (mP w1 a1 0) ∧ (0 : Int32).toNatClampNeg + (6 : Int32).toNatClampNeg ≤ mL w1 (mP w1 a0 0)) ∧ ∀ w2, w2 = wrC w1 (mP w1 a1 0) (0 : Int32).toNatClampNeg (mP w1 a0 0) (0 : Int32).toNatClampNeg (6 : Int32).toNatClampNeg → mT w2 a1 = 2 ∧ mT w2 a0 = 2 ∧ ∀ w3, w3 = wrI w2 a0 1 (mI w2 a1 1) → Q 0 w3)) : mG (d + 1) m_Op_copyFrom (0, 0) 0 [vR a0, vR a1] [] w Q :=
  (g_aload_n 0 d_Op_copyFrom_0 rfl rfl (g_aload_n 1 d_Op_copyFrom_1 rfl rfl (have s1 := h.1; have h := h.2; (g_getI 1 2 false d_Op_copyFrom_2 l_F_Op_15 rfl (Nat.le_of_ble_eq_true rfl) ⟨s1, (g_aload_n 1 d_Op_copyFrom_5 rfl rfl ((g_getI 1 3 false d_Op_copyFrom_6 l_F_Op_19 rfl (Nat.le_of_ble_eq_true rfl) ⟨s1, (g_aload_n 1 d_Op_copyFrom_9 rfl rfl ((g_getI 1 4 false d_Op_copyFrom_10 l_F_Op_22 rfl (Nat.le_of_ble_eq_true rfl) ⟨s1, (g_aload_n 1 d_Op_copyFrom_13 rfl rfl ((g_getI 1 5 false d_Op_copyFrom_14 l_F_Op_25 rfl (Nat.le_of_ble_eq_true rfl) ⟨s1, (g_aload_n 1 d_Op_copyFrom_17 rfl rfl ((g_getI 1 6 false d_Op_copyFrom_18 l_F_Op_28 rfl (Nat.le_of_ble_eq_true rfl) ⟨s1, (have s2 := h.1; have h := h.2; (g_callVv 1 5 [.int (mI w a1 2), .int (mI w a1 3), .int (mI w a1 4), .int (mI w a1 5), .int (mI w a1 6)] d_Op_copyFrom_21 l_V_Op_34 (Nat.le_of_ble_eq_true rfl) rfl rfl rfl (Nat.le_of_ble_eq_true rfl) ⟨(Nat.le_of_ble_eq_true rfl), (Nat.le_of_ble_eq_true rfl)⟩ (0, 0) rfl ⟨s2, mC.mono (fun r1 w1 h => (g_aload_n 1 d_Op_copyFrom_24 rfl rfl (have s3 := h.1; have h := h.2; have s4 := h.1; have h := h.2; (g_getP 1 0 true d_Op_copyFrom_25 l_F_Op_9 rfl (Nat.le_of_ble_eq_true rfl) ⟨s3, s4, (g_iconst (0 : Int32) d_Op_copyFrom_28 rfl (g_aload_n 0 d_Op_copyFrom_29 rfl rfl (have s5 := h.1; have h := h.2; have s6 := h.1; have h := h.2; (g_getP 1 0 true d_Op_copyFrom_30 l_F_Op_9 rfl (Nat.le_of_ble_eq_true rfl) ⟨s5, s6, (g_iconst (0 : Int32) d_Op_copyFrom_33 rfl (g_bipush (6 : Int32) d_Op_copyFrom_34 rfl (have s7 := h.1; have h := h.2; have s8 := h.1; have h := h.2; have s9 := h.1; have h := h.2; (g_acopy d_Op_copyFrom_36 l_A_Op_38 (Nat.le_of_ble_eq_true rfl) ⟨s7, s8, s9, (have h := h _ rfl; (g_aload_n 0 d_Op_copyFrom_39 rfl rfl (g_aload_n 1 d_Op_copyFrom_40 rfl rfl (have s10 := h.1; have h := h.2; (g_getI 1 1 false d_Op_copyFrom_41 l_F_Op_31 rfl (Nat.le_of_ble_eq_true rfl) ⟨s10, (have s11 := h.1; have h := h.2; (g_putI 1 1 d_Op_copyFrom_44 l_F_Op_31 rfl (Nat.le_of_ble_eq_true rfl) ⟨s11, (have h := h _ rfl; (g_vret rfl d_Op_copyFrom_47 ⟨(Nat.le_of_ble_eq_true rfl), (Nat.le_of_ble_eq_true rfl)⟩ h))⟩))⟩)))))⟩))))⟩))))⟩)))) h⟩))⟩)))⟩)))⟩)))⟩)))⟩))))
theorem e_Op_copyFrom {d : Nat} {a0 : Nat} {a1 : Nat} {w : mW} {Q : Int32 → mW → Prop} (h : mT w a1 = 2 ∧ mT w a0 = 2 ∧ mC d m_Op_begin [.ref a0, .int (mI w a1 2), .int (mI w a1 3), .int (mI w a1 4), .int (mI w a1 5), .int (mI w a1 6)] w (fun r1 w1 => mT w1 a1 = 2 ∧ mP w1 a1 0 ≠ 0 ∧ mT w1 a0 = 2 ∧ mP w1 a0 0 ≠ 0 ∧ mT w1 (mP w1 a1 0) = 20 ∧ mT w1 (mP w1 a0 0) = 20 ∧ (¬ (0 : Int32) < 0 ∧ ¬ (0 : Int32) < 0 ∧ ¬ (6 : Int32) < 0 ∧ (0 : Int32).toNatClampNeg + (6 : Int32).toNatClampNeg ≤ mL w1 (mP w1 a1 0) ∧ (0 : Int32).toNatClampNeg + (6 : Int32).toNatClampNeg ≤ mL w1 (mP w1 a0 0)) ∧ ∀ w2, w2 = wrC w1 (mP w1 a1 0) (0 : Int32).toNatClampNeg (mP w1 a0 0) (0 : Int32).toNatClampNeg (6 : Int32).toNatClampNeg → mT w2 a1 = 2 ∧ mT w2 a0 = 2 ∧ ∀ w3, w3 = wrI w2 a0 1 (mI w2 a1 1) → Q 0 w3)) : mC (d + 1) m_Op_copyFrom [.ref a0, .ref a1] w Q :=
  mG.call rfl rfl (Nat.le_of_ble_eq_true rfl) rfl (b_Op_copyFrom_0 h)
theorem b_Op_addBefore_0 {d : Nat} {a0 : Nat} {x1 : Int32} {w : mW} {Q : Int32 → mW → Prop} (h : mT w a0 = 2 ∧ if (mI w a0 1) < (6 : Int32) then (mG d m_Op_addBefore (0, 0) 16 [vR a0, vI x1, vI (mI w a0 1)] [] w Q) else (Q (0 : Int32) w)) : mG d m_Op_addBefore (0, 0) 0 [vR a0, vI x1, vN] [] w Q :=
  (g_aload_n 0 d_Op_addBefore_0 rfl rfl (have s1 := h.1; have h := h.2; (g_getI 1 1 false d_Op_addBefore_1 l_F_Op_31 rfl (Nat.le_of_ble_eq_true rfl) ⟨s1, (g_bipush (6 : Int32) d_Op_addBefore_4 rfl (g_icmp_lt 11 d_Op_addBefore_6 rfl (mIte (fun h => (g_aload_n 0 d_Op_addBefore_11 rfl rfl ((g_getI 1 1 false d_Op_addBefore_12 l_F_Op_31 rfl (Nat.le_of_ble_eq_true rfl) ⟨s1, (g_istore_n 2 d_Op_addBefore_15 rfl (Nat.le_of_ble_eq_true rfl) h)⟩)))) (fun h => (g_iconst (0 : Int32) d_Op_addBefore_9 rfl (g_zret rfl d_Op_addBefore_10 ⟨(Nat.le_of_ble_eq_true rfl), (Nat.le_of_ble_eq_true rfl)⟩ ⟨by decide, h⟩))) h)))⟩)))
theorem e_Op_addBefore {d : Nat} {a0 : Nat} {x1 : Int32} {w : mW} {Q : Int32 → mW → Prop} (h : mT w a0 = 2 ∧ if (mI w a0 1) < (6 : Int32) then (mG d m_Op_addBefore (0, 0) 16 [vR a0, vI x1, vI (mI w a0 1)] [] w Q) else (Q (0 : Int32) w)) : mC d m_Op_addBefore [.ref a0, .int x1] w Q :=
  mG.call rfl rfl (Nat.le_of_ble_eq_true rfl) rfl (b_Op_addBefore_0 h)
theorem b_Op_addBefore_16 {d : Nat} {a0 : Nat} {x1 : Int32} {x2 : Int32} {w : mW} {Q : Int32 → mW → Prop} (h : if x2 ≤ 0 then (mG d m_Op_addBefore (0, 0) 52 [vR a0, vI x1, vI x2] [] w Q) else (mT w a0 = 2 ∧ mP w a0 0 ≠ 0 ∧ mT w (mP w a0 0) = 20 ∧ vp_in (x2 - (1 : Int32)) (mL w (mP w a0 0)) ∧ if (mI w (mP w a0 0) (x2 - (1 : Int32)).toNatClampNeg) ≤ x1 then (mG d m_Op_addBefore (0, 0) 52 [vR a0, vI x1, vI x2] [] w Q) else (vp_in x2 (mL w (mP w a0 0)) ∧ ∀ w1, w1 = wrI w (mP w a0 0) x2.toNatClampNeg (mI w (mP w a0 0) (x2 - (1 : Int32)).toNatClampNeg) → mG d m_Op_addBefore (0, 0) 16 [vR a0, vI x1, vI (x2 + (-1 : Int32))] [] w1 Q))) : mG d m_Op_addBefore (0, 0) 16 [vR a0, vI x1, vI x2] [] w Q :=
  (g_iload_n 2 d_Op_addBefore_16 rfl rfl (g_if_le 52 d_Op_addBefore_17 rfl (mIte (fun h => h) (fun h => (g_aload_n 0 d_Op_addBefore_20 rfl rfl (have s1 := h.1; have h := h.2; have s2 := h.1; have h := h.2; (g_getP 1 0 true d_Op_addBefore_21 l_F_Op_9 rfl (Nat.le_of_ble_eq_true rfl) ⟨s1, s2, (g_iload_n 2 d_Op_addBefore_24 rfl rfl (g_iconst (1 : Int32) d_Op_addBefore_25 rfl (g_isub d_Op_addBefore_26 (have s3 := h.1; have h := h.2; have s4 := h.1; have h := h.2; (g_iaload d_Op_addBefore_27 ⟨s3, s4, (g_iload_n 1 d_Op_addBefore_28 rfl rfl (g_icmp_le 52 d_Op_addBefore_29 rfl (mIte (fun h => h) (fun h => (g_aload_n 0 d_Op_addBefore_32 rfl rfl ((g_getP 1 0 true d_Op_addBefore_33 l_F_Op_9 rfl (Nat.le_of_ble_eq_true rfl) ⟨s1, s2, (g_iload_n 2 d_Op_addBefore_36 rfl rfl (g_aload_n 0 d_Op_addBefore_37 rfl rfl ((g_getP 1 0 true d_Op_addBefore_38 l_F_Op_9 rfl (Nat.le_of_ble_eq_true rfl) ⟨s1, s2, (g_iload_n 2 d_Op_addBefore_41 rfl rfl (g_iconst (1 : Int32) d_Op_addBefore_42 rfl (g_isub d_Op_addBefore_43 ((g_iaload d_Op_addBefore_44 ⟨s3, s4, (have s5 := h.1; have h := h.2; (g_iastore d_Op_addBefore_45 ⟨s3, s5, (have h := h _ rfl; (g_iinc 2 (-1 : Int32) d_Op_addBefore_46 rfl rfl (Nat.le_of_ble_eq_true rfl) (g_goto 16 d_Op_addBefore_49 rfl h)))⟩))⟩)))))⟩))))⟩)))) h)))⟩)))))⟩)))) h)))
theorem b_Op_addBefore_52 {d : Nat} {a0 : Nat} {x1 : Int32} {x2 : Int32} {w : mW} {Q : Int32 → mW → Prop} (h : mT w a0 = 2 ∧ mP w a0 0 ≠ 0 ∧ mT w (mP w a0 0) = 20 ∧ vp_in x2 (mL w (mP w a0 0)) ∧ ∀ w1, w1 = wrI w (mP w a0 0) x2.toNatClampNeg x1 → mT w1 a0 = 2 ∧ ∀ w2, w2 = wrI w1 a0 1 ((mI w1 a0 1) + (1 : Int32)) → Q (1 : Int32) w2) : mG d m_Op_addBefore (0, 0) 52 [vR a0, vI x1, vI x2] [] w Q :=
  (g_aload_n 0 d_Op_addBefore_52 rfl rfl (have s1 := h.1; have h := h.2; have s2 := h.1; have h := h.2; (g_getP 1 0 true d_Op_addBefore_53 l_F_Op_9 rfl (Nat.le_of_ble_eq_true rfl) ⟨s1, s2, (g_iload_n 2 d_Op_addBefore_56 rfl rfl (g_iload_n 1 d_Op_addBefore_57 rfl rfl (have s3 := h.1; have h := h.2; have s4 := h.1; have h := h.2; (g_iastore d_Op_addBefore_58 ⟨s3, s4, (have h := h _ rfl; (g_aload_n 0 d_Op_addBefore_59 rfl rfl (g_dup d_Op_addBefore_60 rfl (have s5 := h.1; have h := h.2; (g_getI 1 1 false d_Op_addBefore_61 l_F_Op_31 rfl (Nat.le_of_ble_eq_true rfl) ⟨s5, (g_iconst (1 : Int32) d_Op_addBefore_64 rfl (g_iadd d_Op_addBefore_65 ((g_putI 1 1 d_Op_addBefore_66 l_F_Op_31 rfl (Nat.le_of_ble_eq_true rfl) ⟨s5, (have h := h _ rfl; (g_iconst (1 : Int32) d_Op_addBefore_69 rfl (g_zret rfl d_Op_addBefore_70 ⟨(Nat.le_of_ble_eq_true rfl), (Nat.le_of_ble_eq_true rfl)⟩ ⟨by decide, h⟩)))⟩))))⟩)))))⟩))))⟩)))
theorem b_Op_hasBefore_0 {d : Nat} {a0 : Nat} {x1 : Int32} {w : mW} {Q : Int32 → mW → Prop} (h : mG d m_Op_hasBefore (0, 0) 2 [vR a0, vI x1, vI (0 : Int32)] [] w Q) : mG d m_Op_hasBefore (0, 0) 0 [vR a0, vI x1, vN] [] w Q :=
  (g_iconst (0 : Int32) d_Op_hasBefore_0 rfl (g_istore_n 2 d_Op_hasBefore_1 rfl (Nat.le_of_ble_eq_true rfl) h))
theorem e_Op_hasBefore {d : Nat} {a0 : Nat} {x1 : Int32} {w : mW} {Q : Int32 → mW → Prop} (h : mG d m_Op_hasBefore (0, 0) 2 [vR a0, vI x1, vI (0 : Int32)] [] w Q) : mC d m_Op_hasBefore [.ref a0, .int x1] w Q :=
  mG.call rfl rfl (Nat.le_of_ble_eq_true rfl) rfl (b_Op_hasBefore_0 h)
theorem b_Op_hasBefore_2 {d : Nat} {a0 : Nat} {x1 : Int32} {x2 : Int32} {w : mW} {Q : Int32 → mW → Prop} (h : mT w a0 = 2 ∧ if (mI w a0 1) ≤ x2 then (Q (0 : Int32) w) else (mP w a0 0 ≠ 0 ∧ mT w (mP w a0 0) = 20 ∧ vp_in x2 (mL w (mP w a0 0)) ∧ if (mI w (mP w a0 0) x2.toNatClampNeg) = x1 then (Q (1 : Int32) w) else (mG d m_Op_hasBefore (0, 0) 2 [vR a0, vI x1, vI (x2 + (1 : Int32))] [] w Q))) : mG d m_Op_hasBefore (0, 0) 2 [vR a0, vI x1, vI x2] [] w Q :=
  (g_iload_n 2 d_Op_hasBefore_2 rfl rfl (g_aload_n 0 d_Op_hasBefore_3 rfl rfl (have s1 := h.1; have h := h.2; (g_getI 1 1 false d_Op_hasBefore_4 l_F_Op_31 rfl (Nat.le_of_ble_eq_true rfl) ⟨s1, (g_icmp_ge 28 d_Op_hasBefore_7 rfl (mIte (fun h => (g_iconst (0 : Int32) d_Op_hasBefore_28 rfl (g_zret rfl d_Op_hasBefore_29 ⟨(Nat.le_of_ble_eq_true rfl), (Nat.le_of_ble_eq_true rfl)⟩ ⟨by decide, h⟩))) (fun h => (g_aload_n 0 d_Op_hasBefore_10 rfl rfl (have s2 := h.1; have h := h.2; (g_getP 1 0 true d_Op_hasBefore_11 l_F_Op_9 rfl (Nat.le_of_ble_eq_true rfl) ⟨s1, s2, (g_iload_n 2 d_Op_hasBefore_14 rfl rfl (have s3 := h.1; have h := h.2; have s4 := h.1; have h := h.2; (g_iaload d_Op_hasBefore_15 ⟨s3, s4, (g_iload_n 1 d_Op_hasBefore_16 rfl rfl (g_icmp_ne 22 d_Op_hasBefore_17 rfl (mIte (fun h => (g_iconst (1 : Int32) d_Op_hasBefore_20 rfl (g_zret rfl d_Op_hasBefore_21 ⟨(Nat.le_of_ble_eq_true rfl), (Nat.le_of_ble_eq_true rfl)⟩ ⟨by decide, h⟩))) (fun h => (g_iinc 2 (1 : Int32) d_Op_hasBefore_22 rfl rfl (Nat.le_of_ble_eq_true rfl) (g_goto 2 d_Op_hasBefore_25 rfl h))) h)))⟩)))⟩)))) h))⟩))))
theorem b_Op_writesToMap_0 {d : Nat} {a0 : Nat} {w : mW} {Q : Int32 → mW → Prop} (h : mT w a0 = 2 ∧ if (mI w a0 3) = 0 then (Q (1 : Int32) w) else (if (mI w a0 3) = (1 : Int32) then (Q (1 : Int32) w) else (if (mI w a0 3) = (2 : Int32) then (Q (1 : Int32) w) else (if (mI w a0 3) = (5 : Int32) then (Q (1 : Int32) w) else (Q (0 : Int32) w))))) : mG d m_Op_writesToMap (0, 0) 0 [vR a0] [] w Q :=
  (g_aload_n 0 d_Op_writesToMap_0 rfl rfl (have s1 := h.1; have h := h.2; (g_getI 1 3 false d_Op_writesToMap_1 l_F_Op_19 rfl (Nat.le_of_ble_eq_true rfl) ⟨s1, (g_if_eq 31 d_Op_writesToMap_4 rfl (mIte (fun h => (g_iconst (1 : Int32) d_Op_writesToMap_31 rfl (g_goto 36 d_Op_writesToMap_32 rfl (g_zret rfl d_Op_writesToMap_36 ⟨(Nat.le_of_ble_eq_true rfl), (Nat.le_of_ble_eq_true rfl)⟩ ⟨by decide, h⟩)))) (fun h => (g_aload_n 0 d_Op_writesToMap_7 rfl rfl ((g_getI 1 3 false d_Op_writesToMap_8 l_F_Op_19 rfl (Nat.le_of_ble_eq_true rfl) ⟨s1, (g_iconst (1 : Int32) d_Op_writesToMap_11 rfl (g_icmp_eq 31 d_Op_writesToMap_12 rfl (mIte (fun h => (g_iconst (1 : Int32) d_Op_writesToMap_31 rfl (g_goto 36 d_Op_writesToMap_32 rfl (g_zret rfl d_Op_writesToMap_36 ⟨(Nat.le_of_ble_eq_true rfl), (Nat.le_of_ble_eq_true rfl)⟩ ⟨by decide, h⟩)))) (fun h => (g_aload_n 0 d_Op_writesToMap_15 rfl rfl ((g_getI 1 3 false d_Op_writesToMap_16 l_F_Op_19 rfl (Nat.le_of_ble_eq_true rfl) ⟨s1, (g_iconst (2 : Int32) d_Op_writesToMap_19 rfl (g_icmp_eq 31 d_Op_writesToMap_20 rfl (mIte (fun h => (g_iconst (1 : Int32) d_Op_writesToMap_31 rfl (g_goto 36 d_Op_writesToMap_32 rfl (g_zret rfl d_Op_writesToMap_36 ⟨(Nat.le_of_ble_eq_true rfl), (Nat.le_of_ble_eq_true rfl)⟩ ⟨by decide, h⟩)))) (fun h => (g_aload_n 0 d_Op_writesToMap_23 rfl rfl ((g_getI 1 3 false d_Op_writesToMap_24 l_F_Op_19 rfl (Nat.le_of_ble_eq_true rfl) ⟨s1, (g_iconst (5 : Int32) d_Op_writesToMap_27 rfl (g_icmp_ne 35 d_Op_writesToMap_28 rfl (mIte (fun h => (g_iconst (1 : Int32) d_Op_writesToMap_31 rfl (g_goto 36 d_Op_writesToMap_32 rfl (g_zret rfl d_Op_writesToMap_36 ⟨(Nat.le_of_ble_eq_true rfl), (Nat.le_of_ble_eq_true rfl)⟩ ⟨by decide, h⟩)))) (fun h => (g_iconst (0 : Int32) d_Op_writesToMap_35 rfl (g_zret rfl d_Op_writesToMap_36 ⟨(Nat.le_of_ble_eq_true rfl), (Nat.le_of_ble_eq_true rfl)⟩ ⟨by decide, h⟩))) h)))⟩)))) h)))⟩)))) h)))⟩)))) h))⟩)))
theorem e_Op_writesToMap {d : Nat} {a0 : Nat} {w : mW} {Q : Int32 → mW → Prop} (h : mT w a0 = 2 ∧ if (mI w a0 3) = 0 then (Q (1 : Int32) w) else (if (mI w a0 3) = (1 : Int32) then (Q (1 : Int32) w) else (if (mI w a0 3) = (2 : Int32) then (Q (1 : Int32) w) else (if (mI w a0 3) = (5 : Int32) then (Q (1 : Int32) w) else (Q (0 : Int32) w))))) : mC d m_Op_writesToMap [.ref a0] w Q :=
  mG.call rfl rfl (Nat.le_of_ble_eq_true rfl) rfl (b_Op_writesToMap_0 h)
theorem b_Op_names_0 {d : Nat} {a0 : Nat} {x1 : Int32} {w : mW} {Q : Int32 → mW → Prop} (h : if x1 = 0 then (Q (0 : Int32) w) else (mT w a0 = 2 ∧ if (mI w a0 4) = x1 then (Q (1 : Int32) w) else (if (mI w a0 3) = (3 : Int32) then (if (mI w a0 5) = x1 then (Q (1 : Int32) w) else (Q (0 : Int32) w)) else (Q (0 : Int32) w)))) : mG d m_Op_names (0, 0) 0 [vR a0, vI x1] [] w Q :=
  (g_iload_n 1 d_Op_names_0 rfl rfl (g_if_eq 32 d_Op_names_1 rfl (mIte (fun h => (g_iconst (0 : Int32) d_Op_names_32 rfl (g_zret rfl d_Op_names_33 ⟨(Nat.le_of_ble_eq_true rfl), (Nat.le_of_ble_eq_true rfl)⟩ ⟨by decide, h⟩))) (fun h => (g_aload_n 0 d_Op_names_4 rfl rfl (have s1 := h.1; have h := h.2; (g_getI 1 4 false d_Op_names_5 l_F_Op_22 rfl (Nat.le_of_ble_eq_true rfl) ⟨s1, (g_iload_n 1 d_Op_names_8 rfl rfl (g_icmp_eq 28 d_Op_names_9 rfl (mIte (fun h => (g_iconst (1 : Int32) d_Op_names_28 rfl (g_goto 33 d_Op_names_29 rfl (g_zret rfl d_Op_names_33 ⟨(Nat.le_of_ble_eq_true rfl), (Nat.le_of_ble_eq_true rfl)⟩ ⟨by decide, h⟩)))) (fun h => (g_aload_n 0 d_Op_names_12 rfl rfl ((g_getI 1 3 false d_Op_names_13 l_F_Op_19 rfl (Nat.le_of_ble_eq_true rfl) ⟨s1, (g_iconst (3 : Int32) d_Op_names_16 rfl (g_icmp_ne 32 d_Op_names_17 rfl (mIte (fun h => (g_aload_n 0 d_Op_names_20 rfl rfl ((g_getI 1 5 false d_Op_names_21 l_F_Op_25 rfl (Nat.le_of_ble_eq_true rfl) ⟨s1, (g_iload_n 1 d_Op_names_24 rfl rfl (g_icmp_ne 32 d_Op_names_25 rfl (mIte (fun h => (g_iconst (1 : Int32) d_Op_names_28 rfl (g_goto 33 d_Op_names_29 rfl (g_zret rfl d_Op_names_33 ⟨(Nat.le_of_ble_eq_true rfl), (Nat.le_of_ble_eq_true rfl)⟩ ⟨by decide, h⟩)))) (fun h => (g_iconst (0 : Int32) d_Op_names_32 rfl (g_zret rfl d_Op_names_33 ⟨(Nat.le_of_ble_eq_true rfl), (Nat.le_of_ble_eq_true rfl)⟩ ⟨by decide, h⟩))) h)))⟩)))) (fun h => (g_iconst (0 : Int32) d_Op_names_32 rfl (g_zret rfl d_Op_names_33 ⟨(Nat.le_of_ble_eq_true rfl), (Nat.le_of_ble_eq_true rfl)⟩ ⟨by decide, h⟩))) h)))⟩)))) h)))⟩)))) h)))
theorem e_Op_names {d : Nat} {a0 : Nat} {x1 : Int32} {w : mW} {Q : Int32 → mW → Prop} (h : if x1 = 0 then (Q (0 : Int32) w) else (mT w a0 = 2 ∧ if (mI w a0 4) = x1 then (Q (1 : Int32) w) else (if (mI w a0 3) = (3 : Int32) then (if (mI w a0 5) = x1 then (Q (1 : Int32) w) else (Q (0 : Int32) w)) else (Q (0 : Int32) w)))) : mC d m_Op_names [.ref a0, .int x1] w Q :=
  mG.call rfl rfl (Nat.le_of_ble_eq_true rfl) rfl (b_Op_names_0 h)
theorem b_Op_namesOnlyBefore_0 {d : Nat} {a0 : Nat} {w : mW} {Q : Int32 → mW → Prop} (h : mT w a0 = 2 ∧ if (mI w a0 3) = (3 : Int32) then (if (mI w a0 5) = 0 then (mG (d + 1) m_Op_namesOnlyBefore (0, 0) 20 [vR a0, vN] [.int (0 : Int32)] w Q) else (mG (d + 1) m_Op_namesOnlyBefore (0, 0) 20 [vR a0, vN] [.int (1 : Int32)] w Q)) else (mG (d + 1) m_Op_namesOnlyBefore (0, 0) 20 [vR a0, vN] [.int (0 : Int32)] w Q)) : mG (d + 1) m_Op_namesOnlyBefore (0, 0) 0 [vR a0, vN] [] w Q :=
  (g_aload_n 0 d_Op_namesOnlyBefore_0 rfl rfl (have s1 := h.1; have h := h.2; (g_getI 1 3 false d_Op_namesOnlyBefore_1 l_F_Op_19 rfl (Nat.le_of_ble_eq_true rfl) ⟨s1, (g_iconst (3 : Int32) d_Op_namesOnlyBefore_4 rfl (g_icmp_ne 19 d_Op_namesOnlyBefore_5 rfl (mIte (fun h => (g_aload_n 0 d_Op_namesOnlyBefore_8 rfl rfl ((g_getI 1 5 false d_Op_namesOnlyBefore_9 l_F_Op_25 rfl (Nat.le_of_ble_eq_true rfl) ⟨s1, (g_if_eq 19 d_Op_namesOnlyBefore_12 rfl (mIte (fun h => (g_iconst (0 : Int32) d_Op_namesOnlyBefore_19 rfl h)) (fun h => (g_iconst (1 : Int32) d_Op_namesOnlyBefore_15 rfl (g_goto 20 d_Op_namesOnlyBefore_16 rfl h))) h))⟩)))) (fun h => (g_iconst (0 : Int32) d_Op_namesOnlyBefore_19 rfl h)) h)))⟩)))
theorem e_Op_namesOnlyBefore {d : Nat} {a0 : Nat} {w : mW} {Q : Int32 → mW → Prop} (h : mT w a0 = 2 ∧ if (mI w a0 3) = (3 : Int32) then (if (mI w a0 5) = 0 then (mG (d + 1) m_Op_namesOnlyBefore (0, 0) 20 [vR a0, vN] [.int (0 : Int32)] w Q) else (mG (d + 1) m_Op_namesOnlyBefore (0, 0) 20 [vR a0, vN] [.int (1 : Int32)] w Q)) else (mG (d + 1) m_Op_namesOnlyBefore (0, 0) 20 [vR a0, vN] [.int (0 : Int32)] w Q)) : mC (d + 1) m_Op_namesOnlyBefore [.ref a0] w Q :=
  mG.call rfl rfl (Nat.le_of_ble_eq_true rfl) rfl (b_Op_namesOnlyBefore_0 h)
theorem b_Op_namesOnlyBefore_20 {d : Nat} {a0 : Nat} {y0 : Int32} {w : mW} {Q : Int32 → mW → Prop} (h : mT w a0 = 2 ∧ if (mI w a0 4) = 0 then (mG (d + 1) m_Op_namesOnlyBefore (0, 0) 39 [vR a0, vI y0] [] w Q) else (mC d m_Op_hasBefore [.ref a0, .int (mI w a0 4)] w (fun r1 w1 => if r1 = 0 then (Q (0 : Int32) w1) else (mG (d + 1) m_Op_namesOnlyBefore (0, 0) 39 [vR a0, vI y0] [] w1 Q)))) : mG (d + 1) m_Op_namesOnlyBefore (0, 0) 20 [vR a0, vN] [.int y0] w Q :=
  (g_istore_n 1 d_Op_namesOnlyBefore_20 rfl (Nat.le_of_ble_eq_true rfl) (g_aload_n 0 d_Op_namesOnlyBefore_21 rfl rfl (have s1 := h.1; have h := h.2; (g_getI 1 4 false d_Op_namesOnlyBefore_22 l_F_Op_22 rfl (Nat.le_of_ble_eq_true rfl) ⟨s1, (g_if_eq 39 d_Op_namesOnlyBefore_25 rfl (mIte (fun h => h) (fun h => (g_aload_n 0 d_Op_namesOnlyBefore_28 rfl rfl (g_aload_n 0 d_Op_namesOnlyBefore_29 rfl rfl ((g_getI 1 4 false d_Op_namesOnlyBefore_30 l_F_Op_22 rfl (Nat.le_of_ble_eq_true rfl) ⟨s1, ((g_callVi 1 1 [.int (mI w a0 4)] d_Op_namesOnlyBefore_33 l_V_Op_44 (Nat.le_of_ble_eq_true rfl) ⟨_, rfl⟩ rfl rfl (Nat.le_of_ble_eq_true rfl) ⟨(Nat.le_of_ble_eq_true rfl), (Nat.le_of_ble_eq_true rfl)⟩ (0, 0) rfl ⟨s1, mC.mono (fun r1 w1 h => (g_if_eq 58 d_Op_namesOnlyBefore_36 rfl (mIte (fun h => (g_iconst (0 : Int32) d_Op_namesOnlyBefore_58 rfl (g_zret rfl d_Op_namesOnlyBefore_59 ⟨(Nat.le_of_ble_eq_true rfl), (Nat.le_of_ble_eq_true rfl)⟩ ⟨by decide, h⟩))) (fun h => h) h))) h⟩))⟩))))) h))⟩))))
theorem b_Op_namesOnlyBefore_39 {d : Nat} {a0 : Nat} {x1 : Int32} {w : mW} {Q : Int32 → mW → Prop} (h : if x1 = 0 then (Q (1 : Int32) w) else (mT w a0 = 2 ∧ mC d m_Op_hasBefore [.ref a0, .int (mI w a0 5)] w (fun r1 w1 => if r1 = 0 then (Q (0 : Int32) w1) else (Q (1 : Int32) w1)))) : mG (d + 1) m_Op_namesOnlyBefore (0, 0) 39 [vR a0, vI x1] [] w Q :=
  (g_iload_n 1 d_Op_namesOnlyBefore_39 rfl rfl (g_if_eq 54 d_Op_namesOnlyBefore_40 rfl (mIte (fun h => (g_iconst (1 : Int32) d_Op_namesOnlyBefore_54 rfl (g_goto 59 d_Op_namesOnlyBefore_55 rfl (g_zret rfl d_Op_namesOnlyBefore_59 ⟨(Nat.le_of_ble_eq_true rfl), (Nat.le_of_ble_eq_true rfl)⟩ ⟨by decide, h⟩)))) (fun h => (g_aload_n 0 d_Op_namesOnlyBefore_43 rfl rfl (g_aload_n 0 d_Op_namesOnlyBefore_44 rfl rfl (have s1 := h.1; have h := h.2; (g_getI 1 5 false d_Op_namesOnlyBefore_45 l_F_Op_25 rfl (Nat.le_of_ble_eq_true rfl) ⟨s1, ((g_callVi 1 1 [.int (mI w a0 5)] d_Op_namesOnlyBefore_48 l_V_Op_44 (Nat.le_of_ble_eq_true rfl) ⟨_, rfl⟩ rfl rfl (Nat.le_of_ble_eq_true rfl) ⟨(Nat.le_of_ble_eq_true rfl), (Nat.le_of_ble_eq_true rfl)⟩ (0, 0) rfl ⟨s1, mC.mono (fun r1 w1 h => (g_if_eq 58 d_Op_namesOnlyBefore_51 rfl (mIte (fun h => (g_iconst (0 : Int32) d_Op_namesOnlyBefore_58 rfl (g_zret rfl d_Op_namesOnlyBefore_59 ⟨(Nat.le_of_ble_eq_true rfl), (Nat.le_of_ble_eq_true rfl)⟩ ⟨by decide, h⟩))) (fun h => (g_iconst (1 : Int32) d_Op_namesOnlyBefore_54 rfl (g_goto 59 d_Op_namesOnlyBefore_55 rfl (g_zret rfl d_Op_namesOnlyBefore_59 ⟨(Nat.le_of_ble_eq_true rfl), (Nat.le_of_ble_eq_true rfl)⟩ ⟨by decide, h⟩)))) h))) h⟩))⟩))))) h)))
theorem b_Op_isBehindBefore_0 {d : Nat} {a0 : Nat} {w : mW} {Q : Int32 → mW → Prop} (h : mG d m_Op_isBehindBefore (0, 0) 2 [vR a0, vI (0 : Int32)] [] w Q) : mG d m_Op_isBehindBefore (0, 0) 0 [vR a0, vN] [] w Q :=
  (g_iconst (0 : Int32) d_Op_isBehindBefore_0 rfl (g_istore_n 1 d_Op_isBehindBefore_1 rfl (Nat.le_of_ble_eq_true rfl) h))
theorem e_Op_isBehindBefore {d : Nat} {a0 : Nat} {w : mW} {Q : Int32 → mW → Prop} (h : mG d m_Op_isBehindBefore (0, 0) 2 [vR a0, vI (0 : Int32)] [] w Q) : mC d m_Op_isBehindBefore [.ref a0] w Q :=
  mG.call rfl rfl (Nat.le_of_ble_eq_true rfl) rfl (b_Op_isBehindBefore_0 h)
theorem b_Op_isBehindBefore_2 {d : Nat} {a0 : Nat} {x1 : Int32} {w : mW} {Q : Int32 → mW → Prop} (h : mT w a0 = 2 ∧ if (mI w a0 1) ≤ x1 then (Q (1 : Int32) w) else (mP w a0 0 ≠ 0 ∧ mT w (mP w a0 0) = 20 ∧ vp_in x1 (mL w (mP w a0 0)) ∧ if (mI w (mP w a0 0) x1.toNatClampNeg) < (mI w a0 2) then (mG d m_Op_isBehindBefore (0, 0) 2 [vR a0, vI (x1 + (1 : Int32))] [] w Q) else (Q (0 : Int32) w))) : mG d m_Op_isBehindBefore (0, 0) 2 [vR a0, vI x1] [] w Q :=
  (g_iload_n 1 d_Op_isBehindBefore_2 rfl rfl (g_aload_n 0 d_Op_isBehindBefore_3 rfl rfl (have s1 := h.1; have h := h.2; (g_getI 1 1 false d_Op_isBehindBefore_4 l_F_Op_31 rfl (Nat.le_of_ble_eq_true rfl) ⟨s1, (g_icmp_ge 31 d_Op_isBehindBefore_7 rfl (mIte (fun h => (g_iconst (1 : Int32) d_Op_isBehindBefore_31 rfl (g_zret rfl d_Op_isBehindBefore_32 ⟨(Nat.le_of_ble_eq_true rfl), (Nat.le_of_ble_eq_true rfl)⟩ ⟨by decide, h⟩))) (fun h => (g_aload_n 0 d_Op_isBehindBefore_10 rfl rfl (have s2 := h.1; have h := h.2; (g_getP 1 0 true d_Op_isBehindBefore_11 l_F_Op_9 rfl (Nat.le_of_ble_eq_true rfl) ⟨s1, s2, (g_iload_n 1 d_Op_isBehindBefore_14 rfl rfl (have s3 := h.1; have h := h.2; have s4 := h.1; have h := h.2; (g_iaload d_Op_isBehindBefore_15 ⟨s3, s4, (g_aload_n 0 d_Op_isBehindBefore_16 rfl rfl ((g_getI 1 2 false d_Op_isBehindBefore_17 l_F_Op_15 rfl (Nat.le_of_ble_eq_true rfl) ⟨s1, (g_icmp_lt 25 d_Op_isBehindBefore_20 rfl (mIte (fun h => (g_iinc 1 (1 : Int32) d_Op_isBehindBefore_25 rfl rfl (Nat.le_of_ble_eq_true rfl) (g_goto 2 d_Op_isBehindBefore_28 rfl h))) (fun h => (g_iconst (0 : Int32) d_Op_isBehindBefore_23 rfl (g_zret rfl d_Op_isBehindBefore_24 ⟨(Nat.le_of_ble_eq_true rfl), (Nat.le_of_ble_eq_true rfl)⟩ ⟨by decide, h⟩))) h))⟩)))⟩)))⟩)))) h))⟩))))
theorem b_Op_hasSoundParts_0 {d : Nat} {a0 : Nat} {w : mW} {Q : Int32 → mW → Prop} (h : mT w a0 = 2 ∧ mC (d + 1) m_Op_writesToMap [.ref a0] w (fun r1 w1 => if r1 = 0 then (mT w1 a0 = 2 ∧ if (mI w1 a0 3) = (3 : Int32) then (mC (d + 1) m_Do_isId [.int (mI w1 a0 4)] w1 (fun r4 w4 => if r4 = 0 then (Q (0 : Int32) w4) else (mT w4 a0 = 2 ∧ if (mI w4 a0 5) = 0 then (mG (d + 2) m_Op_hasSoundParts (0, 0) 82 [vR a0] [] w4 Q) else (mC (d + 1) m_Do_isId [.int (mI w4 a0 5)] w4 (fun r5 w5 => if r5 = 0 then (Q (0 : Int32) w5) else (mG (d + 2) m_Op_hasSoundParts (0, 0) 82 [vR a0] [] w5 Q)))))) else (if (mI w1 a0 3) = (4 : Int32) then (mC (d + 1) m_Do_isId [.int (mI w1 a0 4)] w1 (fun r2 w2 => if r2 = 0 then (Q (0 : Int32) w2) else (mT w2 a0 = 2 ∧ if (mI w2 a0 5) = 0 then (mC (d + 1) m_Op_hasSoundValue [.ref a0] w2 (fun r3 w3 => if r3 = 0 then (Q (0 : Int32) w3) else (Q (1 : Int32) w3))) else (Q (0 : Int32) w2)))) else (Q (0 : Int32) w1))) else (mT w1 a0 = 2 ∧ if (mI w1 a0 4) = 0 then (mG (d + 2) m_Op_hasSoundParts (0, 0) 24 [vR a0] [] w1 Q) else (mC (d + 1) m_Do_isId [.int (mI w1 a0 4)] w1 (fun r6 w6 => if r6 = 0 then (Q (0 : Int32) w6) else (mG (d + 2) m_Op_hasSoundParts (0, 0) 24 [vR a0] [] w6 Q)))))) : mG (d + 2) m_Op_hasSoundParts (0, 0) 0 [vR a0] [] w Q :=
  (g_aload_n 0 d_Op_hasSoundParts_0 rfl rfl (have s1 := h.1; have h := h.2; (g_callVi 1 0 [] d_Op_hasSoundParts_1 l_V_Op_48 (Nat.le_of_ble_eq_true rfl) ⟨_, rfl⟩ rfl rfl (Nat.le_of_ble_eq_true rfl) ⟨(Nat.le_of_ble_eq_true rfl), (Nat.le_of_ble_eq_true rfl)⟩ (0, 0) rfl ⟨s1, mC.mono (fun r1 w1 h => (g_if_eq 47 d_Op_hasSoundParts_4 rfl (mIte (fun h => (g_aload_n 0 d_Op_hasSoundParts_47 rfl rfl (have s2 := h.1; have h := h.2; (g_getI 1 3 false d_Op_hasSoundParts_48 l_F_Op_19 rfl (Nat.le_of_ble_eq_true rfl) ⟨s2, (g_iconst (3 : Int32) d_Op_hasSoundParts_51 rfl (g_icmp_ne 95 d_Op_hasSoundParts_52 rfl (mIte (fun h => (g_aload_n 0 d_Op_hasSoundParts_55 rfl rfl ((g_getI 1 4 false d_Op_hasSoundParts_56 l_F_Op_22 rfl (Nat.le_of_ble_eq_true rfl) ⟨s2, (g_callSNi 1 "ReplicaDocument" [.int (mI w1 a0 4)] d_Op_hasSoundParts_59 l_SN_Op_52 ⟨_, rfl⟩ rfl rfl (Nat.le_of_ble_eq_true rfl) ⟨(Nat.le_of_ble_eq_true rfl), (Nat.le_of_ble_eq_true rfl)⟩ (0, 0) rfl (mC.mono (fun r4 w4 h => (g_if_eq 93 d_Op_hasSoundParts_62 rfl (mIte (fun h => (g_iconst (0 : Int32) d_Op_hasSoundParts_93 rfl (g_zret rfl d_Op_hasSoundParts_94 ⟨(Nat.le_of_ble_eq_true rfl), (Nat.le_of_ble_eq_true rfl)⟩ ⟨by decide, h⟩))) (fun h => (g_aload_n 0 d_Op_hasSoundParts_65 rfl rfl (have s4 := h.1; have h := h.2; (g_getI 1 5 false d_Op_hasSoundParts_66 l_F_Op_25 rfl (Nat.le_of_ble_eq_true rfl) ⟨s4, (g_if_eq 82 d_Op_hasSoundParts_69 rfl (mIte (fun h => h) (fun h => (g_aload_n 0 d_Op_hasSoundParts_72 rfl rfl ((g_getI 1 5 false d_Op_hasSoundParts_73 l_F_Op_25 rfl (Nat.le_of_ble_eq_true rfl) ⟨s4, (g_callSNi 1 "ReplicaDocument" [.int (mI w4 a0 5)] d_Op_hasSoundParts_76 l_SN_Op_52 ⟨_, rfl⟩ rfl rfl (Nat.le_of_ble_eq_true rfl) ⟨(Nat.le_of_ble_eq_true rfl), (Nat.le_of_ble_eq_true rfl)⟩ (0, 0) rfl (mC.mono (fun r5 w5 h => (g_if_eq 93 d_Op_hasSoundParts_79 rfl (mIte (fun h => (g_iconst (0 : Int32) d_Op_hasSoundParts_93 rfl (g_zret rfl d_Op_hasSoundParts_94 ⟨(Nat.le_of_ble_eq_true rfl), (Nat.le_of_ble_eq_true rfl)⟩ ⟨by decide, h⟩))) (fun h => h) h))) h))⟩)))) h))⟩)))) h))) h))⟩)))) (fun h => (g_aload_n 0 d_Op_hasSoundParts_95 rfl rfl ((g_getI 1 3 false d_Op_hasSoundParts_96 l_F_Op_19 rfl (Nat.le_of_ble_eq_true rfl) ⟨s2, (g_iconst (4 : Int32) d_Op_hasSoundParts_99 rfl (g_icmp_ne 131 d_Op_hasSoundParts_100 rfl (mIte (fun h => (g_aload_n 0 d_Op_hasSoundParts_103 rfl rfl ((g_getI 1 4 false d_Op_hasSoundParts_104 l_F_Op_22 rfl (Nat.le_of_ble_eq_true rfl) ⟨s2, (g_callSNi 1 "ReplicaDocument" [.int (mI w1 a0 4)] d_Op_hasSoundParts_107 l_SN_Op_52 ⟨_, rfl⟩ rfl rfl (Nat.le_of_ble_eq_true rfl) ⟨(Nat.le_of_ble_eq_true rfl), (Nat.le_of_ble_eq_true rfl)⟩ (0, 0) rfl (mC.mono (fun r2 w2 h => (g_if_eq 131 d_Op_hasSoundParts_110 rfl (mIte (fun h => (g_iconst (0 : Int32) d_Op_hasSoundParts_131 rfl (g_zret rfl d_Op_hasSoundParts_132 ⟨(Nat.le_of_ble_eq_true rfl), (Nat.le_of_ble_eq_true rfl)⟩ ⟨by decide, h⟩))) (fun h => (g_aload_n 0 d_Op_hasSoundParts_113 rfl rfl (have s3 := h.1; have h := h.2; (g_getI 1 5 false d_Op_hasSoundParts_114 l_F_Op_25 rfl (Nat.le_of_ble_eq_true rfl) ⟨s3, (g_if_ne 131 d_Op_hasSoundParts_117 rfl (mIte (fun h => (g_aload_n 0 d_Op_hasSoundParts_120 rfl rfl ((g_callVi 1 0 [] d_Op_hasSoundParts_121 l_V_Op_58 (Nat.le_of_ble_eq_true rfl) ⟨_, rfl⟩ rfl rfl (Nat.le_of_ble_eq_true rfl) ⟨(Nat.le_of_ble_eq_true rfl), (Nat.le_of_ble_eq_true rfl)⟩ (0, 0) rfl ⟨s3, mC.mono (fun r3 w3 h => (g_if_eq 131 d_Op_hasSoundParts_124 rfl (mIte (fun h => (g_iconst (0 : Int32) d_Op_hasSoundParts_131 rfl (g_zret rfl d_Op_hasSoundParts_132 ⟨(Nat.le_of_ble_eq_true rfl), (Nat.le_of_ble_eq_true rfl)⟩ ⟨by decide, h⟩))) (fun h => (g_iconst (1 : Int32) d_Op_hasSoundParts_127 rfl (g_goto 132 d_Op_hasSoundParts_128 rfl (g_zret rfl d_Op_hasSoundParts_132 ⟨(Nat.le_of_ble_eq_true rfl), (Nat.le_of_ble_eq_true rfl)⟩ ⟨by decide, h⟩)))) h))) h⟩)))) (fun h => (g_iconst (0 : Int32) d_Op_hasSoundParts_131 rfl (g_zret rfl d_Op_hasSoundParts_132 ⟨(Nat.le_of_ble_eq_true rfl), (Nat.le_of_ble_eq_true rfl)⟩ ⟨by decide, h⟩))) h))⟩)))) h))) h))⟩)))) (fun h => (g_iconst (0 : Int32) d_Op_hasSoundParts_131 rfl (g_zret rfl d_Op_hasSoundParts_132 ⟨(Nat.le_of_ble_eq_true rfl), (Nat.le_of_ble_eq_true rfl)⟩ ⟨by decide, h⟩))) h)))⟩)))) h)))⟩)))) (fun h => (g_aload_n 0 d_Op_hasSoundParts_7 rfl rfl (have s5 := h.1; have h := h.2; (g_getI 1 4 false d_Op_hasSoundParts_8 l_F_Op_22 rfl (Nat.le_of_ble_eq_true rfl) ⟨s5, (g_if_eq 24 d_Op_hasSoundParts_11 rfl (mIte (fun h => h) (fun h => (g_aload_n 0 d_Op_hasSoundParts_14 rfl rfl ((g_getI 1 4 false d_Op_hasSoundParts_15 l_F_Op_22 rfl (Nat.le_of_ble_eq_true rfl) ⟨s5, (g_callSNi 1 "ReplicaDocument" [.int (mI w1 a0 4)] d_Op_hasSoundParts_18 l_SN_Op_52 ⟨_, rfl⟩ rfl rfl (Nat.le_of_ble_eq_true rfl) ⟨(Nat.le_of_ble_eq_true rfl), (Nat.le_of_ble_eq_true rfl)⟩ (0, 0) rfl (mC.mono (fun r6 w6 h => (g_if_eq 45 d_Op_hasSoundParts_21 rfl (mIte (fun h => (g_iconst (0 : Int32) d_Op_hasSoundParts_45 rfl (g_zret rfl d_Op_hasSoundParts_46 ⟨(Nat.le_of_ble_eq_true rfl), (Nat.le_of_ble_eq_true rfl)⟩ ⟨by decide, h⟩))) (fun h => h) h))) h))⟩)))) h))⟩)))) h))) h⟩)))
theorem e_Op_hasSoundParts {d : Nat} {a0 : Nat} {w : mW} {Q : Int32 → mW → Prop} (h : mT w a0 = 2 ∧ mC (d + 1) m_Op_writesToMap [.ref a0] w (fun r1 w1 => if r1 = 0 then (mT w1 a0 = 2 ∧ if (mI w1 a0 3) = (3 : Int32) then (mC (d + 1) m_Do_isId [.int (mI w1 a0 4)] w1 (fun r4 w4 => if r4 = 0 then (Q (0 : Int32) w4) else (mT w4 a0 = 2 ∧ if (mI w4 a0 5) = 0 then (mG (d + 2) m_Op_hasSoundParts (0, 0) 82 [vR a0] [] w4 Q) else (mC (d + 1) m_Do_isId [.int (mI w4 a0 5)] w4 (fun r5 w5 => if r5 = 0 then (Q (0 : Int32) w5) else (mG (d + 2) m_Op_hasSoundParts (0, 0) 82 [vR a0] [] w5 Q)))))) else (if (mI w1 a0 3) = (4 : Int32) then (mC (d + 1) m_Do_isId [.int (mI w1 a0 4)] w1 (fun r2 w2 => if r2 = 0 then (Q (0 : Int32) w2) else (mT w2 a0 = 2 ∧ if (mI w2 a0 5) = 0 then (mC (d + 1) m_Op_hasSoundValue [.ref a0] w2 (fun r3 w3 => if r3 = 0 then (Q (0 : Int32) w3) else (Q (1 : Int32) w3))) else (Q (0 : Int32) w2)))) else (Q (0 : Int32) w1))) else (mT w1 a0 = 2 ∧ if (mI w1 a0 4) = 0 then (mG (d + 2) m_Op_hasSoundParts (0, 0) 24 [vR a0] [] w1 Q) else (mC (d + 1) m_Do_isId [.int (mI w1 a0 4)] w1 (fun r6 w6 => if r6 = 0 then (Q (0 : Int32) w6) else (mG (d + 2) m_Op_hasSoundParts (0, 0) 24 [vR a0] [] w6 Q)))))) : mC (d + 2) m_Op_hasSoundParts [.ref a0] w Q :=
  mG.call rfl rfl (Nat.le_of_ble_eq_true rfl) rfl (b_Op_hasSoundParts_0 h)
theorem b_Op_hasSoundParts_24 {d : Nat} {a0 : Nat} {w : mW} {Q : Int32 → mW → Prop} (h : mT w a0 = 2 ∧ mC (d + 1) m_Do_isKey [.int (mI w a0 5)] w (fun r1 w1 => if r1 = 0 then (Q (0 : Int32) w1) else (mT w1 a0 = 2 ∧ mC (d + 1) m_Op_hasSoundValue [.ref a0] w1 (fun r2 w2 => if r2 = 0 then (Q (0 : Int32) w2) else (Q (1 : Int32) w2))))) : mG (d + 2) m_Op_hasSoundParts (0, 0) 24 [vR a0] [] w Q :=
  (g_aload_n 0 d_Op_hasSoundParts_24 rfl rfl (have s1 := h.1; have h := h.2; (g_getI 1 5 false d_Op_hasSoundParts_25 l_F_Op_25 rfl (Nat.le_of_ble_eq_true rfl) ⟨s1, (g_callSNi 1 "ReplicaDocument" [.int (mI w a0 5)] d_Op_hasSoundParts_28 l_SN_Op_55 ⟨_, rfl⟩ rfl rfl (Nat.le_of_ble_eq_true rfl) ⟨(Nat.le_of_ble_eq_true rfl), (Nat.le_of_ble_eq_true rfl)⟩ (0, 0) rfl (mC.mono (fun r1 w1 h => (g_if_eq 45 d_Op_hasSoundParts_31 rfl (mIte (fun h => (g_iconst (0 : Int32) d_Op_hasSoundParts_45 rfl (g_zret rfl d_Op_hasSoundParts_46 ⟨(Nat.le_of_ble_eq_true rfl), (Nat.le_of_ble_eq_true rfl)⟩ ⟨by decide, h⟩))) (fun h => (g_aload_n 0 d_Op_hasSoundParts_34 rfl rfl (have s2 := h.1; have h := h.2; (g_callVi 1 0 [] d_Op_hasSoundParts_35 l_V_Op_58 (Nat.le_of_ble_eq_true rfl) ⟨_, rfl⟩ rfl rfl (Nat.le_of_ble_eq_true rfl) ⟨(Nat.le_of_ble_eq_true rfl), (Nat.le_of_ble_eq_true rfl)⟩ (0, 0) rfl ⟨s2, mC.mono (fun r2 w2 h => (g_if_eq 45 d_Op_hasSoundParts_38 rfl (mIte (fun h => (g_iconst (0 : Int32) d_Op_hasSoundParts_45 rfl (g_zret rfl d_Op_hasSoundParts_46 ⟨(Nat.le_of_ble_eq_true rfl), (Nat.le_of_ble_eq_true rfl)⟩ ⟨by decide, h⟩))) (fun h => (g_iconst (1 : Int32) d_Op_hasSoundParts_41 rfl (g_goto 46 d_Op_hasSoundParts_42 rfl (g_zret rfl d_Op_hasSoundParts_46 ⟨(Nat.le_of_ble_eq_true rfl), (Nat.le_of_ble_eq_true rfl)⟩ ⟨by decide, h⟩)))) h))) h⟩)))) h))) h))⟩)))
theorem b_Op_hasSoundParts_82 {d : Nat} {a0 : Nat} {w : mW} {Q : Int32 → mW → Prop} (h : mT w a0 = 2 ∧ mC (d + 1) m_Op_hasSoundValue [.ref a0] w (fun r1 w1 => if r1 = 0 then (Q (0 : Int32) w1) else (Q (1 : Int32) w1))) : mG (d + 2) m_Op_hasSoundParts (0, 0) 82 [vR a0] [] w Q :=
  (g_aload_n 0 d_Op_hasSoundParts_82 rfl rfl (have s1 := h.1; have h := h.2; (g_callVi 1 0 [] d_Op_hasSoundParts_83 l_V_Op_58 (Nat.le_of_ble_eq_true rfl) ⟨_, rfl⟩ rfl rfl (Nat.le_of_ble_eq_true rfl) ⟨(Nat.le_of_ble_eq_true rfl), (Nat.le_of_ble_eq_true rfl)⟩ (0, 0) rfl ⟨s1, mC.mono (fun r1 w1 h => (g_if_eq 93 d_Op_hasSoundParts_86 rfl (mIte (fun h => (g_iconst (0 : Int32) d_Op_hasSoundParts_93 rfl (g_zret rfl d_Op_hasSoundParts_94 ⟨(Nat.le_of_ble_eq_true rfl), (Nat.le_of_ble_eq_true rfl)⟩ ⟨by decide, h⟩))) (fun h => (g_iconst (1 : Int32) d_Op_hasSoundParts_89 rfl (g_goto 94 d_Op_hasSoundParts_90 rfl (g_zret rfl d_Op_hasSoundParts_94 ⟨(Nat.le_of_ble_eq_true rfl), (Nat.le_of_ble_eq_true rfl)⟩ ⟨by decide, h⟩)))) h))) h⟩)))
theorem b_Op_hasSoundValue_0 {d : Nat} {a0 : Nat} {w : mW} {Q : Int32 → mW → Prop} (h : mT w a0 = 2 ∧ if (mI w a0 3) = 0 then (mG d m_Op_hasSoundValue (0, 0) 21 [vR a0, vN] [.int (99 : Int32)] w Q) else (if (mI w a0 3) = (3 : Int32) then (mG d m_Op_hasSoundValue (0, 0) 21 [vR a0, vN] [.int (99 : Int32)] w Q) else (mG d m_Op_hasSoundValue (0, 0) 21 [vR a0, vN] [.int (0 : Int32)] w Q))) : mG d m_Op_hasSoundValue (0, 0) 0 [vR a0, vN] [] w Q :=
  (g_aload_n 0 d_Op_hasSoundValue_0 rfl rfl (have s1 := h.1; have h := h.2; (g_getI 1 3 false d_Op_hasSoundValue_1 l_F_Op_19 rfl (Nat.le_of_ble_eq_true rfl) ⟨s1, (g_if_eq 15 d_Op_hasSoundValue_4 rfl (mIte (fun h => (g_bipush (99 : Int32) d_Op_hasSoundValue_15 rfl (g_goto 21 d_Op_hasSoundValue_17 rfl h))) (fun h => (g_aload_n 0 d_Op_hasSoundValue_7 rfl rfl ((g_getI 1 3 false d_Op_hasSoundValue_8 l_F_Op_19 rfl (Nat.le_of_ble_eq_true rfl) ⟨s1, (g_iconst (3 : Int32) d_Op_hasSoundValue_11 rfl (g_icmp_ne 20 d_Op_hasSoundValue_12 rfl (mIte (fun h => (g_bipush (99 : Int32) d_Op_hasSoundValue_15 rfl (g_goto 21 d_Op_hasSoundValue_17 rfl h))) (fun h => (g_iconst (0 : Int32) d_Op_hasSoundValue_20 rfl h)) h)))⟩)))) h))⟩)))
theorem e_Op_hasSoundValue {d : Nat} {a0 : Nat} {w : mW} {Q : Int32 → mW → Prop} (h : mT w a0 = 2 ∧ if (mI w a0 3) = 0 then (mG d m_Op_hasSoundValue (0, 0) 21 [vR a0, vN] [.int (99 : Int32)] w Q) else (if (mI w a0 3) = (3 : Int32) then (mG d m_Op_hasSoundValue (0, 0) 21 [vR a0, vN] [.int (99 : Int32)] w Q) else (mG d m_Op_hasSoundValue (0, 0) 21 [vR a0, vN] [.int (0 : Int32)] w Q))) : mC d m_Op_hasSoundValue [.ref a0] w Q :=
  mG.call rfl rfl (Nat.le_of_ble_eq_true rfl) rfl (b_Op_hasSoundValue_0 h)
theorem b_Op_hasSoundValue_21 {d : Nat} {a0 : Nat} {y0 : Int32} {w : mW} {Q : Int32 → mW → Prop} (h : mT w a0 = 2 ∧ if (mI w a0 6) < 0 then (Q (0 : Int32) w) else (if y0 < (mI w a0 6) then (Q (0 : Int32) w) else (Q (1 : Int32) w))) : mG d m_Op_hasSoundValue (0, 0) 21 [vR a0, vN] [.int y0] w Q :=
  (g_istore_n 1 d_Op_hasSoundValue_21 rfl (Nat.le_of_ble_eq_true rfl) (g_aload_n 0 d_Op_hasSoundValue_22 rfl rfl (have s1 := h.1; have h := h.2; (g_getI 1 6 false d_Op_hasSoundValue_23 l_F_Op_28 rfl (Nat.le_of_ble_eq_true rfl) ⟨s1, (g_if_lt 41 d_Op_hasSoundValue_26 rfl (mIte (fun h => (g_iconst (0 : Int32) d_Op_hasSoundValue_41 rfl (g_zret rfl d_Op_hasSoundValue_42 ⟨(Nat.le_of_ble_eq_true rfl), (Nat.le_of_ble_eq_true rfl)⟩ ⟨by decide, h⟩))) (fun h => (g_aload_n 0 d_Op_hasSoundValue_29 rfl rfl ((g_getI 1 6 false d_Op_hasSoundValue_30 l_F_Op_28 rfl (Nat.le_of_ble_eq_true rfl) ⟨s1, (g_iload_n 1 d_Op_hasSoundValue_33 rfl rfl (g_icmp_gt 41 d_Op_hasSoundValue_34 rfl (mIte (fun h => (g_iconst (0 : Int32) d_Op_hasSoundValue_41 rfl (g_zret rfl d_Op_hasSoundValue_42 ⟨(Nat.le_of_ble_eq_true rfl), (Nat.le_of_ble_eq_true rfl)⟩ ⟨by decide, h⟩))) (fun h => (g_iconst (1 : Int32) d_Op_hasSoundValue_37 rfl (g_goto 42 d_Op_hasSoundValue_38 rfl (g_zret rfl d_Op_hasSoundValue_42 ⟨(Nat.le_of_ble_eq_true rfl), (Nat.le_of_ble_eq_true rfl)⟩ ⟨by decide, h⟩)))) h)))⟩)))) h))⟩))))
theorem b_Op_hasSameBytesAs_0 {d : Nat} {a0 : Nat} {a1 : Nat} {w : mW} {Q : Int32 → mW → Prop} (h : mT w a0 = 2 ∧ mT w a1 = 2 ∧ if (mI w a0 2) = (mI w a1 2) then (if (mI w a0 3) = (mI w a1 3) then (if (mI w a0 4) = (mI w a1 4) then (if (mI w a0 5) = (mI w a1 5) then (if (mI w a0 6) = (mI w a1 6) then (if (mI w a0 1) = (mI w a1 1) then (mG d m_Op_hasSameBytesAs (0, 0) 70 [vR a0, vR a1, vI (0 : Int32)] [] w Q) else (Q (0 : Int32) w)) else (Q (0 : Int32) w)) else (Q (0 : Int32) w)) else (Q (0 : Int32) w)) else (Q (0 : Int32) w)) else (Q (0 : Int32) w)) : mG d m_Op_hasSameBytesAs (0, 0) 0 [vR a0, vR a1, vN] [] w Q :=
  (g_aload_n 0 d_Op_hasSameBytesAs_0 rfl rfl (have s1 := h.1; have h := h.2; (g_getI 1 2 false d_Op_hasSameBytesAs_1 l_F_Op_15 rfl (Nat.le_of_ble_eq_true rfl) ⟨s1, (g_aload_n 1 d_Op_hasSameBytesAs_4 rfl rfl (have s2 := h.1; have h := h.2; (g_getI 1 2 false d_Op_hasSameBytesAs_5 l_F_Op_15 rfl (Nat.le_of_ble_eq_true rfl) ⟨s2, (g_icmp_ne 66 d_Op_hasSameBytesAs_8 rfl (mIte (fun h => (g_aload_n 0 d_Op_hasSameBytesAs_11 rfl rfl ((g_getI 1 3 false d_Op_hasSameBytesAs_12 l_F_Op_19 rfl (Nat.le_of_ble_eq_true rfl) ⟨s1, (g_aload_n 1 d_Op_hasSameBytesAs_15 rfl rfl ((g_getI 1 3 false d_Op_hasSameBytesAs_16 l_F_Op_19 rfl (Nat.le_of_ble_eq_true rfl) ⟨s2, (g_icmp_ne 66 d_Op_hasSameBytesAs_19 rfl (mIte (fun h => (g_aload_n 0 d_Op_hasSameBytesAs_22 rfl rfl ((g_getI 1 4 false d_Op_hasSameBytesAs_23 l_F_Op_22 rfl (Nat.le_of_ble_eq_true rfl) ⟨s1, (g_aload_n 1 d_Op_hasSameBytesAs_26 rfl rfl ((g_getI 1 4 false d_Op_hasSameBytesAs_27 l_F_Op_22 rfl (Nat.le_of_ble_eq_true rfl) ⟨s2, (g_icmp_ne 66 d_Op_hasSameBytesAs_30 rfl (mIte (fun h => (g_aload_n 0 d_Op_hasSameBytesAs_33 rfl rfl ((g_getI 1 5 false d_Op_hasSameBytesAs_34 l_F_Op_25 rfl (Nat.le_of_ble_eq_true rfl) ⟨s1, (g_aload_n 1 d_Op_hasSameBytesAs_37 rfl rfl ((g_getI 1 5 false d_Op_hasSameBytesAs_38 l_F_Op_25 rfl (Nat.le_of_ble_eq_true rfl) ⟨s2, (g_icmp_ne 66 d_Op_hasSameBytesAs_41 rfl (mIte (fun h => (g_aload_n 0 d_Op_hasSameBytesAs_44 rfl rfl ((g_getI 1 6 false d_Op_hasSameBytesAs_45 l_F_Op_28 rfl (Nat.le_of_ble_eq_true rfl) ⟨s1, (g_aload_n 1 d_Op_hasSameBytesAs_48 rfl rfl ((g_getI 1 6 false d_Op_hasSameBytesAs_49 l_F_Op_28 rfl (Nat.le_of_ble_eq_true rfl) ⟨s2, (g_icmp_ne 66 d_Op_hasSameBytesAs_52 rfl (mIte (fun h => (g_aload_n 0 d_Op_hasSameBytesAs_55 rfl rfl ((g_getI 1 1 false d_Op_hasSameBytesAs_56 l_F_Op_31 rfl (Nat.le_of_ble_eq_true rfl) ⟨s1, (g_aload_n 1 d_Op_hasSameBytesAs_59 rfl rfl ((g_getI 1 1 false d_Op_hasSameBytesAs_60 l_F_Op_31 rfl (Nat.le_of_ble_eq_true rfl) ⟨s2, (g_icmp_eq 68 d_Op_hasSameBytesAs_63 rfl (mIte (fun h => (g_iconst (0 : Int32) d_Op_hasSameBytesAs_68 rfl (g_istore_n 2 d_Op_hasSameBytesAs_69 rfl (Nat.le_of_ble_eq_true rfl) h))) (fun h => (g_iconst (0 : Int32) d_Op_hasSameBytesAs_66 rfl (g_zret rfl d_Op_hasSameBytesAs_67 ⟨(Nat.le_of_ble_eq_true rfl), (Nat.le_of_ble_eq_true rfl)⟩ ⟨by decide, h⟩))) h))⟩)))⟩)))) (fun h => (g_iconst (0 : Int32) d_Op_hasSameBytesAs_66 rfl (g_zret rfl d_Op_hasSameBytesAs_67 ⟨(Nat.le_of_ble_eq_true rfl), (Nat.le_of_ble_eq_true rfl)⟩ ⟨by decide, h⟩))) h))⟩)))⟩)))) (fun h => (g_iconst (0 : Int32) d_Op_hasSameBytesAs_66 rfl (g_zret rfl d_Op_hasSameBytesAs_67 ⟨(Nat.le_of_ble_eq_true rfl), (Nat.le_of_ble_eq_true rfl)⟩ ⟨by decide, h⟩))) h))⟩)))⟩)))) (fun h => (g_iconst (0 : Int32) d_Op_hasSameBytesAs_66 rfl (g_zret rfl d_Op_hasSameBytesAs_67 ⟨(Nat.le_of_ble_eq_true rfl), (Nat.le_of_ble_eq_true rfl)⟩ ⟨by decide, h⟩))) h))⟩)))⟩)))) (fun h => (g_iconst (0 : Int32) d_Op_hasSameBytesAs_66 rfl (g_zret rfl d_Op_hasSameBytesAs_67 ⟨(Nat.le_of_ble_eq_true rfl), (Nat.le_of_ble_eq_true rfl)⟩ ⟨by decide, h⟩))) h))⟩)))⟩)))) (fun h => (g_iconst (0 : Int32) d_Op_hasSameBytesAs_66 rfl (g_zret rfl d_Op_hasSameBytesAs_67 ⟨(Nat.le_of_ble_eq_true rfl), (Nat.le_of_ble_eq_true rfl)⟩ ⟨by decide, h⟩))) h))⟩)))⟩)))
theorem e_Op_hasSameBytesAs {d : Nat} {a0 : Nat} {a1 : Nat} {w : mW} {Q : Int32 → mW → Prop} (h : mT w a0 = 2 ∧ mT w a1 = 2 ∧ if (mI w a0 2) = (mI w a1 2) then (if (mI w a0 3) = (mI w a1 3) then (if (mI w a0 4) = (mI w a1 4) then (if (mI w a0 5) = (mI w a1 5) then (if (mI w a0 6) = (mI w a1 6) then (if (mI w a0 1) = (mI w a1 1) then (mG d m_Op_hasSameBytesAs (0, 0) 70 [vR a0, vR a1, vI (0 : Int32)] [] w Q) else (Q (0 : Int32) w)) else (Q (0 : Int32) w)) else (Q (0 : Int32) w)) else (Q (0 : Int32) w)) else (Q (0 : Int32) w)) else (Q (0 : Int32) w)) : mC d m_Op_hasSameBytesAs [.ref a0, .ref a1] w Q :=
  mG.call rfl rfl (Nat.le_of_ble_eq_true rfl) rfl (b_Op_hasSameBytesAs_0 h)
theorem b_Op_hasSameBytesAs_70 {d : Nat} {a0 : Nat} {a1 : Nat} {x2 : Int32} {w : mW} {Q : Int32 → mW → Prop} (h : mT w a0 = 2 ∧ if (mI w a0 1) ≤ x2 then (Q (1 : Int32) w) else (mP w a0 0 ≠ 0 ∧ mT w (mP w a0 0) = 20 ∧ vp_in x2 (mL w (mP w a0 0)) ∧ mT w a1 = 2 ∧ mP w a1 0 ≠ 0 ∧ mT w (mP w a1 0) = 20 ∧ vp_in x2 (mL w (mP w a1 0)) ∧ if (mI w (mP w a0 0) x2.toNatClampNeg) = (mI w (mP w a1 0) x2.toNatClampNeg) then (mG d m_Op_hasSameBytesAs (0, 0) 70 [vR a0, vR a1, vI (x2 + (1 : Int32))] [] w Q) else (Q (0 : Int32) w))) : mG d m_Op_hasSameBytesAs (0, 0) 70 [vR a0, vR a1, vI x2] [] w Q :=
  (g_iload_n 2 d_Op_hasSameBytesAs_70 rfl rfl (g_aload_n 0 d_Op_hasSameBytesAs_71 rfl rfl (have s1 := h.1; have h := h.2; (g_getI 1 1 false d_Op_hasSameBytesAs_72 l_F_Op_31 rfl (Nat.le_of_ble_eq_true rfl) ⟨s1, (g_icmp_ge 101 d_Op_hasSameBytesAs_75 rfl (mIte (fun h => (g_iconst (1 : Int32) d_Op_hasSameBytesAs_101 rfl (g_zret rfl d_Op_hasSameBytesAs_102 ⟨(Nat.le_of_ble_eq_true rfl), (Nat.le_of_ble_eq_true rfl)⟩ ⟨by decide, h⟩))) (fun h => (g_aload_n 0 d_Op_hasSameBytesAs_78 rfl rfl (have s2 := h.1; have h := h.2; (g_getP 1 0 true d_Op_hasSameBytesAs_79 l_F_Op_9 rfl (Nat.le_of_ble_eq_true rfl) ⟨s1, s2, (g_iload_n 2 d_Op_hasSameBytesAs_82 rfl rfl (have s3 := h.1; have h := h.2; have s4 := h.1; have h := h.2; (g_iaload d_Op_hasSameBytesAs_83 ⟨s3, s4, (g_aload_n 1 d_Op_hasSameBytesAs_84 rfl rfl (have s5 := h.1; have h := h.2; have s6 := h.1; have h := h.2; (g_getP 1 0 true d_Op_hasSameBytesAs_85 l_F_Op_9 rfl (Nat.le_of_ble_eq_true rfl) ⟨s5, s6, (g_iload_n 2 d_Op_hasSameBytesAs_88 rfl rfl (have s7 := h.1; have h := h.2; have s8 := h.1; have h := h.2; (g_iaload d_Op_hasSameBytesAs_89 ⟨s7, s8, (g_icmp_eq 95 d_Op_hasSameBytesAs_90 rfl (mIte (fun h => (g_iinc 2 (1 : Int32) d_Op_hasSameBytesAs_95 rfl rfl (Nat.le_of_ble_eq_true rfl) (g_goto 70 d_Op_hasSameBytesAs_98 rfl h))) (fun h => (g_iconst (0 : Int32) d_Op_hasSameBytesAs_93 rfl (g_zret rfl d_Op_hasSameBytesAs_94 ⟨(Nat.le_of_ble_eq_true rfl), (Nat.le_of_ble_eq_true rfl)⟩ ⟨by decide, h⟩))) h))⟩)))⟩)))⟩)))⟩)))) h))⟩))))
end
