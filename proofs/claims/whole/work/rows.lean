section
/-- a private method of a class that the tables say can be made, by its rows of tables_1 -/
def lw_okq (q : MethodName × Nat) : Prop := (q.1.cls ≠ "java/lang/invoke/MethodHandle" ∧ q.1.cls ≠ "java/lang/invoke/VarHandle") ∧ Cond.instantiable q.1.cls q.2 ∈ tables_1 ∧ Cond.privateMethod q.1 ∈ tables_1 ∧ Cond.instanceMethod q.1 ∈ tables_1
theorem lw_p0 : lw_okq (⟨"DiskRekeying$Disk", "fillWithZeros", "()V"⟩, 15) := ⟨⟨by decide +kernel, by decide +kernel⟩, List.mem_of_getElem? (i := 17) (by decide +kernel), List.mem_of_getElem? (i := 45) (by decide +kernel), List.mem_of_getElem? (i := 46) (by decide +kernel)⟩
theorem lw_p1 : lw_okq (⟨"DiskRekeying$Disk", "exchange", "(III)I"⟩, 15) := ⟨⟨by decide +kernel, by decide +kernel⟩, List.mem_of_getElem? (i := 17) (by decide +kernel), List.mem_of_getElem? (i := 50) (by decide +kernel), List.mem_of_getElem? (i := 51) (by decide +kernel)⟩
theorem lw_p2 : lw_okq (⟨"DiskRekeying$History", "slot", "(I)LDiskRekeying$Disk;"⟩, 3) := ⟨⟨by decide +kernel, by decide +kernel⟩, List.mem_of_getElem? (i := 106) (by decide +kernel), List.mem_of_getElem? (i := 170) (by decide +kernel), List.mem_of_getElem? (i := 171) (by decide +kernel)⟩
theorem lw_p3 : lw_okq (⟨"DiskRekeying$Disk", "closeZone", "()V"⟩, 15) := ⟨⟨by decide +kernel, by decide +kernel⟩, List.mem_of_getElem? (i := 17) (by decide +kernel), List.mem_of_getElem? (i := 187) (by decide +kernel), List.mem_of_getElem? (i := 188) (by decide +kernel)⟩
theorem lw_p4 : lw_okq (⟨"DiskRekeying$Disk", "isZoneOpen", "()Z"⟩, 15) := ⟨⟨by decide +kernel, by decide +kernel⟩, List.mem_of_getElem? (i := 17) (by decide +kernel), List.mem_of_getElem? (i := 239) (by decide +kernel), List.mem_of_getElem? (i := 240) (by decide +kernel)⟩
theorem lw_p5 : lw_okq (⟨"DiskRekeying$Disk", "needsJournal", "()Z"⟩, 15) := ⟨⟨by decide +kernel, by decide +kernel⟩, List.mem_of_getElem? (i := 17) (by decide +kernel), List.mem_of_getElem? (i := 267) (by decide +kernel), List.mem_of_getElem? (i := 268) (by decide +kernel)⟩
theorem lw_p6 : lw_okq (⟨"DiskRekeying$Disk", "zoneEnd", "()I"⟩, 15) := ⟨⟨by decide +kernel, by decide +kernel⟩, List.mem_of_getElem? (i := 17) (by decide +kernel), List.mem_of_getElem? (i := 271) (by decide +kernel), List.mem_of_getElem? (i := 272) (by decide +kernel)⟩
theorem lw_p7 : lw_okq (⟨"DiskRekeying$Disk", "rewriteNext", "(I)V"⟩, 15) := ⟨⟨by decide +kernel, by decide +kernel⟩, List.mem_of_getElem? (i := 17) (by decide +kernel), List.mem_of_getElem? (i := 293) (by decide +kernel), List.mem_of_getElem? (i := 294) (by decide +kernel)⟩
theorem lw_p8 : lw_okq (⟨"DiskRekeying$Disk", "keyByPosition", "(I)I"⟩, 15) := ⟨⟨by decide +kernel, by decide +kernel⟩, List.mem_of_getElem? (i := 17) (by decide +kernel), List.mem_of_getElem? (i := 297) (by decide +kernel), List.mem_of_getElem? (i := 298) (by decide +kernel)⟩
theorem lw_p9 : lw_okq (⟨"DiskRekeying$Disk", "otherKey", "(I)I"⟩, 15) := ⟨⟨by decide +kernel, by decide +kernel⟩, List.mem_of_getElem? (i := 17) (by decide +kernel), List.mem_of_getElem? (i := 301) (by decide +kernel), List.mem_of_getElem? (i := 302) (by decide +kernel)⟩
theorem lw_p10 : lw_okq (⟨"DiskRekeying$Disk", "endIfThrough", "()V"⟩, 15) := ⟨⟨by decide +kernel, by decide +kernel⟩, List.mem_of_getElem? (i := 17) (by decide +kernel), List.mem_of_getElem? (i := 305) (by decide +kernel), List.mem_of_getElem? (i := 306) (by decide +kernel)⟩
theorem lw_p11 : lw_okq (⟨"DiskRekeying$Disk", "isFlushable", "(I)Z"⟩, 15) := ⟨⟨by decide +kernel, by decide +kernel⟩, List.mem_of_getElem? (i := 17) (by decide +kernel), List.mem_of_getElem? (i := 337) (by decide +kernel), List.mem_of_getElem? (i := 338) (by decide +kernel)⟩
theorem lw_p12 : lw_okq (⟨"DiskRekeying$Disk", "valueAfterFailure", "(I)I"⟩, 15) := ⟨⟨by decide +kernel, by decide +kernel⟩, List.mem_of_getElem? (i := 17) (by decide +kernel), List.mem_of_getElem? (i := 361) (by decide +kernel), List.mem_of_getElem? (i := 362) (by decide +kernel)⟩
theorem lw_p13 : lw_okq (⟨"DiskRekeying$Disk", "scrambledAfterFailure", "(I)I"⟩, 15) := ⟨⟨by decide +kernel, by decide +kernel⟩, List.mem_of_getElem? (i := 17) (by decide +kernel), List.mem_of_getElem? (i := 365) (by decide +kernel), List.mem_of_getElem? (i := 366) (by decide +kernel)⟩
theorem lw_p14 : lw_okq (⟨"DiskRekeying", "withKeys", "(J)J"⟩, 4) := ⟨⟨by decide +kernel, by decide +kernel⟩, List.mem_of_getElem? (i := 9) (by decide +kernel), List.mem_of_getElem? (i := 544) (by decide +kernel), List.mem_of_getElem? (i := 545) (by decide +kernel)⟩
theorem lw_p15 : lw_okq (⟨"DiskRekeying", "withSectors", "(J)J"⟩, 4) := ⟨⟨by decide +kernel, by decide +kernel⟩, List.mem_of_getElem? (i := 9) (by decide +kernel), List.mem_of_getElem? (i := 549) (by decide +kernel), List.mem_of_getElem? (i := 550) (by decide +kernel)⟩
def lw_privs_1 : List (MethodName × Nat) := [(⟨"DiskRekeying$Disk", "fillWithZeros", "()V"⟩, 15), (⟨"DiskRekeying$Disk", "exchange", "(III)I"⟩, 15), (⟨"DiskRekeying$History", "slot", "(I)LDiskRekeying$Disk;"⟩, 3), (⟨"DiskRekeying$Disk", "closeZone", "()V"⟩, 15), (⟨"DiskRekeying$Disk", "isZoneOpen", "()Z"⟩, 15), (⟨"DiskRekeying$Disk", "needsJournal", "()Z"⟩, 15), (⟨"DiskRekeying$Disk", "zoneEnd", "()I"⟩, 15), (⟨"DiskRekeying$Disk", "rewriteNext", "(I)V"⟩, 15), (⟨"DiskRekeying$Disk", "keyByPosition", "(I)I"⟩, 15), (⟨"DiskRekeying$Disk", "otherKey", "(I)I"⟩, 15), (⟨"DiskRekeying$Disk", "endIfThrough", "()V"⟩, 15), (⟨"DiskRekeying$Disk", "isFlushable", "(I)Z"⟩, 15), (⟨"DiskRekeying$Disk", "valueAfterFailure", "(I)I"⟩, 15), (⟨"DiskRekeying$Disk", "scrambledAfterFailure", "(I)I"⟩, 15), (⟨"DiskRekeying", "withKeys", "(J)J"⟩, 4), (⟨"DiskRekeying", "withSectors", "(J)J"⟩, 4)]
theorem lw_r1 : ∀ q ∈ lw_privs_1, lw_okq q := List.forall_mem_cons.mpr ⟨lw_p0, List.forall_mem_cons.mpr ⟨lw_p1, List.forall_mem_cons.mpr ⟨lw_p2, List.forall_mem_cons.mpr ⟨lw_p3, List.forall_mem_cons.mpr ⟨lw_p4, List.forall_mem_cons.mpr ⟨lw_p5, List.forall_mem_cons.mpr ⟨lw_p6, List.forall_mem_cons.mpr ⟨lw_p7, List.forall_mem_cons.mpr ⟨lw_p8, List.forall_mem_cons.mpr ⟨lw_p9, List.forall_mem_cons.mpr ⟨lw_p10, List.forall_mem_cons.mpr ⟨lw_p11, List.forall_mem_cons.mpr ⟨lw_p12, List.forall_mem_cons.mpr ⟨lw_p13, List.forall_mem_cons.mpr ⟨lw_p14, List.forall_mem_cons.mpr ⟨lw_p15, fun _ h => absurd h List.not_mem_nil⟩⟩⟩⟩⟩⟩⟩⟩⟩⟩⟩⟩⟩⟩⟩⟩
theorem lw_p16 : lw_okq (⟨"DiskRekeyingModel", "formats", "(I)V"⟩, 13) := ⟨⟨by decide +kernel, by decide +kernel⟩, List.mem_of_getElem? (i := 562) (by decide +kernel), List.mem_of_getElem? (i := 568) (by decide +kernel), List.mem_of_getElem? (i := 569) (by decide +kernel)⟩
theorem lw_p17 : lw_okq (⟨"DiskRekeyingModel", "ends", "()V"⟩, 13) := ⟨⟨by decide +kernel, by decide +kernel⟩, List.mem_of_getElem? (i := 562) (by decide +kernel), List.mem_of_getElem? (i := 572) (by decide +kernel), List.mem_of_getElem? (i := 573) (by decide +kernel)⟩
theorem lw_p18 : lw_okq (⟨"DiskRekeyingModel", "closes", "()V"⟩, 13) := ⟨⟨by decide +kernel, by decide +kernel⟩, List.mem_of_getElem? (i := 562) (by decide +kernel), List.mem_of_getElem? (i := 576) (by decide +kernel), List.mem_of_getElem? (i := 577) (by decide +kernel)⟩
theorem lw_p19 : lw_okq (⟨"DiskRekeyingModel", "record", "()V"⟩, 13) := ⟨⟨by decide +kernel, by decide +kernel⟩, List.mem_of_getElem? (i := 562) (by decide +kernel), List.mem_of_getElem? (i := 632) (by decide +kernel), List.mem_of_getElem? (i := 633) (by decide +kernel)⟩
theorem lw_p20 : lw_okq (⟨"DiskRekeyingModel", "isKey", "(I)Z"⟩, 13) := ⟨⟨by decide +kernel, by decide +kernel⟩, List.mem_of_getElem? (i := 562) (by decide +kernel), List.mem_of_getElem? (i := 643) (by decide +kernel), List.mem_of_getElem? (i := 644) (by decide +kernel)⟩
theorem lw_p21 : lw_okq (⟨"DiskRekeyingModel", "keysMany", "()I"⟩, 13) := ⟨⟨by decide +kernel, by decide +kernel⟩, List.mem_of_getElem? (i := 562) (by decide +kernel), List.mem_of_getElem? (i := 647) (by decide +kernel), List.mem_of_getElem? (i := 648) (by decide +kernel)⟩
theorem lw_p22 : lw_okq (⟨"DiskRekeyingModel", "sets", "(II)I"⟩, 13) := ⟨⟨by decide +kernel, by decide +kernel⟩, List.mem_of_getElem? (i := 562) (by decide +kernel), List.mem_of_getElem? (i := 663) (by decide +kernel), List.mem_of_getElem? (i := 664) (by decide +kernel)⟩
theorem lw_p23 : lw_okq (⟨"DiskRekeyingModel", "isOpen", "()Z"⟩, 13) := ⟨⟨by decide +kernel, by decide +kernel⟩, List.mem_of_getElem? (i := 562) (by decide +kernel), List.mem_of_getElem? (i := 667) (by decide +kernel), List.mem_of_getElem? (i := 668) (by decide +kernel)⟩
theorem lw_p24 : lw_okq (⟨"DiskRekeyingModel", "isRekeying", "()Z"⟩, 13) := ⟨⟨by decide +kernel, by decide +kernel⟩, List.mem_of_getElem? (i := 562) (by decide +kernel), List.mem_of_getElem? (i := 679) (by decide +kernel), List.mem_of_getElem? (i := 680) (by decide +kernel)⟩
theorem lw_p25 : lw_okq (⟨"DiskRekeyingModel", "left", "()I"⟩, 13) := ⟨⟨by decide +kernel, by decide +kernel⟩, List.mem_of_getElem? (i := 562) (by decide +kernel), List.mem_of_getElem? (i := 683) (by decide +kernel), List.mem_of_getElem? (i := 684) (by decide +kernel)⟩
theorem lw_p26 : lw_okq (⟨"DiskRekeyingModel", "whyNotSteps", "(I)I"⟩, 13) := ⟨⟨by decide +kernel, by decide +kernel⟩, List.mem_of_getElem? (i := 562) (by decide +kernel), List.mem_of_getElem? (i := 691) (by decide +kernel), List.mem_of_getElem? (i := 692) (by decide +kernel)⟩
theorem lw_p27 : lw_okq (⟨"DiskRekeyingModel", "makesSteps", "(I)I"⟩, 13) := ⟨⟨by decide +kernel, by decide +kernel⟩, List.mem_of_getElem? (i := 562) (by decide +kernel), List.mem_of_getElem? (i := 695) (by decide +kernel), List.mem_of_getElem? (i := 696) (by decide +kernel)⟩
theorem lw_p28 : lw_okq (⟨"DiskRekeyingModel", "makesStep", "()V"⟩, 13) := ⟨⟨by decide +kernel, by decide +kernel⟩, List.mem_of_getElem? (i := 562) (by decide +kernel), List.mem_of_getElem? (i := 699) (by decide +kernel), List.mem_of_getElem? (i := 700) (by decide +kernel)⟩
theorem lw_p29 : lw_okq (⟨"DiskRekeyingModel", "zoneFrom", "()I"⟩, 13) := ⟨⟨by decide +kernel, by decide +kernel⟩, List.mem_of_getElem? (i := 562) (by decide +kernel), List.mem_of_getElem? (i := 703) (by decide +kernel), List.mem_of_getElem? (i := 704) (by decide +kernel)⟩
theorem lw_p30 : lw_okq (⟨"DiskRekeyingModel", "zoneTo", "()I"⟩, 13) := ⟨⟨by decide +kernel, by decide +kernel⟩, List.mem_of_getElem? (i := 562) (by decide +kernel), List.mem_of_getElem? (i := 707) (by decide +kernel), List.mem_of_getElem? (i := 708) (by decide +kernel)⟩
theorem lw_p31 : lw_okq (⟨"DiskRekeyingModel", "plain", "(I)I"⟩, 13) := ⟨⟨by decide +kernel, by decide +kernel⟩, List.mem_of_getElem? (i := 562) (by decide +kernel), List.mem_of_getElem? (i := 711) (by decide +kernel), List.mem_of_getElem? (i := 712) (by decide +kernel)⟩
def lw_privs_2 : List (MethodName × Nat) := [(⟨"DiskRekeyingModel", "formats", "(I)V"⟩, 13), (⟨"DiskRekeyingModel", "ends", "()V"⟩, 13), (⟨"DiskRekeyingModel", "closes", "()V"⟩, 13), (⟨"DiskRekeyingModel", "record", "()V"⟩, 13), (⟨"DiskRekeyingModel", "isKey", "(I)Z"⟩, 13), (⟨"DiskRekeyingModel", "keysMany", "()I"⟩, 13), (⟨"DiskRekeyingModel", "sets", "(II)I"⟩, 13), (⟨"DiskRekeyingModel", "isOpen", "()Z"⟩, 13), (⟨"DiskRekeyingModel", "isRekeying", "()Z"⟩, 13), (⟨"DiskRekeyingModel", "left", "()I"⟩, 13), (⟨"DiskRekeyingModel", "whyNotSteps", "(I)I"⟩, 13), (⟨"DiskRekeyingModel", "makesSteps", "(I)I"⟩, 13), (⟨"DiskRekeyingModel", "makesStep", "()V"⟩, 13), (⟨"DiskRekeyingModel", "zoneFrom", "()I"⟩, 13), (⟨"DiskRekeyingModel", "zoneTo", "()I"⟩, 13), (⟨"DiskRekeyingModel", "plain", "(I)I"⟩, 13)]
theorem lw_r2 : ∀ q ∈ lw_privs_2, lw_okq q := List.forall_mem_cons.mpr ⟨lw_p16, List.forall_mem_cons.mpr ⟨lw_p17, List.forall_mem_cons.mpr ⟨lw_p18, List.forall_mem_cons.mpr ⟨lw_p19, List.forall_mem_cons.mpr ⟨lw_p20, List.forall_mem_cons.mpr ⟨lw_p21, List.forall_mem_cons.mpr ⟨lw_p22, List.forall_mem_cons.mpr ⟨lw_p23, List.forall_mem_cons.mpr ⟨lw_p24, List.forall_mem_cons.mpr ⟨lw_p25, List.forall_mem_cons.mpr ⟨lw_p26, List.forall_mem_cons.mpr ⟨lw_p27, List.forall_mem_cons.mpr ⟨lw_p28, List.forall_mem_cons.mpr ⟨lw_p29, List.forall_mem_cons.mpr ⟨lw_p30, List.forall_mem_cons.mpr ⟨lw_p31, fun _ h => absurd h List.not_mem_nil⟩⟩⟩⟩⟩⟩⟩⟩⟩⟩⟩⟩⟩⟩⟩⟩
theorem lw_p32 : lw_okq (⟨"DiskRekeyingModel", "secretAt", "(I)I"⟩, 13) := ⟨⟨by decide +kernel, by decide +kernel⟩, List.mem_of_getElem? (i := 562) (by decide +kernel), List.mem_of_getElem? (i := 715) (by decide +kernel), List.mem_of_getElem? (i := 716) (by decide +kernel)⟩
theorem lw_p33 : lw_okq (⟨"DiskRekeyingModel", "keyAt", "(I)I"⟩, 13) := ⟨⟨by decide +kernel, by decide +kernel⟩, List.mem_of_getElem? (i := 562) (by decide +kernel), List.mem_of_getElem? (i := 719) (by decide +kernel), List.mem_of_getElem? (i := 720) (by decide +kernel)⟩
theorem lw_p34 : lw_okq (⟨"DiskRekeyingModel", "isRewritten", "(I)Z"⟩, 13) := ⟨⟨by decide +kernel, by decide +kernel⟩, List.mem_of_getElem? (i := 562) (by decide +kernel), List.mem_of_getElem? (i := 723) (by decide +kernel), List.mem_of_getElem? (i := 724) (by decide +kernel)⟩
theorem lw_p35 : lw_okq (⟨"DiskRekeyingModel", "isInZone", "(I)Z"⟩, 13) := ⟨⟨by decide +kernel, by decide +kernel⟩, List.mem_of_getElem? (i := 562) (by decide +kernel), List.mem_of_getElem? (i := 727) (by decide +kernel), List.mem_of_getElem? (i := 728) (by decide +kernel)⟩
theorem lw_p36 : lw_okq (⟨"DiskRekeyingModel", "endsAtEnd", "()V"⟩, 13) := ⟨⟨by decide +kernel, by decide +kernel⟩, List.mem_of_getElem? (i := 562) (by decide +kernel), List.mem_of_getElem? (i := 731) (by decide +kernel), List.mem_of_getElem? (i := 732) (by decide +kernel)⟩
theorem lw_p37 : lw_okq (⟨"DiskRekeyingModel", "whyNotTurned", "()I"⟩, 13) := ⟨⟨by decide +kernel, by decide +kernel⟩, List.mem_of_getElem? (i := 562) (by decide +kernel), List.mem_of_getElem? (i := 739) (by decide +kernel), List.mem_of_getElem? (i := 740) (by decide +kernel)⟩
theorem lw_p38 : lw_okq (⟨"DiskRekeyingModel", "turns", "()I"⟩, 13) := ⟨⟨by decide +kernel, by decide +kernel⟩, List.mem_of_getElem? (i := 562) (by decide +kernel), List.mem_of_getElem? (i := 743) (by decide +kernel), List.mem_of_getElem? (i := 744) (by decide +kernel)⟩
theorem lw_p39 : lw_okq (⟨"DiskRekeyingModel", "whyNotWritten", "(II)I"⟩, 13) := ⟨⟨by decide +kernel, by decide +kernel⟩, List.mem_of_getElem? (i := 562) (by decide +kernel), List.mem_of_getElem? (i := 751) (by decide +kernel), List.mem_of_getElem? (i := 752) (by decide +kernel)⟩
theorem lw_p40 : lw_okq (⟨"DiskRekeyingModel", "isSector", "(I)Z"⟩, 13) := ⟨⟨by decide +kernel, by decide +kernel⟩, List.mem_of_getElem? (i := 562) (by decide +kernel), List.mem_of_getElem? (i := 755) (by decide +kernel), List.mem_of_getElem? (i := 756) (by decide +kernel)⟩
theorem lw_p41 : lw_okq (⟨"DiskRekeyingModel", "cachedMany", "()I"⟩, 13) := ⟨⟨by decide +kernel, by decide +kernel⟩, List.mem_of_getElem? (i := 562) (by decide +kernel), List.mem_of_getElem? (i := 759) (by decide +kernel), List.mem_of_getElem? (i := 760) (by decide +kernel)⟩
theorem lw_p42 : lw_okq (⟨"DiskRekeyingModel", "writes", "(II)I"⟩, 13) := ⟨⟨by decide +kernel, by decide +kernel⟩, List.mem_of_getElem? (i := 562) (by decide +kernel), List.mem_of_getElem? (i := 763) (by decide +kernel), List.mem_of_getElem? (i := 764) (by decide +kernel)⟩
theorem lw_p43 : lw_okq (⟨"DiskRekeyingModel", "flushes", "()I"⟩, 13) := ⟨⟨by decide +kernel, by decide +kernel⟩, List.mem_of_getElem? (i := 562) (by decide +kernel), List.mem_of_getElem? (i := 771) (by decide +kernel), List.mem_of_getElem? (i := 772) (by decide +kernel)⟩
theorem lw_p44 : lw_okq (⟨"DiskRekeyingModel", "canFlush", "(I)Z"⟩, 13) := ⟨⟨by decide +kernel, by decide +kernel⟩, List.mem_of_getElem? (i := 562) (by decide +kernel), List.mem_of_getElem? (i := 775) (by decide +kernel), List.mem_of_getElem? (i := 776) (by decide +kernel)⟩
theorem lw_p45 : lw_okq (⟨"DiskRekeyingModel", "formThen", "(I)I"⟩, 13) := ⟨⟨by decide +kernel, by decide +kernel⟩, List.mem_of_getElem? (i := 562) (by decide +kernel), List.mem_of_getElem? (i := 779) (by decide +kernel), List.mem_of_getElem? (i := 780) (by decide +kernel)⟩
theorem lw_p46 : lw_okq (⟨"DiskRekeyingModel", "valueOf", "(I)I"⟩, 13) := ⟨⟨by decide +kernel, by decide +kernel⟩, List.mem_of_getElem? (i := 562) (by decide +kernel), List.mem_of_getElem? (i := 787) (by decide +kernel), List.mem_of_getElem? (i := 788) (by decide +kernel)⟩
theorem lw_p47 : lw_okq (⟨"DiskRekeyingModel", "fails", "()V"⟩, 13) := ⟨⟨by decide +kernel, by decide +kernel⟩, List.mem_of_getElem? (i := 562) (by decide +kernel), List.mem_of_getElem? (i := 791) (by decide +kernel), List.mem_of_getElem? (i := 792) (by decide +kernel)⟩
def lw_privs_3 : List (MethodName × Nat) := [(⟨"DiskRekeyingModel", "secretAt", "(I)I"⟩, 13), (⟨"DiskRekeyingModel", "keyAt", "(I)I"⟩, 13), (⟨"DiskRekeyingModel", "isRewritten", "(I)Z"⟩, 13), (⟨"DiskRekeyingModel", "isInZone", "(I)Z"⟩, 13), (⟨"DiskRekeyingModel", "endsAtEnd", "()V"⟩, 13), (⟨"DiskRekeyingModel", "whyNotTurned", "()I"⟩, 13), (⟨"DiskRekeyingModel", "turns", "()I"⟩, 13), (⟨"DiskRekeyingModel", "whyNotWritten", "(II)I"⟩, 13), (⟨"DiskRekeyingModel", "isSector", "(I)Z"⟩, 13), (⟨"DiskRekeyingModel", "cachedMany", "()I"⟩, 13), (⟨"DiskRekeyingModel", "writes", "(II)I"⟩, 13), (⟨"DiskRekeyingModel", "flushes", "()I"⟩, 13), (⟨"DiskRekeyingModel", "canFlush", "(I)Z"⟩, 13), (⟨"DiskRekeyingModel", "formThen", "(I)I"⟩, 13), (⟨"DiskRekeyingModel", "valueOf", "(I)I"⟩, 13), (⟨"DiskRekeyingModel", "fails", "()V"⟩, 13)]
theorem lw_r3 : ∀ q ∈ lw_privs_3, lw_okq q := List.forall_mem_cons.mpr ⟨lw_p32, List.forall_mem_cons.mpr ⟨lw_p33, List.forall_mem_cons.mpr ⟨lw_p34, List.forall_mem_cons.mpr ⟨lw_p35, List.forall_mem_cons.mpr ⟨lw_p36, List.forall_mem_cons.mpr ⟨lw_p37, List.forall_mem_cons.mpr ⟨lw_p38, List.forall_mem_cons.mpr ⟨lw_p39, List.forall_mem_cons.mpr ⟨lw_p40, List.forall_mem_cons.mpr ⟨lw_p41, List.forall_mem_cons.mpr ⟨lw_p42, List.forall_mem_cons.mpr ⟨lw_p43, List.forall_mem_cons.mpr ⟨lw_p44, List.forall_mem_cons.mpr ⟨lw_p45, List.forall_mem_cons.mpr ⟨lw_p46, List.forall_mem_cons.mpr ⟨lw_p47, fun _ h => absurd h List.not_mem_nil⟩⟩⟩⟩⟩⟩⟩⟩⟩⟩⟩⟩⟩⟩⟩⟩
theorem lw_p48 : lw_okq (⟨"DiskRekeyingModel", "countOf", "(I)I"⟩, 13) := ⟨⟨by decide +kernel, by decide +kernel⟩, List.mem_of_getElem? (i := 562) (by decide +kernel), List.mem_of_getElem? (i := 799) (by decide +kernel), List.mem_of_getElem? (i := 800) (by decide +kernel)⟩
theorem lw_p49 : lw_okq (⟨"DiskRekeyingModel", "damagedMany", "()I"⟩, 13) := ⟨⟨by decide +kernel, by decide +kernel⟩, List.mem_of_getElem? (i := 562) (by decide +kernel), List.mem_of_getElem? (i := 831) (by decide +kernel), List.mem_of_getElem? (i := 832) (by decide +kernel)⟩
theorem lw_p50 : lw_okq (⟨"DiskRekeyingModel", "firstOne", "()I"⟩, 13) := ⟨⟨by decide +kernel, by decide +kernel⟩, List.mem_of_getElem? (i := 562) (by decide +kernel), List.mem_of_getElem? (i := 839) (by decide +kernel), List.mem_of_getElem? (i := 840) (by decide +kernel)⟩
theorem lw_p51 : lw_okq (⟨"DiskRekeyingModel", "damagedThen", "()I"⟩, 13) := ⟨⟨by decide +kernel, by decide +kernel⟩, List.mem_of_getElem? (i := 562) (by decide +kernel), List.mem_of_getElem? (i := 851) (by decide +kernel), List.mem_of_getElem? (i := 852) (by decide +kernel)⟩
theorem lw_p52 : lw_okq (⟨"DiskRekeyingModel", "findError", "()I"⟩, 13) := ⟨⟨by decide +kernel, by decide +kernel⟩, List.mem_of_getElem? (i := 562) (by decide +kernel), List.mem_of_getElem? (i := 875) (by decide +kernel), List.mem_of_getElem? (i := 876) (by decide +kernel)⟩
theorem lw_p53 : lw_okq (⟨"DiskRekeyingModel", "readsCommand", "()Z"⟩, 13) := ⟨⟨by decide +kernel, by decide +kernel⟩, List.mem_of_getElem? (i := 562) (by decide +kernel), List.mem_of_getElem? (i := 879) (by decide +kernel), List.mem_of_getElem? (i := 880) (by decide +kernel)⟩
theorem lw_p54 : lw_okq (⟨"DiskRekeyingModel", "character", "(I)I"⟩, 13) := ⟨⟨by decide +kernel, by decide +kernel⟩, List.mem_of_getElem? (i := 562) (by decide +kernel), List.mem_of_getElem? (i := 883) (by decide +kernel), List.mem_of_getElem? (i := 884) (by decide +kernel)⟩
theorem lw_p55 : lw_okq (⟨"DiskRekeyingModel", "readsNumber", "()Z"⟩, 13) := ⟨⟨by decide +kernel, by decide +kernel⟩, List.mem_of_getElem? (i := 562) (by decide +kernel), List.mem_of_getElem? (i := 887) (by decide +kernel), List.mem_of_getElem? (i := 888) (by decide +kernel)⟩
theorem lw_p56 : lw_okq (⟨"DiskRekeyingModel", "isNext", "(I)Z"⟩, 13) := ⟨⟨by decide +kernel, by decide +kernel⟩, List.mem_of_getElem? (i := 562) (by decide +kernel), List.mem_of_getElem? (i := 891) (by decide +kernel), List.mem_of_getElem? (i := 892) (by decide +kernel)⟩
theorem lw_p57 : lw_okq (⟨"DiskRekeyingModel", "whyNotDone", "()I"⟩, 13) := ⟨⟨by decide +kernel, by decide +kernel⟩, List.mem_of_getElem? (i := 562) (by decide +kernel), List.mem_of_getElem? (i := 899) (by decide +kernel), List.mem_of_getElem? (i := 900) (by decide +kernel)⟩
theorem lw_p58 : lw_okq (⟨"DiskRekeyingModel", "does", "()V"⟩, 13) := ⟨⟨by decide +kernel, by decide +kernel⟩, List.mem_of_getElem? (i := 562) (by decide +kernel), List.mem_of_getElem? (i := 903) (by decide +kernel), List.mem_of_getElem? (i := 904) (by decide +kernel)⟩
def lw_privs_4 : List (MethodName × Nat) := [(⟨"DiskRekeyingModel", "countOf", "(I)I"⟩, 13), (⟨"DiskRekeyingModel", "damagedMany", "()I"⟩, 13), (⟨"DiskRekeyingModel", "firstOne", "()I"⟩, 13), (⟨"DiskRekeyingModel", "damagedThen", "()I"⟩, 13), (⟨"DiskRekeyingModel", "findError", "()I"⟩, 13), (⟨"DiskRekeyingModel", "readsCommand", "()Z"⟩, 13), (⟨"DiskRekeyingModel", "character", "(I)I"⟩, 13), (⟨"DiskRekeyingModel", "readsNumber", "()Z"⟩, 13), (⟨"DiskRekeyingModel", "isNext", "(I)Z"⟩, 13), (⟨"DiskRekeyingModel", "whyNotDone", "()I"⟩, 13), (⟨"DiskRekeyingModel", "does", "()V"⟩, 13)]
theorem lw_r4 : ∀ q ∈ lw_privs_4, lw_okq q := List.forall_mem_cons.mpr ⟨lw_p48, List.forall_mem_cons.mpr ⟨lw_p49, List.forall_mem_cons.mpr ⟨lw_p50, List.forall_mem_cons.mpr ⟨lw_p51, List.forall_mem_cons.mpr ⟨lw_p52, List.forall_mem_cons.mpr ⟨lw_p53, List.forall_mem_cons.mpr ⟨lw_p54, List.forall_mem_cons.mpr ⟨lw_p55, List.forall_mem_cons.mpr ⟨lw_p56, List.forall_mem_cons.mpr ⟨lw_p57, List.forall_mem_cons.mpr ⟨lw_p58, fun _ h => absurd h List.not_mem_nil⟩⟩⟩⟩⟩⟩⟩⟩⟩⟩⟩
def lw_privs : List (MethodName × Nat) := lw_privs_1 ++ (lw_privs_2 ++ (lw_privs_3 ++ (lw_privs_4)))
def lw_tbl : List Cond := k2_sels lw_privs ++ tables_1
theorem lw_privs_ok : ∀ q ∈ lw_privs, lw_okq q := by
  show ∀ q ∈ lw_privs_1 ++ (lw_privs_2 ++ (lw_privs_3 ++ (lw_privs_4))), lw_okq q
  exact List.forall_mem_append.mpr ⟨lw_r1, List.forall_mem_append.mpr ⟨lw_r2, List.forall_mem_append.mpr ⟨lw_r3, lw_r4⟩⟩⟩
def RX0 : String := "DiskRekeying$Disk"
def TX0 : u_T := fun k => match k with
  | 0 => ("DiskRekeying$Disk", "scrambled", "LDiskRekeying$Row;", true)
  | 1 => ("DiskRekeying$Disk", "expected", "LDiskRekeying$Row;", true)
  | 2 => ("DiskRekeying$Disk", "cache", "LDiskRekeying$Row;", true)
  | 3 => ("DiskRekeying$Disk", "logged", "LDiskRekeying$Row;", true)
  | 4 => ("DiskRekeying$Disk", "secrets", "LDiskRekeying$Row;", true)
  | 5 => ("DiskRekeying$Disk", "sectors", "I", false)
  | 6 => ("DiskRekeying$Disk", "ownKey", "I", false)
  | 7 => ("DiskRekeying$Disk", "target", "I", false)
  | 8 => ("DiskRekeying$Disk", "forward", "Z", false)
  | 9 => ("DiskRekeying$Disk", "position", "I", false)
  | 10 => ("DiskRekeying$Disk", "rewritten", "I", false)
  | 11 => ("DiskRekeying$Disk", "zoneSize", "I", false)
  | 12 => ("DiskRekeying$Disk", "journalUsed", "Z", false)
  | 13 => ("DiskRekeying$Disk", "completed", "I", false)
  | _ => ("DiskRekeying$Disk", "failures", "I", false)
def tyX0 : Nat → FieldType := fun k => match k with
  | 0 => .object "DiskRekeying$Row"
  | 1 => .object "DiskRekeying$Row"
  | 2 => .object "DiskRekeying$Row"
  | 3 => .object "DiskRekeying$Row"
  | 4 => .object "DiskRekeying$Row"
  | 5 => .int
  | 6 => .int
  | 7 => .int
  | 8 => .boolean
  | 9 => .int
  | 10 => .int
  | 11 => .int
  | 12 => .boolean
  | 13 => .int
  | _ => .int
abbrev wsX00 : List Cond := u_ws RX0 TX0 15
theorem nmX0 : ∀ a, a < 15 → ∀ b, b < 15 → a ≠ b → (TX0 a).2.1 ≠ (TX0 b).2.1 := by decide +kernel
theorem tyX0_ok : ∀ k, k < 15 → parseFieldDescriptor (TX0 k).2.2.1 = some (tyX0 k) := by decide +kernel
abbrev cX0_init : ByteArray := prog_2_method_1_code
def yX0_init : MethodName := ⟨RX0, "<init>", "()V"⟩
abbrev cX0_takeOver : ByteArray := prog_2_method_2_code
def yX0_takeOver : MethodName := ⟨RX0, "takeOver", "(LDiskRekeying$Disk;)V"⟩
abbrev cX0_reformat : ByteArray := prog_2_method_3_code
def yX0_reformat : MethodName := ⟨RX0, "reformat", "(I)I"⟩
abbrev cX0_insertKey : ByteArray := prog_2_method_4_code
def yX0_insertKey : MethodName := ⟨RX0, "insertKey", "(II)I"⟩
abbrev cX0_dropKey : ByteArray := prog_2_method_5_code
def yX0_dropKey : MethodName := ⟨RX0, "dropKey", "(I)I"⟩
abbrev cX0_resizeZone : ByteArray := prog_2_method_6_code
def yX0_resizeZone : MethodName := ⟨RX0, "resizeZone", "(I)I"⟩
abbrev cX0_switchJournal : ByteArray := prog_2_method_7_code
def yX0_switchJournal : MethodName := ⟨RX0, "switchJournal", "(I)I"⟩
abbrev cX0_begin : ByteArray := prog_2_method_8_code
def yX0_begin : MethodName := ⟨RX0, "begin", "(I)I"⟩
abbrev cX0_advance : ByteArray := prog_2_method_9_code
def yX0_advance : MethodName := ⟨RX0, "advance", "(I)I"⟩
abbrev cX0_turn : ByteArray := prog_2_method_10_code
def yX0_turn : MethodName := ⟨RX0, "turn", "()I"⟩
abbrev cX0_put : ByteArray := prog_2_method_11_code
def yX0_put : MethodName := ⟨RX0, "put", "(II)I"⟩
abbrev cX0_flushCache : ByteArray := prog_2_method_12_code
def yX0_flushCache : MethodName := ⟨RX0, "flushCache", "()I"⟩
abbrev cX0_losePower : ByteArray := prog_2_method_13_code
def yX0_losePower : MethodName := ⟨RX0, "losePower", "()I"⟩
abbrev cX0_obey : ByteArray := prog_2_method_14_code
def yX0_obey : MethodName := ⟨RX0, "obey", "(III)I"⟩
abbrev cX0_hasSector : ByteArray := prog_2_method_15_code
def yX0_hasSector : MethodName := ⟨RX0, "hasSector", "(I)Z"⟩
abbrev cX0_hasKey : ByteArray := prog_2_method_16_code
def yX0_hasKey : MethodName := ⟨RX0, "hasKey", "(I)Z"⟩
abbrev cX0_secretBehind : ByteArray := prog_2_method_17_code
def yX0_secretBehind : MethodName := ⟨RX0, "secretBehind", "(I)I"⟩
abbrev cX0_scrambledIn : ByteArray := prog_2_method_18_code
def yX0_scrambledIn : MethodName := ⟨RX0, "scrambledIn", "(I)I"⟩
abbrev cX0_inJournal : ByteArray := prog_2_method_19_code
def yX0_inJournal : MethodName := ⟨RX0, "inJournal", "(I)I"⟩
abbrev cX0_inCache : ByteArray := prog_2_method_20_code
def yX0_inCache : MethodName := ⟨RX0, "inCache", "(I)I"⟩
abbrev cX0_valueIn : ByteArray := prog_2_method_21_code
def yX0_valueIn : MethodName := ⟨RX0, "valueIn", "(I)I"⟩
abbrev cX0_keyAt : ByteArray := prog_2_method_22_code
def yX0_keyAt : MethodName := ⟨RX0, "keyAt", "(I)I"⟩
abbrev cX0_keyByPosition : ByteArray := prog_2_method_23_code
def yX0_keyByPosition : MethodName := ⟨RX0, "keyByPosition", "(I)I"⟩
abbrev cX0_otherKey : ByteArray := prog_2_method_24_code
def yX0_otherKey : MethodName := ⟨RX0, "otherKey", "(I)I"⟩
abbrev cX0_exchange : ByteArray := prog_2_method_25_code
def yX0_exchange : MethodName := ⟨RX0, "exchange", "(III)I"⟩
abbrev cX0_fillWithZeros : ByteArray := prog_2_method_26_code
def yX0_fillWithZeros : MethodName := ⟨RX0, "fillWithZeros", "()V"⟩
abbrev cX0_isRekeying : ByteArray := prog_2_method_27_code
def yX0_isRekeying : MethodName := ⟨RX0, "isRekeying", "()Z"⟩
abbrev cX0_zoneFirst : ByteArray := prog_2_method_28_code
def yX0_zoneFirst : MethodName := ⟨RX0, "zoneFirst", "()I"⟩
abbrev cX0_zoneEnd : ByteArray := prog_2_method_29_code
def yX0_zoneEnd : MethodName := ⟨RX0, "zoneEnd", "()I"⟩
abbrev cX0_isZoneOpen : ByteArray := prog_2_method_30_code
def yX0_isZoneOpen : MethodName := ⟨RX0, "isZoneOpen", "()Z"⟩
abbrev cX0_needsJournal : ByteArray := prog_2_method_31_code
def yX0_needsJournal : MethodName := ⟨RX0, "needsJournal", "()Z"⟩
abbrev cX0_makeStep : ByteArray := prog_2_method_32_code
def yX0_makeStep : MethodName := ⟨RX0, "makeStep", "()V"⟩
abbrev cX0_rewriteNext : ByteArray := prog_2_method_33_code
def yX0_rewriteNext : MethodName := ⟨RX0, "rewriteNext", "(I)V"⟩
abbrev cX0_closeZone : ByteArray := prog_2_method_34_code
def yX0_closeZone : MethodName := ⟨RX0, "closeZone", "()V"⟩
abbrev cX0_endIfThrough : ByteArray := prog_2_method_35_code
def yX0_endIfThrough : MethodName := ⟨RX0, "endIfThrough", "()V"⟩
abbrev cX0_stepsAhead : ByteArray := prog_2_method_36_code
def yX0_stepsAhead : MethodName := ⟨RX0, "stepsAhead", "()I"⟩
abbrev cX0_isFlushable : ByteArray := prog_2_method_37_code
def yX0_isFlushable : MethodName := ⟨RX0, "isFlushable", "(I)Z"⟩
abbrev cX0_scrambledAfterFlush : ByteArray := prog_2_method_38_code
def yX0_scrambledAfterFlush : MethodName := ⟨RX0, "scrambledAfterFlush", "(I)I"⟩
abbrev cX0_scrambledAfterFailure : ByteArray := prog_2_method_39_code
def yX0_scrambledAfterFailure : MethodName := ⟨RX0, "scrambledAfterFailure", "(I)I"⟩
abbrev cX0_valueAfterFailure : ByteArray := prog_2_method_40_code
def yX0_valueAfterFailure : MethodName := ⟨RX0, "valueAfterFailure", "(I)I"⟩
abbrev cX0_damageAfterFailure : ByteArray := prog_2_method_41_code
def yX0_damageAfterFailure : MethodName := ⟨RX0, "damageAfterFailure", "()I"⟩
abbrev cX0_damageCount : ByteArray := prog_2_method_42_code
def yX0_damageCount : MethodName := ⟨RX0, "damageCount", "()I"⟩
abbrev cX0_firstDamage : ByteArray := prog_2_method_43_code
def yX0_firstDamage : MethodName := ⟨RX0, "firstDamage", "()I"⟩
abbrev cX0_numberOfRekeying : ByteArray := prog_2_method_44_code
def yX0_numberOfRekeying : MethodName := ⟨RX0, "numberOfRekeying", "(I)I"⟩
abbrev cX0_number : ByteArray := prog_2_method_45_code
def yX0_number : MethodName := ⟨RX0, "number", "(I)I"⟩
def RX1 : String := "DiskRekeying$History"
def TX1 : u_T := fun k => match k with
  | 0 => ("DiskRekeying$History", "slots", "[LDiskRekeying$Disk;", true)
  | 1 => ("DiskRekeying$History", "next", "I", false)
  | _ => ("DiskRekeying$History", "saved", "I", false)
def tyX1 : Nat → FieldType := fun k => match k with
  | 0 => .array (.object "DiskRekeying$Disk")
  | 1 => .int
  | _ => .int
abbrev wsX10 : List Cond := u_ws RX1 TX1 3
theorem nmX1 : ∀ a, a < 3 → ∀ b, b < 3 → a ≠ b → (TX1 a).2.1 ≠ (TX1 b).2.1 := by decide +kernel
theorem tyX1_ok : ∀ k, k < 3 → parseFieldDescriptor (TX1 k).2.2.1 = some (tyX1 k) := by decide +kernel
abbrev cX1_init : ByteArray := prog_3_method_1_code
def yX1_init : MethodName := ⟨RX1, "<init>", "()V"⟩
abbrev cX1_slot : ByteArray := prog_3_method_2_code
def yX1_slot : MethodName := ⟨RX1, "slot", "(I)LDiskRekeying$Disk;"⟩
abbrev cX1_draft : ByteArray := prog_3_method_3_code
def yX1_draft : MethodName := ⟨RX1, "draft", "(LDiskRekeying$Disk;)V"⟩
abbrev cX1_keep : ByteArray := prog_3_method_4_code
def yX1_keep : MethodName := ⟨RX1, "keep", "(I)I"⟩
abbrev cX1_bringBack : ByteArray := prog_3_method_5_code
def yX1_bringBack : MethodName := ⟨RX1, "bringBack", "(LDiskRekeying$Disk;)I"⟩
def RX2 : String := "DiskRekeying$Row"
def TX2 : u_T := fun k => match k with
  | _ => ("DiskRekeying$Row", "cells", "[I", true)
def tyX2 : Nat → FieldType := fun k => match k with
  | _ => .array .int
abbrev wsX20 : List Cond := u_ws RX2 TX2 1
theorem nmX2 : ∀ a, a < 1 → ∀ b, b < 1 → a ≠ b → (TX2 a).2.1 ≠ (TX2 b).2.1 := by decide +kernel
theorem tyX2_ok : ∀ k, k < 1 → parseFieldDescriptor (TX2 k).2.2.1 = some (tyX2 k) := by decide +kernel
abbrev cX2_init : ByteArray := prog_4_method_1_code
def yX2_init : MethodName := ⟨RX2, "<init>", "(I)V"⟩
abbrev cX2_get : ByteArray := prog_4_method_2_code
def yX2_get : MethodName := ⟨RX2, "get", "(I)I"⟩
abbrev cX2_set : ByteArray := prog_4_method_3_code
def yX2_set : MethodName := ⟨RX2, "set", "(II)V"⟩
abbrev cX2_clear : ByteArray := prog_4_method_4_code
def yX2_clear : MethodName := ⟨RX2, "clear", "()V"⟩
abbrev cX2_filled : ByteArray := prog_4_method_5_code
def yX2_filled : MethodName := ⟨RX2, "filled", "()I"⟩
abbrev cX2_takeOver : ByteArray := prog_4_method_6_code
def yX2_takeOver : MethodName := ⟨RX2, "takeOver", "(LDiskRekeying$Row;)V"⟩
def RX3 : String := "DiskRekeying$Script"
def TX3 : u_T := fun k => match k with
  | 0 => ("DiskRekeying$Script", "codes", "LDiskRekeying$Row;", true)
  | 1 => ("DiskRekeying$Script", "letters", "LDiskRekeying$Row;", true)
  | 2 => ("DiskRekeying$Script", "sectors", "LDiskRekeying$Row;", true)
  | 3 => ("DiskRekeying$Script", "numbers", "LDiskRekeying$Row;", true)
  | _ => ("DiskRekeying$Script", "length", "I", false)
def tyX3 : Nat → FieldType := fun k => match k with
  | 0 => .object "DiskRekeying$Row"
  | 1 => .object "DiskRekeying$Row"
  | 2 => .object "DiskRekeying$Row"
  | 3 => .object "DiskRekeying$Row"
  | _ => .int
abbrev wsX30 : List Cond := u_ws RX3 TX3 5
theorem nmX3 : ∀ a, a < 5 → ∀ b, b < 5 → a ≠ b → (TX3 a).2.1 ≠ (TX3 b).2.1 := by decide +kernel
theorem tyX3_ok : ∀ k, k < 5 → parseFieldDescriptor (TX3 k).2.2.1 = some (tyX3 k) := by decide +kernel
abbrev cX3_init : ByteArray := prog_5_method_1_code
def yX3_init : MethodName := ⟨RX3, "<init>", "()V"⟩
abbrev cX3_append : ByteArray := prog_5_method_2_code
def yX3_append : MethodName := ⟨RX3, "append", "(I)I"⟩
abbrev cX3_empty : ByteArray := prog_5_method_3_code
def yX3_empty : MethodName := ⟨RX3, "empty", "()I"⟩
abbrev cX3_firstError : ByteArray := prog_5_method_4_code
def yX3_firstError : MethodName := ⟨RX3, "firstError", "()I"⟩
abbrev cX3_placeBehind : ByteArray := prog_5_method_5_code
def yX3_placeBehind : MethodName := ⟨RX3, "placeBehind", "(II)I"⟩
abbrev cX3_placeBehindLetter : ByteArray := prog_5_method_6_code
def yX3_placeBehindLetter : MethodName := ⟨RX3, "placeBehindLetter", "(I)I"⟩
abbrev cX3_isDigit : ByteArray := prog_5_method_7_code
def yX3_isDigit : MethodName := ⟨RX3, "isDigit", "(I)Z"⟩
abbrev cX3_split : ByteArray := prog_5_method_8_code
def yX3_split : MethodName := ⟨RX3, "split", "()I"⟩
abbrev cX3_letter : ByteArray := prog_5_method_9_code
def yX3_letter : MethodName := ⟨RX3, "letter", "(I)I"⟩
abbrev cX3_sector : ByteArray := prog_5_method_10_code
def yX3_sector : MethodName := ⟨RX3, "sector", "(I)I"⟩
abbrev cX3_number : ByteArray := prog_5_method_11_code
def yX3_number : MethodName := ⟨RX3, "number", "(I)I"⟩
def RX4 : String := "DiskRekeying"
def TX4 : u_T := fun k => match k with
  | 0 => ("DiskRekeying", "disk", "LDiskRekeying$Disk;", true)
  | 1 => ("DiskRekeying", "trial", "LDiskRekeying$Disk;", true)
  | 2 => ("DiskRekeying", "history", "LDiskRekeying$History;", true)
  | _ => ("DiskRekeying", "script", "LDiskRekeying$Script;", true)
def tyX4 : Nat → FieldType := fun k => match k with
  | 0 => .object "DiskRekeying$Disk"
  | 1 => .object "DiskRekeying$Disk"
  | 2 => .object "DiskRekeying$History"
  | _ => .object "DiskRekeying$Script"
abbrev wsX40 : List Cond := u_ws RX4 TX4 4
theorem nmX4 : ∀ a, a < 4 → ∀ b, b < 4 → a ≠ b → (TX4 a).2.1 ≠ (TX4 b).2.1 := by decide +kernel
theorem tyX4_ok : ∀ k, k < 4 → parseFieldDescriptor (TX4 k).2.2.1 = some (tyX4 k) := by decide +kernel
abbrev cX4_init : ByteArray := prog_1_method_1_code
def yX4_init : MethodName := ⟨RX4, "<init>", "()V"⟩
abbrev cX4_format : ByteArray := prog_1_method_2_code
def yX4_format : MethodName := ⟨RX4, "format", "(I)I"⟩
abbrev cX4_addKey : ByteArray := prog_1_method_3_code
def yX4_addKey : MethodName := ⟨RX4, "addKey", "(II)I"⟩
abbrev cX4_removeKey : ByteArray := prog_1_method_4_code
def yX4_removeKey : MethodName := ⟨RX4, "removeKey", "(I)I"⟩
abbrev cX4_secretOf : ByteArray := prog_1_method_5_code
def yX4_secretOf : MethodName := ⟨RX4, "secretOf", "(I)I"⟩
abbrev cX4_setZone : ByteArray := prog_1_method_6_code
def yX4_setZone : MethodName := ⟨RX4, "setZone", "(I)I"⟩
abbrev cX4_setJournal : ByteArray := prog_1_method_7_code
def yX4_setJournal : MethodName := ⟨RX4, "setJournal", "(I)I"⟩
abbrev cX4_start : ByteArray := prog_1_method_8_code
def yX4_start : MethodName := ⟨RX4, "start", "(I)I"⟩
abbrev cX4_steps : ByteArray := prog_1_method_9_code
def yX4_steps : MethodName := ⟨RX4, "steps", "(I)I"⟩
abbrev cX4_turnBack : ByteArray := prog_1_method_10_code
def yX4_turnBack : MethodName := ⟨RX4, "turnBack", "()I"⟩
abbrev cX4_write : ByteArray := prog_1_method_11_code
def yX4_write : MethodName := ⟨RX4, "write", "(II)I"⟩
abbrev cX4_flush : ByteArray := prog_1_method_12_code
def yX4_flush : MethodName := ⟨RX4, "flush", "()I"⟩
abbrev cX4_fail : ByteArray := prog_1_method_13_code
def yX4_fail : MethodName := ⟨RX4, "fail", "()I"⟩
abbrev cX4_count : ByteArray := prog_1_method_14_code
def yX4_count : MethodName := ⟨RX4, "count", "(I)I"⟩
abbrev cX4_read : ByteArray := prog_1_method_15_code
def yX4_read : MethodName := ⟨RX4, "read", "(I)I"⟩
abbrev cX4_stored : ByteArray := prog_1_method_16_code
def yX4_stored : MethodName := ⟨RX4, "stored", "(I)I"⟩
abbrev cX4_keyOf : ByteArray := prog_1_method_17_code
def yX4_keyOf : MethodName := ⟨RX4, "keyOf", "(I)I"⟩
abbrev cX4_journal : ByteArray := prog_1_method_18_code
def yX4_journal : MethodName := ⟨RX4, "journal", "(I)I"⟩
abbrev cX4_cached : ByteArray := prog_1_method_19_code
def yX4_cached : MethodName := ⟨RX4, "cached", "(I)I"⟩
abbrev cX4_zoneStart : ByteArray := prog_1_method_20_code
def yX4_zoneStart : MethodName := ⟨RX4, "zoneStart", "()I"⟩
abbrev cX4_damaged : ByteArray := prog_1_method_21_code
def yX4_damaged : MethodName := ⟨RX4, "damaged", "()I"⟩
abbrev cX4_firstDamaged : ByteArray := prog_1_method_22_code
def yX4_firstDamaged : MethodName := ⟨RX4, "firstDamaged", "()I"⟩
abbrev cX4_stepsLeft : ByteArray := prog_1_method_23_code
def yX4_stepsLeft : MethodName := ⟨RX4, "stepsLeft", "()I"⟩
abbrev cX4_ifFailed : ByteArray := prog_1_method_24_code
def yX4_ifFailed : MethodName := ⟨RX4, "ifFailed", "(I)I"⟩
abbrev cX4_worstTime : ByteArray := prog_1_method_25_code
def yX4_worstTime : MethodName := ⟨RX4, "worstTime", "()I"⟩
abbrev cX4_ifFlushed : ByteArray := prog_1_method_26_code
def yX4_ifFlushed : MethodName := ⟨RX4, "ifFlushed", "(I)I"⟩
abbrev cX4_type : ByteArray := prog_1_method_27_code
def yX4_type : MethodName := ⟨RX4, "type", "(I)I"⟩
abbrev cX4_clearText : ByteArray := prog_1_method_28_code
def yX4_clearText : MethodName := ⟨RX4, "clearText", "()I"⟩
abbrev cX4_syntaxError : ByteArray := prog_1_method_29_code
def yX4_syntaxError : MethodName := ⟨RX4, "syntaxError", "()I"⟩
abbrev cX4_carryOut : ByteArray := prog_1_method_30_code
def yX4_carryOut : MethodName := ⟨RX4, "carryOut", "()I"⟩
abbrev cX4_undo : ByteArray := prog_1_method_31_code
def yX4_undo : MethodName := ⟨RX4, "undo", "()I"⟩
abbrev cX4_digest : ByteArray := prog_1_method_32_code
def yX4_digest : MethodName := ⟨RX4, "digest", "()J"⟩
abbrev cX4_withKeys : ByteArray := prog_1_method_33_code
def yX4_withKeys : MethodName := ⟨RX4, "withKeys", "(J)J"⟩
abbrev cX4_withSectors : ByteArray := prog_1_method_34_code
def yX4_withSectors : MethodName := ⟨RX4, "withSectors", "(J)J"⟩
abbrev cX4_orNone : ByteArray := prog_1_method_35_code
def yX4_orNone : MethodName := ⟨RX4, "orNone", "(I)I"⟩
def RX5 : String := "DiskRekeyingModel"
def TX5 : u_T := fun k => match k with
  | 0 => ("DiskRekeyingModel", "state", "[I", true)
  | 1 => ("DiskRekeyingModel", "kept", "[I", true)
  | 2 => ("DiskRekeyingModel", "then", "[I", true)
  | 3 => ("DiskRekeyingModel", "history", "[I", true)
  | 4 => ("DiskRekeyingModel", "recorded", "I", false)
  | 5 => ("DiskRekeyingModel", "text", "[I", true)
  | 6 => ("DiskRekeyingModel", "textLength", "I", false)
  | 7 => ("DiskRekeyingModel", "values", "[I", true)
  | 8 => ("DiskRekeyingModel", "at", "I", false)
  | 9 => ("DiskRekeyingModel", "letter", "I", false)
  | 10 => ("DiskRekeyingModel", "one", "I", false)
  | 11 => ("DiskRekeyingModel", "two", "I", false)
  | _ => ("DiskRekeyingModel", "number", "I", false)
def tyX5 : Nat → FieldType := fun k => match k with
  | 0 => .array .int
  | 1 => .array .int
  | 2 => .array .int
  | 3 => .array .int
  | 4 => .int
  | 5 => .array .int
  | 6 => .int
  | 7 => .array .int
  | 8 => .int
  | 9 => .int
  | 10 => .int
  | 11 => .int
  | _ => .int
abbrev wsX50 : List Cond := u_ws RX5 TX5 13
theorem nmX5 : ∀ a, a < 13 → ∀ b, b < 13 → a ≠ b → (TX5 a).2.1 ≠ (TX5 b).2.1 := by decide +kernel
theorem tyX5_ok : ∀ k, k < 13 → parseFieldDescriptor (TX5 k).2.2.1 = some (tyX5 k) := by decide +kernel
abbrev cX5_init : ByteArray := prog_7_method_1_code
def yX5_init : MethodName := ⟨RX5, "<init>", "()V"⟩
abbrev cX5_within : ByteArray := prog_7_method_3_code
def yX5_within : MethodName := ⟨RX5, "within", "(III)Z"⟩
abbrev cX5_copies : ByteArray := prog_7_method_4_code
def yX5_copies : MethodName := ⟨RX5, "copies", "([II[II)V"⟩
abbrev cX5_record : ByteArray := prog_7_method_5_code
def yX5_record : MethodName := ⟨RX5, "record", "()V"⟩
abbrev cX5_scramble : ByteArray := prog_7_method_6_code
def yX5_scramble : MethodName := ⟨RX5, "scramble", "(III)I"⟩
abbrev cX5_formats : ByteArray := prog_7_method_7_code
def yX5_formats : MethodName := ⟨RX5, "formats", "(I)V"⟩
abbrev cX5_ends : ByteArray := prog_7_method_8_code
def yX5_ends : MethodName := ⟨RX5, "ends", "()V"⟩
abbrev cX5_closes : ByteArray := prog_7_method_9_code
def yX5_closes : MethodName := ⟨RX5, "closes", "()V"⟩
abbrev cX5_isRekeying : ByteArray := prog_7_method_10_code
def yX5_isRekeying : MethodName := ⟨RX5, "isRekeying", "()Z"⟩
abbrev cX5_isOpen : ByteArray := prog_7_method_11_code
def yX5_isOpen : MethodName := ⟨RX5, "isOpen", "()Z"⟩
abbrev cX5_isSector : ByteArray := prog_7_method_12_code
def yX5_isSector : MethodName := ⟨RX5, "isSector", "(I)Z"⟩
abbrev cX5_isKey : ByteArray := prog_7_method_13_code
def yX5_isKey : MethodName := ⟨RX5, "isKey", "(I)Z"⟩
abbrev cX5_keysMany : ByteArray := prog_7_method_14_code
def yX5_keysMany : MethodName := ⟨RX5, "keysMany", "()I"⟩
abbrev cX5_zoneFrom : ByteArray := prog_7_method_15_code
def yX5_zoneFrom : MethodName := ⟨RX5, "zoneFrom", "()I"⟩
abbrev cX5_zoneTo : ByteArray := prog_7_method_16_code
def yX5_zoneTo : MethodName := ⟨RX5, "zoneTo", "()I"⟩
abbrev cX5_isInZone : ByteArray := prog_7_method_17_code
def yX5_isInZone : MethodName := ⟨RX5, "isInZone", "(I)Z"⟩
abbrev cX5_isRewritten : ByteArray := prog_7_method_18_code
def yX5_isRewritten : MethodName := ⟨RX5, "isRewritten", "(I)Z"⟩
abbrev cX5_keyAt : ByteArray := prog_7_method_19_code
def yX5_keyAt : MethodName := ⟨RX5, "keyAt", "(I)I"⟩
abbrev cX5_secretAt : ByteArray := prog_7_method_20_code
def yX5_secretAt : MethodName := ⟨RX5, "secretAt", "(I)I"⟩
abbrev cX5_plain : ByteArray := prog_7_method_21_code
def yX5_plain : MethodName := ⟨RX5, "plain", "(I)I"⟩
abbrev cX5_valueOf : ByteArray := prog_7_method_22_code
def yX5_valueOf : MethodName := ⟨RX5, "valueOf", "(I)I"⟩
abbrev cX5_makesStep : ByteArray := prog_7_method_23_code
def yX5_makesStep : MethodName := ⟨RX5, "makesStep", "()V"⟩
abbrev cX5_endsAtEnd : ByteArray := prog_7_method_24_code
def yX5_endsAtEnd : MethodName := ⟨RX5, "endsAtEnd", "()V"⟩
abbrev cX5_makesSteps : ByteArray := prog_7_method_25_code
def yX5_makesSteps : MethodName := ⟨RX5, "makesSteps", "(I)I"⟩
abbrev cX5_left : ByteArray := prog_7_method_26_code
def yX5_left : MethodName := ⟨RX5, "left", "()I"⟩
abbrev cX5_fails : ByteArray := prog_7_method_27_code
def yX5_fails : MethodName := ⟨RX5, "fails", "()V"⟩
abbrev cX5_damagedMany : ByteArray := prog_7_method_28_code
def yX5_damagedMany : MethodName := ⟨RX5, "damagedMany", "()I"⟩
abbrev cX5_format : ByteArray := prog_7_method_29_code
def yX5_format : MethodName := ⟨RX5, "format", "(I)I"⟩
abbrev cX5_addKey : ByteArray := prog_7_method_30_code
def yX5_addKey : MethodName := ⟨RX5, "addKey", "(II)I"⟩
abbrev cX5_removeKey : ByteArray := prog_7_method_31_code
def yX5_removeKey : MethodName := ⟨RX5, "removeKey", "(I)I"⟩
abbrev cX5_secretOf : ByteArray := prog_7_method_32_code
def yX5_secretOf : MethodName := ⟨RX5, "secretOf", "(I)I"⟩
abbrev cX5_sets : ByteArray := prog_7_method_33_code
def yX5_sets : MethodName := ⟨RX5, "sets", "(II)I"⟩
abbrev cX5_setZone : ByteArray := prog_7_method_34_code
def yX5_setZone : MethodName := ⟨RX5, "setZone", "(I)I"⟩
abbrev cX5_setJournal : ByteArray := prog_7_method_35_code
def yX5_setJournal : MethodName := ⟨RX5, "setJournal", "(I)I"⟩
abbrev cX5_start : ByteArray := prog_7_method_36_code
def yX5_start : MethodName := ⟨RX5, "start", "(I)I"⟩
abbrev cX5_whyNotSteps : ByteArray := prog_7_method_37_code
def yX5_whyNotSteps : MethodName := ⟨RX5, "whyNotSteps", "(I)I"⟩
abbrev cX5_steps : ByteArray := prog_7_method_38_code
def yX5_steps : MethodName := ⟨RX5, "steps", "(I)I"⟩
abbrev cX5_whyNotTurned : ByteArray := prog_7_method_39_code
def yX5_whyNotTurned : MethodName := ⟨RX5, "whyNotTurned", "()I"⟩
abbrev cX5_turns : ByteArray := prog_7_method_40_code
def yX5_turns : MethodName := ⟨RX5, "turns", "()I"⟩
abbrev cX5_turnBack : ByteArray := prog_7_method_41_code
def yX5_turnBack : MethodName := ⟨RX5, "turnBack", "()I"⟩
abbrev cX5_cachedMany : ByteArray := prog_7_method_42_code
def yX5_cachedMany : MethodName := ⟨RX5, "cachedMany", "()I"⟩
abbrev cX5_whyNotWritten : ByteArray := prog_7_method_43_code
def yX5_whyNotWritten : MethodName := ⟨RX5, "whyNotWritten", "(II)I"⟩
abbrev cX5_writes : ByteArray := prog_7_method_44_code
def yX5_writes : MethodName := ⟨RX5, "writes", "(II)I"⟩
abbrev cX5_write : ByteArray := prog_7_method_45_code
def yX5_write : MethodName := ⟨RX5, "write", "(II)I"⟩
abbrev cX5_canFlush : ByteArray := prog_7_method_46_code
def yX5_canFlush : MethodName := ⟨RX5, "canFlush", "(I)Z"⟩
abbrev cX5_formThen : ByteArray := prog_7_method_47_code
def yX5_formThen : MethodName := ⟨RX5, "formThen", "(I)I"⟩
abbrev cX5_flushes : ByteArray := prog_7_method_48_code
def yX5_flushes : MethodName := ⟨RX5, "flushes", "()I"⟩
abbrev cX5_flush : ByteArray := prog_7_method_49_code
def yX5_flush : MethodName := ⟨RX5, "flush", "()I"⟩
abbrev cX5_fail : ByteArray := prog_7_method_50_code
def yX5_fail : MethodName := ⟨RX5, "fail", "()I"⟩
abbrev cX5_countOf : ByteArray := prog_7_method_51_code
def yX5_countOf : MethodName := ⟨RX5, "countOf", "(I)I"⟩
abbrev cX5_count : ByteArray := prog_7_method_52_code
def yX5_count : MethodName := ⟨RX5, "count", "(I)I"⟩
abbrev cX5_read : ByteArray := prog_7_method_53_code
def yX5_read : MethodName := ⟨RX5, "read", "(I)I"⟩
abbrev cX5_stored : ByteArray := prog_7_method_54_code
def yX5_stored : MethodName := ⟨RX5, "stored", "(I)I"⟩
abbrev cX5_keyOf : ByteArray := prog_7_method_55_code
def yX5_keyOf : MethodName := ⟨RX5, "keyOf", "(I)I"⟩
abbrev cX5_journal : ByteArray := prog_7_method_56_code
def yX5_journal : MethodName := ⟨RX5, "journal", "(I)I"⟩
abbrev cX5_cached : ByteArray := prog_7_method_57_code
def yX5_cached : MethodName := ⟨RX5, "cached", "(I)I"⟩
abbrev cX5_zoneStart : ByteArray := prog_7_method_58_code
def yX5_zoneStart : MethodName := ⟨RX5, "zoneStart", "()I"⟩
abbrev cX5_damaged : ByteArray := prog_7_method_59_code
def yX5_damaged : MethodName := ⟨RX5, "damaged", "()I"⟩
abbrev cX5_firstOne : ByteArray := prog_7_method_60_code
def yX5_firstOne : MethodName := ⟨RX5, "firstOne", "()I"⟩
abbrev cX5_firstDamaged : ByteArray := prog_7_method_61_code
def yX5_firstDamaged : MethodName := ⟨RX5, "firstDamaged", "()I"⟩
abbrev cX5_stepsLeft : ByteArray := prog_7_method_62_code
def yX5_stepsLeft : MethodName := ⟨RX5, "stepsLeft", "()I"⟩
abbrev cX5_damagedThen : ByteArray := prog_7_method_63_code
def yX5_damagedThen : MethodName := ⟨RX5, "damagedThen", "()I"⟩
abbrev cX5_ifFailed : ByteArray := prog_7_method_64_code
def yX5_ifFailed : MethodName := ⟨RX5, "ifFailed", "(I)I"⟩
abbrev cX5_worstTime : ByteArray := prog_7_method_65_code
def yX5_worstTime : MethodName := ⟨RX5, "worstTime", "()I"⟩
abbrev cX5_ifFlushed : ByteArray := prog_7_method_66_code
def yX5_ifFlushed : MethodName := ⟨RX5, "ifFlushed", "(I)I"⟩
abbrev cX5_type : ByteArray := prog_7_method_67_code
def yX5_type : MethodName := ⟨RX5, "type", "(I)I"⟩
abbrev cX5_clearText : ByteArray := prog_7_method_68_code
def yX5_clearText : MethodName := ⟨RX5, "clearText", "()I"⟩
abbrev cX5_character : ByteArray := prog_7_method_69_code
def yX5_character : MethodName := ⟨RX5, "character", "(I)I"⟩
abbrev cX5_isNext : ByteArray := prog_7_method_70_code
def yX5_isNext : MethodName := ⟨RX5, "isNext", "(I)Z"⟩
abbrev cX5_readsNumber : ByteArray := prog_7_method_71_code
def yX5_readsNumber : MethodName := ⟨RX5, "readsNumber", "()Z"⟩
abbrev cX5_readsCommand : ByteArray := prog_7_method_72_code
def yX5_readsCommand : MethodName := ⟨RX5, "readsCommand", "()Z"⟩
abbrev cX5_findError : ByteArray := prog_7_method_73_code
def yX5_findError : MethodName := ⟨RX5, "findError", "()I"⟩
abbrev cX5_syntaxError : ByteArray := prog_7_method_74_code
def yX5_syntaxError : MethodName := ⟨RX5, "syntaxError", "()I"⟩
abbrev cX5_whyNotDone : ByteArray := prog_7_method_75_code
def yX5_whyNotDone : MethodName := ⟨RX5, "whyNotDone", "()I"⟩
abbrev cX5_does : ByteArray := prog_7_method_76_code
def yX5_does : MethodName := ⟨RX5, "does", "()V"⟩
abbrev cX5_carryOut : ByteArray := prog_7_method_77_code
def yX5_carryOut : MethodName := ⟨RX5, "carryOut", "()I"⟩
abbrev cX5_undo : ByteArray := prog_7_method_78_code
def yX5_undo : MethodName := ⟨RX5, "undo", "()I"⟩
abbrev cX5_digest : ByteArray := prog_7_method_79_code
def yX5_digest : MethodName := ⟨RX5, "digest", "()J"⟩
def RL : String := "DiskRekeyingLaw"
abbrev cL_law : ByteArray := code
def yL_law : MethodName := ⟨RL, "law", "([I)Z"⟩
abbrev vwCl : List vw_C := [(RX0, TX0, 15), (RX1, TX1, 3), (RX2, TX2, 1), (RX3, TX3, 5), (RX4, TX4, 4), (RX5, TX5, 13)]
/-- the words of the tables that a call takes along -/
def dk_tbl : List Cond := lw_tbl.filter goodWord
theorem dk_tw {w : Cond} (i : Nat) (h : tables_1[i]? = some w ∧ goodWord w = true) : w ∈ dk_tbl := List.mem_filter.mpr ⟨List.mem_append_right _ (List.mem_of_getElem? h.1), h.2⟩
theorem dk_sw {w : Cond} (i : Nat) (h : (k2_sels lw_privs)[i]? = some w ∧ goodWord w = true) : w ∈ dk_tbl := List.mem_filter.mpr ⟨List.mem_append_left _ (List.mem_of_getElem? h.1), h.2⟩
theorem dk_good : dk_tbl.all goodWord = true := List.all_eq_true.mpr fun w h => (List.mem_filter.mp h).2
theorem uwX0 : ∀ w ∈ wsX00, w ∈ dk_tbl := fun w h => List.mem_filter.mpr ⟨List.mem_append_right _ ((by decide +kernel : ∀ w ∈ wsX00, w ∈ tables_1) w h), (by decide +kernel : ∀ w ∈ wsX00, goodWord w = true) w h⟩
theorem uwX1 : ∀ w ∈ wsX10, w ∈ dk_tbl := fun w h => List.mem_filter.mpr ⟨List.mem_append_right _ ((by decide +kernel : ∀ w ∈ wsX10, w ∈ tables_1) w h), (by decide +kernel : ∀ w ∈ wsX10, goodWord w = true) w h⟩
theorem uwX2 : ∀ w ∈ wsX20, w ∈ dk_tbl := fun w h => List.mem_filter.mpr ⟨List.mem_append_right _ ((by decide +kernel : ∀ w ∈ wsX20, w ∈ tables_1) w h), (by decide +kernel : ∀ w ∈ wsX20, goodWord w = true) w h⟩
theorem uwX3 : ∀ w ∈ wsX30, w ∈ dk_tbl := fun w h => List.mem_filter.mpr ⟨List.mem_append_right _ ((by decide +kernel : ∀ w ∈ wsX30, w ∈ tables_1) w h), (by decide +kernel : ∀ w ∈ wsX30, goodWord w = true) w h⟩
theorem uwX4 : ∀ w ∈ wsX40, w ∈ dk_tbl := fun w h => List.mem_filter.mpr ⟨List.mem_append_right _ ((by decide +kernel : ∀ w ∈ wsX40, w ∈ tables_1) w h), (by decide +kernel : ∀ w ∈ wsX40, goodWord w = true) w h⟩
theorem uwX5 : ∀ w ∈ wsX50, w ∈ dk_tbl := fun w h => List.mem_filter.mpr ⟨List.mem_append_right _ ((by decide +kernel : ∀ w ∈ wsX50, w ∈ tables_1) w h), (by decide +kernel : ∀ w ∈ wsX50, goodWord w = true) w h⟩
/-- a method's words: its class, its code, its number of parameters -/
def dk_mw (C : String) (y : MethodName) (cc : ByteArray) (nL : Nat) (ret : Option FieldType) (n : Nat) : Prop := (y.cls = C ∧ y.cls ≠ "java/lang/invoke/MethodHandle" ∧ y.cls ≠ "java/lang/invoke/VarHandle" ∧ (parseMethodDescriptor y.desc).map (fun d => d.parameters.length) = some n) ∧ plainName y.cls = true ∧ Cond.code y cc nL ret ∈ dk_tbl ∧ Cond.initialized C ∈ dk_tbl
def dk_mv (C : String) (y : MethodName) (cc : ByteArray) (nL : Nat) (ret : Option FieldType) (n : Nat) : Prop := dk_mw C y cc nL ret n ∧ Cond.instanceMethod y ∈ dk_tbl ∧ Cond.selects C y y ∈ dk_tbl
def dk_ms (C : String) (y : MethodName) (cc : ByteArray) (nL : Nat) (ret : Option FieldType) (n : Nat) : Prop := dk_mw C y cc nL ret n ∧ Cond.static y ∈ dk_tbl
def dk_mi (C : String) (y : MethodName) (cc : ByteArray) (nL : Nat) (ret : Option FieldType) (n : Nat) : Prop := dk_mw C y cc nL ret n ∧ Cond.instanceMethod y ∈ dk_tbl
theorem mwX4_init : dk_mi RX4 yX4_init cX4_init 1 none 0 := ⟨⟨⟨rfl, by decide +kernel, by decide +kernel, by decide +kernel⟩, by decide +kernel, dk_tw 12 (by decide +kernel), dk_tw 1 (by decide +kernel)⟩, dk_tw 11 (by decide +kernel)⟩
theorem mwX0_init : dk_mi RX0 yX0_init cX0_init 1 none 0 := ⟨⟨⟨rfl, by decide +kernel, by decide +kernel, by decide +kernel⟩, by decide +kernel, dk_tw 20 (by decide +kernel), dk_tw 2 (by decide +kernel)⟩, dk_tw 19 (by decide +kernel)⟩
theorem mwX2_init : dk_mi RX2 yX2_init cX2_init 2 none 1 := ⟨⟨⟨rfl, by decide +kernel, by decide +kernel, by decide +kernel⟩, by decide +kernel, dk_tw 26 (by decide +kernel), dk_tw 3 (by decide +kernel)⟩, dk_tw 25 (by decide +kernel)⟩
theorem mwX2_clear : dk_mv RX2 yX2_clear cX2_clear 2 none 0 := ⟨⟨⟨rfl, by decide +kernel, by decide +kernel, by decide +kernel⟩, by decide +kernel, dk_tw 34 (by decide +kernel), dk_tw 3 (by decide +kernel)⟩, dk_tw 32 (by decide +kernel), dk_tw 33 (by decide +kernel)⟩
theorem mwX2_set : dk_mv RX2 yX2_set cX2_set 3 none 2 := ⟨⟨⟨rfl, by decide +kernel, by decide +kernel, by decide +kernel⟩, by decide +kernel, dk_tw 43 (by decide +kernel), dk_tw 3 (by decide +kernel)⟩, dk_tw 41 (by decide +kernel), dk_tw 42 (by decide +kernel)⟩
theorem mwX0_fillWithZeros : dk_mv RX0 yX0_fillWithZeros cX0_fillWithZeros 2 none 0 := ⟨⟨⟨rfl, by decide +kernel, by decide +kernel, by decide +kernel⟩, by decide +kernel, dk_tw 47 (by decide +kernel), dk_tw 2 (by decide +kernel)⟩, dk_tw 46 (by decide +kernel), dk_sw 0 (by decide +kernel)⟩
theorem mwX0_exchange : dk_mv RX0 yX0_exchange cX0_exchange 5 (some .int) 3 := ⟨⟨⟨rfl, by decide +kernel, by decide +kernel, by decide +kernel⟩, by decide +kernel, dk_tw 52 (by decide +kernel), dk_tw 2 (by decide +kernel)⟩, dk_tw 51 (by decide +kernel), dk_sw 1 (by decide +kernel)⟩
theorem mwX2_get : dk_mv RX2 yX2_get cX2_get 2 (some .int) 1 := ⟨⟨⟨rfl, by decide +kernel, by decide +kernel, by decide +kernel⟩, by decide +kernel, dk_tw 57 (by decide +kernel), dk_tw 3 (by decide +kernel)⟩, dk_tw 55 (by decide +kernel), dk_tw 56 (by decide +kernel)⟩
theorem mwX1_init : dk_mi RX1 yX1_init cX1_init 2 none 0 := ⟨⟨⟨rfl, by decide +kernel, by decide +kernel, by decide +kernel⟩, by decide +kernel, dk_tw 109 (by decide +kernel), dk_tw 5 (by decide +kernel)⟩, dk_tw 108 (by decide +kernel)⟩
theorem mwX3_init : dk_mi RX3 yX3_init cX3_init 1 none 0 := ⟨⟨⟨rfl, by decide +kernel, by decide +kernel, by decide +kernel⟩, by decide +kernel, dk_tw 128 (by decide +kernel), dk_tw 6 (by decide +kernel)⟩, dk_tw 127 (by decide +kernel)⟩
theorem mwX4_format : dk_mv RX4 yX4_format cX4_format 2 (some .int) 1 := ⟨⟨⟨rfl, by decide +kernel, by decide +kernel, by decide +kernel⟩, by decide +kernel, dk_tw 164 (by decide +kernel), dk_tw 1 (by decide +kernel)⟩, dk_tw 162 (by decide +kernel), dk_tw 163 (by decide +kernel)⟩
theorem mwX1_draft : dk_mv RX1 yX1_draft cX1_draft 3 none 1 := ⟨⟨⟨rfl, by decide +kernel, by decide +kernel, by decide +kernel⟩, by decide +kernel, dk_tw 168 (by decide +kernel), dk_tw 5 (by decide +kernel)⟩, dk_tw 166 (by decide +kernel), dk_tw 167 (by decide +kernel)⟩
theorem mwX1_slot : dk_mv RX1 yX1_slot cX1_slot 2 (some (.object "DiskRekeying$Disk")) 1 := ⟨⟨⟨rfl, by decide +kernel, by decide +kernel, by decide +kernel⟩, by decide +kernel, dk_tw 172 (by decide +kernel), dk_tw 5 (by decide +kernel)⟩, dk_tw 171 (by decide +kernel), dk_sw 2 (by decide +kernel)⟩
theorem mwX0_takeOver : dk_mv RX0 yX0_takeOver cX0_takeOver 2 none 1 := ⟨⟨⟨rfl, by decide +kernel, by decide +kernel, by decide +kernel⟩, by decide +kernel, dk_tw 176 (by decide +kernel), dk_tw 2 (by decide +kernel)⟩, dk_tw 174 (by decide +kernel), dk_tw 175 (by decide +kernel)⟩
theorem mwX2_takeOver : dk_mv RX2 yX2_takeOver cX2_takeOver 3 none 1 := ⟨⟨⟨rfl, by decide +kernel, by decide +kernel, by decide +kernel⟩, by decide +kernel, dk_tw 180 (by decide +kernel), dk_tw 3 (by decide +kernel)⟩, dk_tw 178 (by decide +kernel), dk_tw 179 (by decide +kernel)⟩
theorem mwX0_reformat : dk_mv RX0 yX0_reformat cX0_reformat 3 (some .int) 1 := ⟨⟨⟨rfl, by decide +kernel, by decide +kernel, by decide +kernel⟩, by decide +kernel, dk_tw 185 (by decide +kernel), dk_tw 2 (by decide +kernel)⟩, dk_tw 183 (by decide +kernel), dk_tw 184 (by decide +kernel)⟩
theorem mwX0_closeZone : dk_mv RX0 yX0_closeZone cX0_closeZone 1 none 0 := ⟨⟨⟨rfl, by decide +kernel, by decide +kernel, by decide +kernel⟩, by decide +kernel, dk_tw 189 (by decide +kernel), dk_tw 2 (by decide +kernel)⟩, dk_tw 188 (by decide +kernel), dk_sw 3 (by decide +kernel)⟩
theorem mwX1_keep : dk_mv RX1 yX1_keep cX1_keep 2 (some .int) 1 := ⟨⟨⟨rfl, by decide +kernel, by decide +kernel, by decide +kernel⟩, by decide +kernel, dk_tw 193 (by decide +kernel), dk_tw 5 (by decide +kernel)⟩, dk_tw 191 (by decide +kernel), dk_tw 192 (by decide +kernel)⟩
theorem mwX4_addKey : dk_mv RX4 yX4_addKey cX4_addKey 3 (some .int) 2 := ⟨⟨⟨rfl, by decide +kernel, by decide +kernel, by decide +kernel⟩, by decide +kernel, dk_tw 200 (by decide +kernel), dk_tw 1 (by decide +kernel)⟩, dk_tw 198 (by decide +kernel), dk_tw 199 (by decide +kernel)⟩
theorem mwX0_insertKey : dk_mv RX0 yX0_insertKey cX0_insertKey 3 (some .int) 2 := ⟨⟨⟨rfl, by decide +kernel, by decide +kernel, by decide +kernel⟩, by decide +kernel, dk_tw 204 (by decide +kernel), dk_tw 2 (by decide +kernel)⟩, dk_tw 202 (by decide +kernel), dk_tw 203 (by decide +kernel)⟩
theorem mwX0_hasKey : dk_mv RX0 yX0_hasKey cX0_hasKey 2 (some .boolean) 1 := ⟨⟨⟨rfl, by decide +kernel, by decide +kernel, by decide +kernel⟩, by decide +kernel, dk_tw 208 (by decide +kernel), dk_tw 2 (by decide +kernel)⟩, dk_tw 206 (by decide +kernel), dk_tw 207 (by decide +kernel)⟩
theorem mwX2_filled : dk_mv RX2 yX2_filled cX2_filled 3 (some .int) 0 := ⟨⟨⟨rfl, by decide +kernel, by decide +kernel, by decide +kernel⟩, by decide +kernel, dk_tw 212 (by decide +kernel), dk_tw 3 (by decide +kernel)⟩, dk_tw 210 (by decide +kernel), dk_tw 211 (by decide +kernel)⟩
theorem mwX4_removeKey : dk_mv RX4 yX4_removeKey cX4_removeKey 2 (some .int) 1 := ⟨⟨⟨rfl, by decide +kernel, by decide +kernel, by decide +kernel⟩, by decide +kernel, dk_tw 216 (by decide +kernel), dk_tw 1 (by decide +kernel)⟩, dk_tw 214 (by decide +kernel), dk_tw 215 (by decide +kernel)⟩
theorem mwX0_dropKey : dk_mv RX0 yX0_dropKey cX0_dropKey 2 (some .int) 1 := ⟨⟨⟨rfl, by decide +kernel, by decide +kernel, by decide +kernel⟩, by decide +kernel, dk_tw 220 (by decide +kernel), dk_tw 2 (by decide +kernel)⟩, dk_tw 218 (by decide +kernel), dk_tw 219 (by decide +kernel)⟩
theorem mwX4_secretOf : dk_mv RX4 yX4_secretOf cX4_secretOf 2 (some .int) 1 := ⟨⟨⟨rfl, by decide +kernel, by decide +kernel, by decide +kernel⟩, by decide +kernel, dk_tw 224 (by decide +kernel), dk_tw 1 (by decide +kernel)⟩, dk_tw 222 (by decide +kernel), dk_tw 223 (by decide +kernel)⟩
theorem mwX0_secretBehind : dk_mv RX0 yX0_secretBehind cX0_secretBehind 2 (some .int) 1 := ⟨⟨⟨rfl, by decide +kernel, by decide +kernel, by decide +kernel⟩, by decide +kernel, dk_tw 229 (by decide +kernel), dk_tw 2 (by decide +kernel)⟩, dk_tw 227 (by decide +kernel), dk_tw 228 (by decide +kernel)⟩
theorem mwX4_setZone : dk_mv RX4 yX4_setZone cX4_setZone 2 (some .int) 1 := ⟨⟨⟨rfl, by decide +kernel, by decide +kernel, by decide +kernel⟩, by decide +kernel, dk_tw 233 (by decide +kernel), dk_tw 1 (by decide +kernel)⟩, dk_tw 231 (by decide +kernel), dk_tw 232 (by decide +kernel)⟩
theorem mwX0_resizeZone : dk_mv RX0 yX0_resizeZone cX0_resizeZone 3 (some .int) 1 := ⟨⟨⟨rfl, by decide +kernel, by decide +kernel, by decide +kernel⟩, by decide +kernel, dk_tw 237 (by decide +kernel), dk_tw 2 (by decide +kernel)⟩, dk_tw 235 (by decide +kernel), dk_tw 236 (by decide +kernel)⟩
theorem mwX0_isZoneOpen : dk_mv RX0 yX0_isZoneOpen cX0_isZoneOpen 1 (some .boolean) 0 := ⟨⟨⟨rfl, by decide +kernel, by decide +kernel, by decide +kernel⟩, by decide +kernel, dk_tw 241 (by decide +kernel), dk_tw 2 (by decide +kernel)⟩, dk_tw 240 (by decide +kernel), dk_sw 4 (by decide +kernel)⟩
theorem mwX4_setJournal : dk_mv RX4 yX4_setJournal cX4_setJournal 2 (some .int) 1 := ⟨⟨⟨rfl, by decide +kernel, by decide +kernel, by decide +kernel⟩, by decide +kernel, dk_tw 245 (by decide +kernel), dk_tw 1 (by decide +kernel)⟩, dk_tw 243 (by decide +kernel), dk_tw 244 (by decide +kernel)⟩
theorem mwX0_switchJournal : dk_mv RX0 yX0_switchJournal cX0_switchJournal 3 (some .int) 1 := ⟨⟨⟨rfl, by decide +kernel, by decide +kernel, by decide +kernel⟩, by decide +kernel, dk_tw 249 (by decide +kernel), dk_tw 2 (by decide +kernel)⟩, dk_tw 247 (by decide +kernel), dk_tw 248 (by decide +kernel)⟩
theorem mwX4_start : dk_mv RX4 yX4_start cX4_start 2 (some .int) 1 := ⟨⟨⟨rfl, by decide +kernel, by decide +kernel, by decide +kernel⟩, by decide +kernel, dk_tw 253 (by decide +kernel), dk_tw 1 (by decide +kernel)⟩, dk_tw 251 (by decide +kernel), dk_tw 252 (by decide +kernel)⟩
theorem mwX0_begin : dk_mv RX0 yX0_begin cX0_begin 2 (some .int) 1 := ⟨⟨⟨rfl, by decide +kernel, by decide +kernel, by decide +kernel⟩, by decide +kernel, dk_tw 257 (by decide +kernel), dk_tw 2 (by decide +kernel)⟩, dk_tw 255 (by decide +kernel), dk_tw 256 (by decide +kernel)⟩
theorem mwX0_isRekeying : dk_mv RX0 yX0_isRekeying cX0_isRekeying 1 (some .boolean) 0 := ⟨⟨⟨rfl, by decide +kernel, by decide +kernel, by decide +kernel⟩, by decide +kernel, dk_tw 261 (by decide +kernel), dk_tw 2 (by decide +kernel)⟩, dk_tw 259 (by decide +kernel), dk_tw 260 (by decide +kernel)⟩
theorem mwX0_stepsAhead : dk_mv RX0 yX0_stepsAhead cX0_stepsAhead 4 (some .int) 0 := ⟨⟨⟨rfl, by decide +kernel, by decide +kernel, by decide +kernel⟩, by decide +kernel, dk_tw 265 (by decide +kernel), dk_tw 2 (by decide +kernel)⟩, dk_tw 263 (by decide +kernel), dk_tw 264 (by decide +kernel)⟩
theorem mwX0_needsJournal : dk_mv RX0 yX0_needsJournal cX0_needsJournal 1 (some .boolean) 0 := ⟨⟨⟨rfl, by decide +kernel, by decide +kernel, by decide +kernel⟩, by decide +kernel, dk_tw 269 (by decide +kernel), dk_tw 2 (by decide +kernel)⟩, dk_tw 268 (by decide +kernel), dk_sw 5 (by decide +kernel)⟩
theorem mwX0_zoneEnd : dk_mv RX0 yX0_zoneEnd cX0_zoneEnd 1 (some .int) 0 := ⟨⟨⟨rfl, by decide +kernel, by decide +kernel, by decide +kernel⟩, by decide +kernel, dk_tw 273 (by decide +kernel), dk_tw 2 (by decide +kernel)⟩, dk_tw 272 (by decide +kernel), dk_sw 6 (by decide +kernel)⟩
theorem mwX0_zoneFirst : dk_mv RX0 yX0_zoneFirst cX0_zoneFirst 1 (some .int) 0 := ⟨⟨⟨rfl, by decide +kernel, by decide +kernel, by decide +kernel⟩, by decide +kernel, dk_tw 278 (by decide +kernel), dk_tw 2 (by decide +kernel)⟩, dk_tw 276 (by decide +kernel), dk_tw 277 (by decide +kernel)⟩
theorem mwX4_steps : dk_mv RX4 yX4_steps cX4_steps 2 (some .int) 1 := ⟨⟨⟨rfl, by decide +kernel, by decide +kernel, by decide +kernel⟩, by decide +kernel, dk_tw 283 (by decide +kernel), dk_tw 1 (by decide +kernel)⟩, dk_tw 281 (by decide +kernel), dk_tw 282 (by decide +kernel)⟩
theorem mwX0_advance : dk_mv RX0 yX0_advance cX0_advance 3 (some .int) 1 := ⟨⟨⟨rfl, by decide +kernel, by decide +kernel, by decide +kernel⟩, by decide +kernel, dk_tw 287 (by decide +kernel), dk_tw 2 (by decide +kernel)⟩, dk_tw 285 (by decide +kernel), dk_tw 286 (by decide +kernel)⟩
theorem mwX0_makeStep : dk_mv RX0 yX0_makeStep cX0_makeStep 2 none 0 := ⟨⟨⟨rfl, by decide +kernel, by decide +kernel, by decide +kernel⟩, by decide +kernel, dk_tw 291 (by decide +kernel), dk_tw 2 (by decide +kernel)⟩, dk_tw 289 (by decide +kernel), dk_tw 290 (by decide +kernel)⟩
theorem mwX0_rewriteNext : dk_mv RX0 yX0_rewriteNext cX0_rewriteNext 4 none 1 := ⟨⟨⟨rfl, by decide +kernel, by decide +kernel, by decide +kernel⟩, by decide +kernel, dk_tw 295 (by decide +kernel), dk_tw 2 (by decide +kernel)⟩, dk_tw 294 (by decide +kernel), dk_sw 7 (by decide +kernel)⟩
theorem mwX0_keyByPosition : dk_mv RX0 yX0_keyByPosition cX0_keyByPosition 2 (some .int) 1 := ⟨⟨⟨rfl, by decide +kernel, by decide +kernel, by decide +kernel⟩, by decide +kernel, dk_tw 299 (by decide +kernel), dk_tw 2 (by decide +kernel)⟩, dk_tw 298 (by decide +kernel), dk_sw 8 (by decide +kernel)⟩
theorem mwX0_otherKey : dk_mv RX0 yX0_otherKey cX0_otherKey 2 (some .int) 1 := ⟨⟨⟨rfl, by decide +kernel, by decide +kernel, by decide +kernel⟩, by decide +kernel, dk_tw 303 (by decide +kernel), dk_tw 2 (by decide +kernel)⟩, dk_tw 302 (by decide +kernel), dk_sw 9 (by decide +kernel)⟩
theorem mwX0_endIfThrough : dk_mv RX0 yX0_endIfThrough cX0_endIfThrough 1 none 0 := ⟨⟨⟨rfl, by decide +kernel, by decide +kernel, by decide +kernel⟩, by decide +kernel, dk_tw 307 (by decide +kernel), dk_tw 2 (by decide +kernel)⟩, dk_tw 306 (by decide +kernel), dk_sw 10 (by decide +kernel)⟩
theorem mwX4_turnBack : dk_mv RX4 yX4_turnBack cX4_turnBack 1 (some .int) 0 := ⟨⟨⟨rfl, by decide +kernel, by decide +kernel, by decide +kernel⟩, by decide +kernel, dk_tw 311 (by decide +kernel), dk_tw 1 (by decide +kernel)⟩, dk_tw 309 (by decide +kernel), dk_tw 310 (by decide +kernel)⟩
theorem mwX0_turn : dk_mv RX0 yX0_turn cX0_turn 1 (some .int) 0 := ⟨⟨⟨rfl, by decide +kernel, by decide +kernel, by decide +kernel⟩, by decide +kernel, dk_tw 315 (by decide +kernel), dk_tw 2 (by decide +kernel)⟩, dk_tw 313 (by decide +kernel), dk_tw 314 (by decide +kernel)⟩
theorem mwX4_write : dk_mv RX4 yX4_write cX4_write 3 (some .int) 2 := ⟨⟨⟨rfl, by decide +kernel, by decide +kernel, by decide +kernel⟩, by decide +kernel, dk_tw 319 (by decide +kernel), dk_tw 1 (by decide +kernel)⟩, dk_tw 317 (by decide +kernel), dk_tw 318 (by decide +kernel)⟩
theorem mwX0_put : dk_mv RX0 yX0_put cX0_put 3 (some .int) 2 := ⟨⟨⟨rfl, by decide +kernel, by decide +kernel, by decide +kernel⟩, by decide +kernel, dk_tw 323 (by decide +kernel), dk_tw 2 (by decide +kernel)⟩, dk_tw 321 (by decide +kernel), dk_tw 322 (by decide +kernel)⟩
theorem mwX0_hasSector : dk_mv RX0 yX0_hasSector cX0_hasSector 2 (some .boolean) 1 := ⟨⟨⟨rfl, by decide +kernel, by decide +kernel, by decide +kernel⟩, by decide +kernel, dk_tw 327 (by decide +kernel), dk_tw 2 (by decide +kernel)⟩, dk_tw 325 (by decide +kernel), dk_tw 326 (by decide +kernel)⟩
theorem mwX4_flush : dk_mv RX4 yX4_flush cX4_flush 1 (some .int) 0 := ⟨⟨⟨rfl, by decide +kernel, by decide +kernel, by decide +kernel⟩, by decide +kernel, dk_tw 331 (by decide +kernel), dk_tw 1 (by decide +kernel)⟩, dk_tw 329 (by decide +kernel), dk_tw 330 (by decide +kernel)⟩
theorem mwX0_flushCache : dk_mv RX0 yX0_flushCache cX0_flushCache 3 (some .int) 0 := ⟨⟨⟨rfl, by decide +kernel, by decide +kernel, by decide +kernel⟩, by decide +kernel, dk_tw 335 (by decide +kernel), dk_tw 2 (by decide +kernel)⟩, dk_tw 333 (by decide +kernel), dk_tw 334 (by decide +kernel)⟩
theorem mwX0_isFlushable : dk_mv RX0 yX0_isFlushable cX0_isFlushable 3 (some .boolean) 1 := ⟨⟨⟨rfl, by decide +kernel, by decide +kernel, by decide +kernel⟩, by decide +kernel, dk_tw 339 (by decide +kernel), dk_tw 2 (by decide +kernel)⟩, dk_tw 338 (by decide +kernel), dk_sw 11 (by decide +kernel)⟩
theorem mwX0_scrambledAfterFlush : dk_mv RX0 yX0_scrambledAfterFlush cX0_scrambledAfterFlush 2 (some .int) 1 := ⟨⟨⟨rfl, by decide +kernel, by decide +kernel, by decide +kernel⟩, by decide +kernel, dk_tw 343 (by decide +kernel), dk_tw 2 (by decide +kernel)⟩, dk_tw 341 (by decide +kernel), dk_tw 342 (by decide +kernel)⟩
theorem mwX0_keyAt : dk_mv RX0 yX0_keyAt cX0_keyAt 4 (some .int) 1 := ⟨⟨⟨rfl, by decide +kernel, by decide +kernel, by decide +kernel⟩, by decide +kernel, dk_tw 347 (by decide +kernel), dk_tw 2 (by decide +kernel)⟩, dk_tw 345 (by decide +kernel), dk_tw 346 (by decide +kernel)⟩
theorem mwX4_fail : dk_mv RX4 yX4_fail cX4_fail 1 (some .int) 0 := ⟨⟨⟨rfl, by decide +kernel, by decide +kernel, by decide +kernel⟩, by decide +kernel, dk_tw 351 (by decide +kernel), dk_tw 1 (by decide +kernel)⟩, dk_tw 349 (by decide +kernel), dk_tw 350 (by decide +kernel)⟩
theorem mwX0_losePower : dk_mv RX0 yX0_losePower cX0_losePower 3 (some .int) 0 := ⟨⟨⟨rfl, by decide +kernel, by decide +kernel, by decide +kernel⟩, by decide +kernel, dk_tw 355 (by decide +kernel), dk_tw 2 (by decide +kernel)⟩, dk_tw 353 (by decide +kernel), dk_tw 354 (by decide +kernel)⟩
theorem mwX0_valueIn : dk_mv RX0 yX0_valueIn cX0_valueIn 3 (some .int) 1 := ⟨⟨⟨rfl, by decide +kernel, by decide +kernel, by decide +kernel⟩, by decide +kernel, dk_tw 359 (by decide +kernel), dk_tw 2 (by decide +kernel)⟩, dk_tw 357 (by decide +kernel), dk_tw 358 (by decide +kernel)⟩
theorem mwX0_valueAfterFailure : dk_mv RX0 yX0_valueAfterFailure cX0_valueAfterFailure 2 (some .int) 1 := ⟨⟨⟨rfl, by decide +kernel, by decide +kernel, by decide +kernel⟩, by decide +kernel, dk_tw 363 (by decide +kernel), dk_tw 2 (by decide +kernel)⟩, dk_tw 362 (by decide +kernel), dk_sw 12 (by decide +kernel)⟩
theorem mwX0_scrambledAfterFailure : dk_mv RX0 yX0_scrambledAfterFailure cX0_scrambledAfterFailure 3 (some .int) 1 := ⟨⟨⟨rfl, by decide +kernel, by decide +kernel, by decide +kernel⟩, by decide +kernel, dk_tw 367 (by decide +kernel), dk_tw 2 (by decide +kernel)⟩, dk_tw 366 (by decide +kernel), dk_sw 13 (by decide +kernel)⟩
theorem mwX4_count : dk_mv RX4 yX4_count cX4_count 2 (some .int) 1 := ⟨⟨⟨rfl, by decide +kernel, by decide +kernel, by decide +kernel⟩, by decide +kernel, dk_tw 371 (by decide +kernel), dk_tw 1 (by decide +kernel)⟩, dk_tw 369 (by decide +kernel), dk_tw 370 (by decide +kernel)⟩
theorem mwX0_numberOfRekeying : dk_mv RX0 yX0_numberOfRekeying cX0_numberOfRekeying 2 (some .int) 1 := ⟨⟨⟨rfl, by decide +kernel, by decide +kernel, by decide +kernel⟩, by decide +kernel, dk_tw 375 (by decide +kernel), dk_tw 2 (by decide +kernel)⟩, dk_tw 373 (by decide +kernel), dk_tw 374 (by decide +kernel)⟩
theorem mwX0_number : dk_mv RX0 yX0_number cX0_number 2 (some .int) 1 := ⟨⟨⟨rfl, by decide +kernel, by decide +kernel, by decide +kernel⟩, by decide +kernel, dk_tw 379 (by decide +kernel), dk_tw 2 (by decide +kernel)⟩, dk_tw 377 (by decide +kernel), dk_tw 378 (by decide +kernel)⟩
theorem mwX4_read : dk_mv RX4 yX4_read cX4_read 2 (some .int) 1 := ⟨⟨⟨rfl, by decide +kernel, by decide +kernel, by decide +kernel⟩, by decide +kernel, dk_tw 383 (by decide +kernel), dk_tw 1 (by decide +kernel)⟩, dk_tw 381 (by decide +kernel), dk_tw 382 (by decide +kernel)⟩
theorem mwX4_stored : dk_mv RX4 yX4_stored cX4_stored 2 (some .int) 1 := ⟨⟨⟨rfl, by decide +kernel, by decide +kernel, by decide +kernel⟩, by decide +kernel, dk_tw 389 (by decide +kernel), dk_tw 1 (by decide +kernel)⟩, dk_tw 387 (by decide +kernel), dk_tw 388 (by decide +kernel)⟩
theorem mwX0_scrambledIn : dk_mv RX0 yX0_scrambledIn cX0_scrambledIn 2 (some .int) 1 := ⟨⟨⟨rfl, by decide +kernel, by decide +kernel, by decide +kernel⟩, by decide +kernel, dk_tw 393 (by decide +kernel), dk_tw 2 (by decide +kernel)⟩, dk_tw 391 (by decide +kernel), dk_tw 392 (by decide +kernel)⟩
theorem mwX4_keyOf : dk_mv RX4 yX4_keyOf cX4_keyOf 2 (some .int) 1 := ⟨⟨⟨rfl, by decide +kernel, by decide +kernel, by decide +kernel⟩, by decide +kernel, dk_tw 397 (by decide +kernel), dk_tw 1 (by decide +kernel)⟩, dk_tw 395 (by decide +kernel), dk_tw 396 (by decide +kernel)⟩
theorem mwX4_journal : dk_mv RX4 yX4_journal cX4_journal 2 (some .int) 1 := ⟨⟨⟨rfl, by decide +kernel, by decide +kernel, by decide +kernel⟩, by decide +kernel, dk_tw 402 (by decide +kernel), dk_tw 1 (by decide +kernel)⟩, dk_tw 400 (by decide +kernel), dk_tw 401 (by decide +kernel)⟩
theorem mwX0_inJournal : dk_mv RX0 yX0_inJournal cX0_inJournal 2 (some .int) 1 := ⟨⟨⟨rfl, by decide +kernel, by decide +kernel, by decide +kernel⟩, by decide +kernel, dk_tw 406 (by decide +kernel), dk_tw 2 (by decide +kernel)⟩, dk_tw 404 (by decide +kernel), dk_tw 405 (by decide +kernel)⟩
theorem mwX4_orNone : dk_ms RX4 yX4_orNone cX4_orNone 1 (some .int) 1 := ⟨⟨⟨rfl, by decide +kernel, by decide +kernel, by decide +kernel⟩, by decide +kernel, dk_tw 409 (by decide +kernel), dk_tw 1 (by decide +kernel)⟩, dk_tw 408 (by decide +kernel)⟩
theorem mwX4_cached : dk_mv RX4 yX4_cached cX4_cached 2 (some .int) 1 := ⟨⟨⟨rfl, by decide +kernel, by decide +kernel, by decide +kernel⟩, by decide +kernel, dk_tw 413 (by decide +kernel), dk_tw 1 (by decide +kernel)⟩, dk_tw 411 (by decide +kernel), dk_tw 412 (by decide +kernel)⟩
theorem mwX0_inCache : dk_mv RX0 yX0_inCache cX0_inCache 2 (some .int) 1 := ⟨⟨⟨rfl, by decide +kernel, by decide +kernel, by decide +kernel⟩, by decide +kernel, dk_tw 417 (by decide +kernel), dk_tw 2 (by decide +kernel)⟩, dk_tw 415 (by decide +kernel), dk_tw 416 (by decide +kernel)⟩
theorem mwX4_zoneStart : dk_mv RX4 yX4_zoneStart cX4_zoneStart 1 (some .int) 0 := ⟨⟨⟨rfl, by decide +kernel, by decide +kernel, by decide +kernel⟩, by decide +kernel, dk_tw 421 (by decide +kernel), dk_tw 1 (by decide +kernel)⟩, dk_tw 419 (by decide +kernel), dk_tw 420 (by decide +kernel)⟩
theorem mwX4_damaged : dk_mv RX4 yX4_damaged cX4_damaged 1 (some .int) 0 := ⟨⟨⟨rfl, by decide +kernel, by decide +kernel, by decide +kernel⟩, by decide +kernel, dk_tw 427 (by decide +kernel), dk_tw 1 (by decide +kernel)⟩, dk_tw 425 (by decide +kernel), dk_tw 426 (by decide +kernel)⟩
theorem mwX0_damageCount : dk_mv RX0 yX0_damageCount cX0_damageCount 3 (some .int) 0 := ⟨⟨⟨rfl, by decide +kernel, by decide +kernel, by decide +kernel⟩, by decide +kernel, dk_tw 431 (by decide +kernel), dk_tw 2 (by decide +kernel)⟩, dk_tw 429 (by decide +kernel), dk_tw 430 (by decide +kernel)⟩
theorem mwX4_firstDamaged : dk_mv RX4 yX4_firstDamaged cX4_firstDamaged 1 (some .int) 0 := ⟨⟨⟨rfl, by decide +kernel, by decide +kernel, by decide +kernel⟩, by decide +kernel, dk_tw 435 (by decide +kernel), dk_tw 1 (by decide +kernel)⟩, dk_tw 433 (by decide +kernel), dk_tw 434 (by decide +kernel)⟩
theorem mwX0_firstDamage : dk_mv RX0 yX0_firstDamage cX0_firstDamage 2 (some .int) 0 := ⟨⟨⟨rfl, by decide +kernel, by decide +kernel, by decide +kernel⟩, by decide +kernel, dk_tw 439 (by decide +kernel), dk_tw 2 (by decide +kernel)⟩, dk_tw 437 (by decide +kernel), dk_tw 438 (by decide +kernel)⟩
theorem mwX4_stepsLeft : dk_mv RX4 yX4_stepsLeft cX4_stepsLeft 1 (some .int) 0 := ⟨⟨⟨rfl, by decide +kernel, by decide +kernel, by decide +kernel⟩, by decide +kernel, dk_tw 443 (by decide +kernel), dk_tw 1 (by decide +kernel)⟩, dk_tw 441 (by decide +kernel), dk_tw 442 (by decide +kernel)⟩
theorem mwX4_ifFailed : dk_mv RX4 yX4_ifFailed cX4_ifFailed 3 (some .int) 1 := ⟨⟨⟨rfl, by decide +kernel, by decide +kernel, by decide +kernel⟩, by decide +kernel, dk_tw 448 (by decide +kernel), dk_tw 1 (by decide +kernel)⟩, dk_tw 446 (by decide +kernel), dk_tw 447 (by decide +kernel)⟩
theorem mwX0_damageAfterFailure : dk_mv RX0 yX0_damageAfterFailure cX0_damageAfterFailure 3 (some .int) 0 := ⟨⟨⟨rfl, by decide +kernel, by decide +kernel, by decide +kernel⟩, by decide +kernel, dk_tw 454 (by decide +kernel), dk_tw 2 (by decide +kernel)⟩, dk_tw 452 (by decide +kernel), dk_tw 453 (by decide +kernel)⟩
theorem mwX4_worstTime : dk_mv RX4 yX4_worstTime cX4_worstTime 5 (some .int) 0 := ⟨⟨⟨rfl, by decide +kernel, by decide +kernel, by decide +kernel⟩, by decide +kernel, dk_tw 458 (by decide +kernel), dk_tw 1 (by decide +kernel)⟩, dk_tw 456 (by decide +kernel), dk_tw 457 (by decide +kernel)⟩
theorem mwX4_ifFlushed : dk_mv RX4 yX4_ifFlushed cX4_ifFlushed 2 (some .int) 1 := ⟨⟨⟨rfl, by decide +kernel, by decide +kernel, by decide +kernel⟩, by decide +kernel, dk_tw 462 (by decide +kernel), dk_tw 1 (by decide +kernel)⟩, dk_tw 460 (by decide +kernel), dk_tw 461 (by decide +kernel)⟩
theorem mwX4_type : dk_mv RX4 yX4_type cX4_type 2 (some .int) 1 := ⟨⟨⟨rfl, by decide +kernel, by decide +kernel, by decide +kernel⟩, by decide +kernel, dk_tw 467 (by decide +kernel), dk_tw 1 (by decide +kernel)⟩, dk_tw 465 (by decide +kernel), dk_tw 466 (by decide +kernel)⟩
theorem mwX3_append : dk_mv RX3 yX3_append cX3_append 2 (some .int) 1 := ⟨⟨⟨rfl, by decide +kernel, by decide +kernel, by decide +kernel⟩, by decide +kernel, dk_tw 471 (by decide +kernel), dk_tw 6 (by decide +kernel)⟩, dk_tw 469 (by decide +kernel), dk_tw 470 (by decide +kernel)⟩
theorem mwX4_clearText : dk_mv RX4 yX4_clearText cX4_clearText 1 (some .int) 0 := ⟨⟨⟨rfl, by decide +kernel, by decide +kernel, by decide +kernel⟩, by decide +kernel, dk_tw 476 (by decide +kernel), dk_tw 1 (by decide +kernel)⟩, dk_tw 474 (by decide +kernel), dk_tw 475 (by decide +kernel)⟩
theorem mwX3_empty : dk_mv RX3 yX3_empty cX3_empty 2 (some .int) 0 := ⟨⟨⟨rfl, by decide +kernel, by decide +kernel, by decide +kernel⟩, by decide +kernel, dk_tw 480 (by decide +kernel), dk_tw 6 (by decide +kernel)⟩, dk_tw 478 (by decide +kernel), dk_tw 479 (by decide +kernel)⟩
theorem mwX4_syntaxError : dk_mv RX4 yX4_syntaxError cX4_syntaxError 1 (some .int) 0 := ⟨⟨⟨rfl, by decide +kernel, by decide +kernel, by decide +kernel⟩, by decide +kernel, dk_tw 484 (by decide +kernel), dk_tw 1 (by decide +kernel)⟩, dk_tw 482 (by decide +kernel), dk_tw 483 (by decide +kernel)⟩
theorem mwX3_firstError : dk_mv RX3 yX3_firstError cX3_firstError 3 (some .int) 0 := ⟨⟨⟨rfl, by decide +kernel, by decide +kernel, by decide +kernel⟩, by decide +kernel, dk_tw 488 (by decide +kernel), dk_tw 6 (by decide +kernel)⟩, dk_tw 486 (by decide +kernel), dk_tw 487 (by decide +kernel)⟩
theorem mwX3_placeBehind : dk_ms RX3 yX3_placeBehind cX3_placeBehind 3 (some .int) 2 := ⟨⟨⟨rfl, by decide +kernel, by decide +kernel, by decide +kernel⟩, by decide +kernel, dk_tw 492 (by decide +kernel), dk_tw 6 (by decide +kernel)⟩, dk_tw 491 (by decide +kernel)⟩
theorem mwX3_placeBehindLetter : dk_ms RX3 yX3_placeBehindLetter cX3_placeBehindLetter 1 (some .int) 1 := ⟨⟨⟨rfl, by decide +kernel, by decide +kernel, by decide +kernel⟩, by decide +kernel, dk_tw 495 (by decide +kernel), dk_tw 6 (by decide +kernel)⟩, dk_tw 494 (by decide +kernel)⟩
theorem mwX3_isDigit : dk_ms RX3 yX3_isDigit cX3_isDigit 1 (some .boolean) 1 := ⟨⟨⟨rfl, by decide +kernel, by decide +kernel, by decide +kernel⟩, by decide +kernel, dk_tw 498 (by decide +kernel), dk_tw 6 (by decide +kernel)⟩, dk_tw 497 (by decide +kernel)⟩
theorem mwX4_carryOut : dk_mv RX4 yX4_carryOut cX4_carryOut 3 (some .int) 0 := ⟨⟨⟨rfl, by decide +kernel, by decide +kernel, by decide +kernel⟩, by decide +kernel, dk_tw 502 (by decide +kernel), dk_tw 1 (by decide +kernel)⟩, dk_tw 500 (by decide +kernel), dk_tw 501 (by decide +kernel)⟩
theorem mwX3_split : dk_mv RX3 yX3_split cX3_split 5 (some .int) 0 := ⟨⟨⟨rfl, by decide +kernel, by decide +kernel, by decide +kernel⟩, by decide +kernel, dk_tw 506 (by decide +kernel), dk_tw 6 (by decide +kernel)⟩, dk_tw 504 (by decide +kernel), dk_tw 505 (by decide +kernel)⟩
theorem mwX3_letter : dk_mv RX3 yX3_letter cX3_letter 2 (some .int) 1 := ⟨⟨⟨rfl, by decide +kernel, by decide +kernel, by decide +kernel⟩, by decide +kernel, dk_tw 510 (by decide +kernel), dk_tw 6 (by decide +kernel)⟩, dk_tw 508 (by decide +kernel), dk_tw 509 (by decide +kernel)⟩
theorem mwX3_sector : dk_mv RX3 yX3_sector cX3_sector 2 (some .int) 1 := ⟨⟨⟨rfl, by decide +kernel, by decide +kernel, by decide +kernel⟩, by decide +kernel, dk_tw 514 (by decide +kernel), dk_tw 6 (by decide +kernel)⟩, dk_tw 512 (by decide +kernel), dk_tw 513 (by decide +kernel)⟩
theorem mwX3_number : dk_mv RX3 yX3_number cX3_number 2 (some .int) 1 := ⟨⟨⟨rfl, by decide +kernel, by decide +kernel, by decide +kernel⟩, by decide +kernel, dk_tw 518 (by decide +kernel), dk_tw 6 (by decide +kernel)⟩, dk_tw 516 (by decide +kernel), dk_tw 517 (by decide +kernel)⟩
theorem mwX0_obey : dk_mv RX0 yX0_obey cX0_obey 4 (some .int) 3 := ⟨⟨⟨rfl, by decide +kernel, by decide +kernel, by decide +kernel⟩, by decide +kernel, dk_tw 522 (by decide +kernel), dk_tw 2 (by decide +kernel)⟩, dk_tw 520 (by decide +kernel), dk_tw 521 (by decide +kernel)⟩
theorem mwX4_undo : dk_mv RX4 yX4_undo cX4_undo 1 (some .int) 0 := ⟨⟨⟨rfl, by decide +kernel, by decide +kernel, by decide +kernel⟩, by decide +kernel, dk_tw 531 (by decide +kernel), dk_tw 1 (by decide +kernel)⟩, dk_tw 529 (by decide +kernel), dk_tw 530 (by decide +kernel)⟩
theorem mwX1_bringBack : dk_mv RX1 yX1_bringBack cX1_bringBack 4 (some .int) 1 := ⟨⟨⟨rfl, by decide +kernel, by decide +kernel, by decide +kernel⟩, by decide +kernel, dk_tw 535 (by decide +kernel), dk_tw 5 (by decide +kernel)⟩, dk_tw 533 (by decide +kernel), dk_tw 534 (by decide +kernel)⟩
theorem mwX4_digest : dk_mv RX4 yX4_digest cX4_digest 4 (some .long) 0 := ⟨⟨⟨rfl, by decide +kernel, by decide +kernel, by decide +kernel⟩, by decide +kernel, dk_tw 539 (by decide +kernel), dk_tw 1 (by decide +kernel)⟩, dk_tw 537 (by decide +kernel), dk_tw 538 (by decide +kernel)⟩
theorem mwX4_withKeys : dk_mv RX4 yX4_withKeys cX4_withKeys 6 (some .long) 1 := ⟨⟨⟨rfl, by decide +kernel, by decide +kernel, by decide +kernel⟩, by decide +kernel, dk_tw 546 (by decide +kernel), dk_tw 1 (by decide +kernel)⟩, dk_tw 545 (by decide +kernel), dk_sw 14 (by decide +kernel)⟩
theorem mwX4_withSectors : dk_mv RX4 yX4_withSectors cX4_withSectors 6 (some .long) 1 := ⟨⟨⟨rfl, by decide +kernel, by decide +kernel, by decide +kernel⟩, by decide +kernel, dk_tw 551 (by decide +kernel), dk_tw 1 (by decide +kernel)⟩, dk_tw 550 (by decide +kernel), dk_sw 15 (by decide +kernel)⟩
theorem mwX5_init : dk_mi RX5 yX5_init cX5_init 2 none 0 := ⟨⟨⟨rfl, by decide +kernel, by decide +kernel, by decide +kernel⟩, by decide +kernel, dk_tw 565 (by decide +kernel), dk_tw 7 (by decide +kernel)⟩, dk_tw 564 (by decide +kernel)⟩
theorem mwX5_formats : dk_mv RX5 yX5_formats cX5_formats 3 none 1 := ⟨⟨⟨rfl, by decide +kernel, by decide +kernel, by decide +kernel⟩, by decide +kernel, dk_tw 570 (by decide +kernel), dk_tw 7 (by decide +kernel)⟩, dk_tw 569 (by decide +kernel), dk_sw 16 (by decide +kernel)⟩
theorem mwX5_ends : dk_mv RX5 yX5_ends cX5_ends 1 none 0 := ⟨⟨⟨rfl, by decide +kernel, by decide +kernel, by decide +kernel⟩, by decide +kernel, dk_tw 574 (by decide +kernel), dk_tw 7 (by decide +kernel)⟩, dk_tw 573 (by decide +kernel), dk_sw 17 (by decide +kernel)⟩
theorem mwX5_closes : dk_mv RX5 yX5_closes cX5_closes 2 none 0 := ⟨⟨⟨rfl, by decide +kernel, by decide +kernel, by decide +kernel⟩, by decide +kernel, dk_tw 578 (by decide +kernel), dk_tw 7 (by decide +kernel)⟩, dk_tw 577 (by decide +kernel), dk_sw 18 (by decide +kernel)⟩
theorem mwX5_scramble : dk_ms RX5 yX5_scramble cX5_scramble 3 (some .int) 3 := ⟨⟨⟨rfl, by decide +kernel, by decide +kernel, by decide +kernel⟩, by decide +kernel, dk_tw 581 (by decide +kernel), dk_tw 7 (by decide +kernel)⟩, dk_tw 580 (by decide +kernel)⟩
theorem mwX5_format : dk_mv RX5 yX5_format cX5_format 3 (some .int) 1 := ⟨⟨⟨rfl, by decide +kernel, by decide +kernel, by decide +kernel⟩, by decide +kernel, dk_tw 627 (by decide +kernel), dk_tw 7 (by decide +kernel)⟩, dk_tw 625 (by decide +kernel), dk_tw 626 (by decide +kernel)⟩
theorem mwX5_within : dk_ms RX5 yX5_within cX5_within 3 (some .boolean) 3 := ⟨⟨⟨rfl, by decide +kernel, by decide +kernel, by decide +kernel⟩, by decide +kernel, dk_tw 630 (by decide +kernel), dk_tw 7 (by decide +kernel)⟩, dk_tw 629 (by decide +kernel)⟩
theorem mwX5_record : dk_mv RX5 yX5_record cX5_record 2 none 0 := ⟨⟨⟨rfl, by decide +kernel, by decide +kernel, by decide +kernel⟩, by decide +kernel, dk_tw 634 (by decide +kernel), dk_tw 7 (by decide +kernel)⟩, dk_tw 633 (by decide +kernel), dk_sw 19 (by decide +kernel)⟩
theorem mwX5_copies : dk_ms RX5 yX5_copies cX5_copies 5 none 4 := ⟨⟨⟨rfl, by decide +kernel, by decide +kernel, by decide +kernel⟩, by decide +kernel, dk_tw 637 (by decide +kernel), dk_tw 7 (by decide +kernel)⟩, dk_tw 636 (by decide +kernel)⟩
theorem mwX5_addKey : dk_mv RX5 yX5_addKey cX5_addKey 3 (some .int) 2 := ⟨⟨⟨rfl, by decide +kernel, by decide +kernel, by decide +kernel⟩, by decide +kernel, dk_tw 641 (by decide +kernel), dk_tw 7 (by decide +kernel)⟩, dk_tw 639 (by decide +kernel), dk_tw 640 (by decide +kernel)⟩
theorem mwX5_isKey : dk_mv RX5 yX5_isKey cX5_isKey 2 (some .boolean) 1 := ⟨⟨⟨rfl, by decide +kernel, by decide +kernel, by decide +kernel⟩, by decide +kernel, dk_tw 645 (by decide +kernel), dk_tw 7 (by decide +kernel)⟩, dk_tw 644 (by decide +kernel), dk_sw 20 (by decide +kernel)⟩
theorem mwX5_keysMany : dk_mv RX5 yX5_keysMany cX5_keysMany 3 (some .int) 0 := ⟨⟨⟨rfl, by decide +kernel, by decide +kernel, by decide +kernel⟩, by decide +kernel, dk_tw 649 (by decide +kernel), dk_tw 7 (by decide +kernel)⟩, dk_tw 648 (by decide +kernel), dk_sw 21 (by decide +kernel)⟩
theorem mwX5_removeKey : dk_mv RX5 yX5_removeKey cX5_removeKey 2 (some .int) 1 := ⟨⟨⟨rfl, by decide +kernel, by decide +kernel, by decide +kernel⟩, by decide +kernel, dk_tw 653 (by decide +kernel), dk_tw 7 (by decide +kernel)⟩, dk_tw 651 (by decide +kernel), dk_tw 652 (by decide +kernel)⟩
theorem mwX5_secretOf : dk_mv RX5 yX5_secretOf cX5_secretOf 2 (some .int) 1 := ⟨⟨⟨rfl, by decide +kernel, by decide +kernel, by decide +kernel⟩, by decide +kernel, dk_tw 657 (by decide +kernel), dk_tw 7 (by decide +kernel)⟩, dk_tw 655 (by decide +kernel), dk_tw 656 (by decide +kernel)⟩
theorem mwX5_setZone : dk_mv RX5 yX5_setZone cX5_setZone 2 (some .int) 1 := ⟨⟨⟨rfl, by decide +kernel, by decide +kernel, by decide +kernel⟩, by decide +kernel, dk_tw 661 (by decide +kernel), dk_tw 7 (by decide +kernel)⟩, dk_tw 659 (by decide +kernel), dk_tw 660 (by decide +kernel)⟩
theorem mwX5_sets : dk_mv RX5 yX5_sets cX5_sets 4 (some .int) 2 := ⟨⟨⟨rfl, by decide +kernel, by decide +kernel, by decide +kernel⟩, by decide +kernel, dk_tw 665 (by decide +kernel), dk_tw 7 (by decide +kernel)⟩, dk_tw 664 (by decide +kernel), dk_sw 22 (by decide +kernel)⟩
theorem mwX5_isOpen : dk_mv RX5 yX5_isOpen cX5_isOpen 1 (some .boolean) 0 := ⟨⟨⟨rfl, by decide +kernel, by decide +kernel, by decide +kernel⟩, by decide +kernel, dk_tw 669 (by decide +kernel), dk_tw 7 (by decide +kernel)⟩, dk_tw 668 (by decide +kernel), dk_sw 23 (by decide +kernel)⟩
theorem mwX5_setJournal : dk_mv RX5 yX5_setJournal cX5_setJournal 2 (some .int) 1 := ⟨⟨⟨rfl, by decide +kernel, by decide +kernel, by decide +kernel⟩, by decide +kernel, dk_tw 673 (by decide +kernel), dk_tw 7 (by decide +kernel)⟩, dk_tw 671 (by decide +kernel), dk_tw 672 (by decide +kernel)⟩
theorem mwX5_start : dk_mv RX5 yX5_start cX5_start 2 (some .int) 1 := ⟨⟨⟨rfl, by decide +kernel, by decide +kernel, by decide +kernel⟩, by decide +kernel, dk_tw 677 (by decide +kernel), dk_tw 7 (by decide +kernel)⟩, dk_tw 675 (by decide +kernel), dk_tw 676 (by decide +kernel)⟩
theorem mwX5_isRekeying : dk_mv RX5 yX5_isRekeying cX5_isRekeying 1 (some .boolean) 0 := ⟨⟨⟨rfl, by decide +kernel, by decide +kernel, by decide +kernel⟩, by decide +kernel, dk_tw 681 (by decide +kernel), dk_tw 7 (by decide +kernel)⟩, dk_tw 680 (by decide +kernel), dk_sw 24 (by decide +kernel)⟩
theorem mwX5_left : dk_mv RX5 yX5_left cX5_left 4 (some .int) 0 := ⟨⟨⟨rfl, by decide +kernel, by decide +kernel, by decide +kernel⟩, by decide +kernel, dk_tw 685 (by decide +kernel), dk_tw 7 (by decide +kernel)⟩, dk_tw 684 (by decide +kernel), dk_sw 25 (by decide +kernel)⟩
theorem mwX5_steps : dk_mv RX5 yX5_steps cX5_steps 3 (some .int) 1 := ⟨⟨⟨rfl, by decide +kernel, by decide +kernel, by decide +kernel⟩, by decide +kernel, dk_tw 689 (by decide +kernel), dk_tw 7 (by decide +kernel)⟩, dk_tw 687 (by decide +kernel), dk_tw 688 (by decide +kernel)⟩
theorem mwX5_whyNotSteps : dk_mv RX5 yX5_whyNotSteps cX5_whyNotSteps 2 (some .int) 1 := ⟨⟨⟨rfl, by decide +kernel, by decide +kernel, by decide +kernel⟩, by decide +kernel, dk_tw 693 (by decide +kernel), dk_tw 7 (by decide +kernel)⟩, dk_tw 692 (by decide +kernel), dk_sw 26 (by decide +kernel)⟩
theorem mwX5_makesSteps : dk_mv RX5 yX5_makesSteps cX5_makesSteps 3 (some .int) 1 := ⟨⟨⟨rfl, by decide +kernel, by decide +kernel, by decide +kernel⟩, by decide +kernel, dk_tw 697 (by decide +kernel), dk_tw 7 (by decide +kernel)⟩, dk_tw 696 (by decide +kernel), dk_sw 27 (by decide +kernel)⟩
theorem mwX5_makesStep : dk_mv RX5 yX5_makesStep cX5_makesStep 5 none 0 := ⟨⟨⟨rfl, by decide +kernel, by decide +kernel, by decide +kernel⟩, by decide +kernel, dk_tw 701 (by decide +kernel), dk_tw 7 (by decide +kernel)⟩, dk_tw 700 (by decide +kernel), dk_sw 28 (by decide +kernel)⟩
theorem mwX5_zoneFrom : dk_mv RX5 yX5_zoneFrom cX5_zoneFrom 2 (some .int) 0 := ⟨⟨⟨rfl, by decide +kernel, by decide +kernel, by decide +kernel⟩, by decide +kernel, dk_tw 705 (by decide +kernel), dk_tw 7 (by decide +kernel)⟩, dk_tw 704 (by decide +kernel), dk_sw 29 (by decide +kernel)⟩
theorem mwX5_zoneTo : dk_mv RX5 yX5_zoneTo cX5_zoneTo 2 (some .int) 0 := ⟨⟨⟨rfl, by decide +kernel, by decide +kernel, by decide +kernel⟩, by decide +kernel, dk_tw 709 (by decide +kernel), dk_tw 7 (by decide +kernel)⟩, dk_tw 708 (by decide +kernel), dk_sw 30 (by decide +kernel)⟩
theorem mwX5_plain : dk_mv RX5 yX5_plain cX5_plain 2 (some .int) 1 := ⟨⟨⟨rfl, by decide +kernel, by decide +kernel, by decide +kernel⟩, by decide +kernel, dk_tw 713 (by decide +kernel), dk_tw 7 (by decide +kernel)⟩, dk_tw 712 (by decide +kernel), dk_sw 31 (by decide +kernel)⟩
theorem mwX5_secretAt : dk_mv RX5 yX5_secretAt cX5_secretAt 2 (some .int) 1 := ⟨⟨⟨rfl, by decide +kernel, by decide +kernel, by decide +kernel⟩, by decide +kernel, dk_tw 717 (by decide +kernel), dk_tw 7 (by decide +kernel)⟩, dk_tw 716 (by decide +kernel), dk_sw 32 (by decide +kernel)⟩
theorem mwX5_keyAt : dk_mv RX5 yX5_keyAt cX5_keyAt 3 (some .int) 1 := ⟨⟨⟨rfl, by decide +kernel, by decide +kernel, by decide +kernel⟩, by decide +kernel, dk_tw 721 (by decide +kernel), dk_tw 7 (by decide +kernel)⟩, dk_tw 720 (by decide +kernel), dk_sw 33 (by decide +kernel)⟩
theorem mwX5_isRewritten : dk_mv RX5 yX5_isRewritten cX5_isRewritten 2 (some .boolean) 1 := ⟨⟨⟨rfl, by decide +kernel, by decide +kernel, by decide +kernel⟩, by decide +kernel, dk_tw 725 (by decide +kernel), dk_tw 7 (by decide +kernel)⟩, dk_tw 724 (by decide +kernel), dk_sw 34 (by decide +kernel)⟩
theorem mwX5_isInZone : dk_mv RX5 yX5_isInZone cX5_isInZone 2 (some .boolean) 1 := ⟨⟨⟨rfl, by decide +kernel, by decide +kernel, by decide +kernel⟩, by decide +kernel, dk_tw 729 (by decide +kernel), dk_tw 7 (by decide +kernel)⟩, dk_tw 728 (by decide +kernel), dk_sw 35 (by decide +kernel)⟩
theorem mwX5_endsAtEnd : dk_mv RX5 yX5_endsAtEnd cX5_endsAtEnd 1 none 0 := ⟨⟨⟨rfl, by decide +kernel, by decide +kernel, by decide +kernel⟩, by decide +kernel, dk_tw 733 (by decide +kernel), dk_tw 7 (by decide +kernel)⟩, dk_tw 732 (by decide +kernel), dk_sw 36 (by decide +kernel)⟩
theorem mwX5_turnBack : dk_mv RX5 yX5_turnBack cX5_turnBack 2 (some .int) 0 := ⟨⟨⟨rfl, by decide +kernel, by decide +kernel, by decide +kernel⟩, by decide +kernel, dk_tw 737 (by decide +kernel), dk_tw 7 (by decide +kernel)⟩, dk_tw 735 (by decide +kernel), dk_tw 736 (by decide +kernel)⟩
theorem mwX5_whyNotTurned : dk_mv RX5 yX5_whyNotTurned cX5_whyNotTurned 1 (some .int) 0 := ⟨⟨⟨rfl, by decide +kernel, by decide +kernel, by decide +kernel⟩, by decide +kernel, dk_tw 741 (by decide +kernel), dk_tw 7 (by decide +kernel)⟩, dk_tw 740 (by decide +kernel), dk_sw 37 (by decide +kernel)⟩
theorem mwX5_turns : dk_mv RX5 yX5_turns cX5_turns 1 (some .int) 0 := ⟨⟨⟨rfl, by decide +kernel, by decide +kernel, by decide +kernel⟩, by decide +kernel, dk_tw 745 (by decide +kernel), dk_tw 7 (by decide +kernel)⟩, dk_tw 744 (by decide +kernel), dk_sw 38 (by decide +kernel)⟩
theorem mwX5_write : dk_mv RX5 yX5_write cX5_write 4 (some .int) 2 := ⟨⟨⟨rfl, by decide +kernel, by decide +kernel, by decide +kernel⟩, by decide +kernel, dk_tw 749 (by decide +kernel), dk_tw 7 (by decide +kernel)⟩, dk_tw 747 (by decide +kernel), dk_tw 748 (by decide +kernel)⟩
theorem mwX5_whyNotWritten : dk_mv RX5 yX5_whyNotWritten cX5_whyNotWritten 3 (some .int) 2 := ⟨⟨⟨rfl, by decide +kernel, by decide +kernel, by decide +kernel⟩, by decide +kernel, dk_tw 753 (by decide +kernel), dk_tw 7 (by decide +kernel)⟩, dk_tw 752 (by decide +kernel), dk_sw 39 (by decide +kernel)⟩
theorem mwX5_isSector : dk_mv RX5 yX5_isSector cX5_isSector 2 (some .boolean) 1 := ⟨⟨⟨rfl, by decide +kernel, by decide +kernel, by decide +kernel⟩, by decide +kernel, dk_tw 757 (by decide +kernel), dk_tw 7 (by decide +kernel)⟩, dk_tw 756 (by decide +kernel), dk_sw 40 (by decide +kernel)⟩
theorem mwX5_cachedMany : dk_mv RX5 yX5_cachedMany cX5_cachedMany 3 (some .int) 0 := ⟨⟨⟨rfl, by decide +kernel, by decide +kernel, by decide +kernel⟩, by decide +kernel, dk_tw 761 (by decide +kernel), dk_tw 7 (by decide +kernel)⟩, dk_tw 760 (by decide +kernel), dk_sw 41 (by decide +kernel)⟩
theorem mwX5_writes : dk_mv RX5 yX5_writes cX5_writes 3 (some .int) 2 := ⟨⟨⟨rfl, by decide +kernel, by decide +kernel, by decide +kernel⟩, by decide +kernel, dk_tw 765 (by decide +kernel), dk_tw 7 (by decide +kernel)⟩, dk_tw 764 (by decide +kernel), dk_sw 42 (by decide +kernel)⟩
theorem mwX5_flush : dk_mv RX5 yX5_flush cX5_flush 1 (some .int) 0 := ⟨⟨⟨rfl, by decide +kernel, by decide +kernel, by decide +kernel⟩, by decide +kernel, dk_tw 769 (by decide +kernel), dk_tw 7 (by decide +kernel)⟩, dk_tw 767 (by decide +kernel), dk_tw 768 (by decide +kernel)⟩
theorem mwX5_flushes : dk_mv RX5 yX5_flushes cX5_flushes 3 (some .int) 0 := ⟨⟨⟨rfl, by decide +kernel, by decide +kernel, by decide +kernel⟩, by decide +kernel, dk_tw 773 (by decide +kernel), dk_tw 7 (by decide +kernel)⟩, dk_tw 772 (by decide +kernel), dk_sw 43 (by decide +kernel)⟩
theorem mwX5_canFlush : dk_mv RX5 yX5_canFlush cX5_canFlush 2 (some .boolean) 1 := ⟨⟨⟨rfl, by decide +kernel, by decide +kernel, by decide +kernel⟩, by decide +kernel, dk_tw 777 (by decide +kernel), dk_tw 7 (by decide +kernel)⟩, dk_tw 776 (by decide +kernel), dk_sw 44 (by decide +kernel)⟩
theorem mwX5_formThen : dk_mv RX5 yX5_formThen cX5_formThen 2 (some .int) 1 := ⟨⟨⟨rfl, by decide +kernel, by decide +kernel, by decide +kernel⟩, by decide +kernel, dk_tw 781 (by decide +kernel), dk_tw 7 (by decide +kernel)⟩, dk_tw 780 (by decide +kernel), dk_sw 45 (by decide +kernel)⟩
theorem mwX5_fail : dk_mv RX5 yX5_fail cX5_fail 3 (some .int) 0 := ⟨⟨⟨rfl, by decide +kernel, by decide +kernel, by decide +kernel⟩, by decide +kernel, dk_tw 785 (by decide +kernel), dk_tw 7 (by decide +kernel)⟩, dk_tw 783 (by decide +kernel), dk_tw 784 (by decide +kernel)⟩
theorem mwX5_valueOf : dk_mv RX5 yX5_valueOf cX5_valueOf 2 (some .int) 1 := ⟨⟨⟨rfl, by decide +kernel, by decide +kernel, by decide +kernel⟩, by decide +kernel, dk_tw 789 (by decide +kernel), dk_tw 7 (by decide +kernel)⟩, dk_tw 788 (by decide +kernel), dk_sw 46 (by decide +kernel)⟩
theorem mwX5_fails : dk_mv RX5 yX5_fails cX5_fails 2 none 0 := ⟨⟨⟨rfl, by decide +kernel, by decide +kernel, by decide +kernel⟩, by decide +kernel, dk_tw 793 (by decide +kernel), dk_tw 7 (by decide +kernel)⟩, dk_tw 792 (by decide +kernel), dk_sw 47 (by decide +kernel)⟩
theorem mwX5_count : dk_mv RX5 yX5_count cX5_count 2 (some .int) 1 := ⟨⟨⟨rfl, by decide +kernel, by decide +kernel, by decide +kernel⟩, by decide +kernel, dk_tw 797 (by decide +kernel), dk_tw 7 (by decide +kernel)⟩, dk_tw 795 (by decide +kernel), dk_tw 796 (by decide +kernel)⟩
theorem mwX5_countOf : dk_mv RX5 yX5_countOf cX5_countOf 2 (some .int) 1 := ⟨⟨⟨rfl, by decide +kernel, by decide +kernel, by decide +kernel⟩, by decide +kernel, dk_tw 801 (by decide +kernel), dk_tw 7 (by decide +kernel)⟩, dk_tw 800 (by decide +kernel), dk_sw 48 (by decide +kernel)⟩
theorem mwX5_read : dk_mv RX5 yX5_read cX5_read 2 (some .int) 1 := ⟨⟨⟨rfl, by decide +kernel, by decide +kernel, by decide +kernel⟩, by decide +kernel, dk_tw 805 (by decide +kernel), dk_tw 7 (by decide +kernel)⟩, dk_tw 803 (by decide +kernel), dk_tw 804 (by decide +kernel)⟩
theorem mwX5_stored : dk_mv RX5 yX5_stored cX5_stored 2 (some .int) 1 := ⟨⟨⟨rfl, by decide +kernel, by decide +kernel, by decide +kernel⟩, by decide +kernel, dk_tw 809 (by decide +kernel), dk_tw 7 (by decide +kernel)⟩, dk_tw 807 (by decide +kernel), dk_tw 808 (by decide +kernel)⟩
theorem mwX5_keyOf : dk_mv RX5 yX5_keyOf cX5_keyOf 2 (some .int) 1 := ⟨⟨⟨rfl, by decide +kernel, by decide +kernel, by decide +kernel⟩, by decide +kernel, dk_tw 813 (by decide +kernel), dk_tw 7 (by decide +kernel)⟩, dk_tw 811 (by decide +kernel), dk_tw 812 (by decide +kernel)⟩
theorem mwX5_journal : dk_mv RX5 yX5_journal cX5_journal 2 (some .int) 1 := ⟨⟨⟨rfl, by decide +kernel, by decide +kernel, by decide +kernel⟩, by decide +kernel, dk_tw 817 (by decide +kernel), dk_tw 7 (by decide +kernel)⟩, dk_tw 815 (by decide +kernel), dk_tw 816 (by decide +kernel)⟩
theorem mwX5_cached : dk_mv RX5 yX5_cached cX5_cached 2 (some .int) 1 := ⟨⟨⟨rfl, by decide +kernel, by decide +kernel, by decide +kernel⟩, by decide +kernel, dk_tw 821 (by decide +kernel), dk_tw 7 (by decide +kernel)⟩, dk_tw 819 (by decide +kernel), dk_tw 820 (by decide +kernel)⟩
theorem mwX5_zoneStart : dk_mv RX5 yX5_zoneStart cX5_zoneStart 1 (some .int) 0 := ⟨⟨⟨rfl, by decide +kernel, by decide +kernel, by decide +kernel⟩, by decide +kernel, dk_tw 825 (by decide +kernel), dk_tw 7 (by decide +kernel)⟩, dk_tw 823 (by decide +kernel), dk_tw 824 (by decide +kernel)⟩
theorem mwX5_damaged : dk_mv RX5 yX5_damaged cX5_damaged 1 (some .int) 0 := ⟨⟨⟨rfl, by decide +kernel, by decide +kernel, by decide +kernel⟩, by decide +kernel, dk_tw 829 (by decide +kernel), dk_tw 7 (by decide +kernel)⟩, dk_tw 827 (by decide +kernel), dk_tw 828 (by decide +kernel)⟩
theorem mwX5_damagedMany : dk_mv RX5 yX5_damagedMany cX5_damagedMany 3 (some .int) 0 := ⟨⟨⟨rfl, by decide +kernel, by decide +kernel, by decide +kernel⟩, by decide +kernel, dk_tw 833 (by decide +kernel), dk_tw 7 (by decide +kernel)⟩, dk_tw 832 (by decide +kernel), dk_sw 49 (by decide +kernel)⟩
theorem mwX5_firstDamaged : dk_mv RX5 yX5_firstDamaged cX5_firstDamaged 1 (some .int) 0 := ⟨⟨⟨rfl, by decide +kernel, by decide +kernel, by decide +kernel⟩, by decide +kernel, dk_tw 837 (by decide +kernel), dk_tw 7 (by decide +kernel)⟩, dk_tw 835 (by decide +kernel), dk_tw 836 (by decide +kernel)⟩
theorem mwX5_firstOne : dk_mv RX5 yX5_firstOne cX5_firstOne 2 (some .int) 0 := ⟨⟨⟨rfl, by decide +kernel, by decide +kernel, by decide +kernel⟩, by decide +kernel, dk_tw 841 (by decide +kernel), dk_tw 7 (by decide +kernel)⟩, dk_tw 840 (by decide +kernel), dk_sw 50 (by decide +kernel)⟩
theorem mwX5_stepsLeft : dk_mv RX5 yX5_stepsLeft cX5_stepsLeft 1 (some .int) 0 := ⟨⟨⟨rfl, by decide +kernel, by decide +kernel, by decide +kernel⟩, by decide +kernel, dk_tw 845 (by decide +kernel), dk_tw 7 (by decide +kernel)⟩, dk_tw 843 (by decide +kernel), dk_tw 844 (by decide +kernel)⟩
theorem mwX5_ifFailed : dk_mv RX5 yX5_ifFailed cX5_ifFailed 3 (some .int) 1 := ⟨⟨⟨rfl, by decide +kernel, by decide +kernel, by decide +kernel⟩, by decide +kernel, dk_tw 849 (by decide +kernel), dk_tw 7 (by decide +kernel)⟩, dk_tw 847 (by decide +kernel), dk_tw 848 (by decide +kernel)⟩
theorem mwX5_damagedThen : dk_mv RX5 yX5_damagedThen cX5_damagedThen 2 (some .int) 0 := ⟨⟨⟨rfl, by decide +kernel, by decide +kernel, by decide +kernel⟩, by decide +kernel, dk_tw 853 (by decide +kernel), dk_tw 7 (by decide +kernel)⟩, dk_tw 852 (by decide +kernel), dk_sw 51 (by decide +kernel)⟩
theorem mwX5_worstTime : dk_mv RX5 yX5_worstTime cX5_worstTime 5 (some .int) 0 := ⟨⟨⟨rfl, by decide +kernel, by decide +kernel, by decide +kernel⟩, by decide +kernel, dk_tw 857 (by decide +kernel), dk_tw 7 (by decide +kernel)⟩, dk_tw 855 (by decide +kernel), dk_tw 856 (by decide +kernel)⟩
theorem mwX5_ifFlushed : dk_mv RX5 yX5_ifFlushed cX5_ifFlushed 2 (some .int) 1 := ⟨⟨⟨rfl, by decide +kernel, by decide +kernel, by decide +kernel⟩, by decide +kernel, dk_tw 861 (by decide +kernel), dk_tw 7 (by decide +kernel)⟩, dk_tw 859 (by decide +kernel), dk_tw 860 (by decide +kernel)⟩
theorem mwX5_type : dk_mv RX5 yX5_type cX5_type 2 (some .int) 1 := ⟨⟨⟨rfl, by decide +kernel, by decide +kernel, by decide +kernel⟩, by decide +kernel, dk_tw 865 (by decide +kernel), dk_tw 7 (by decide +kernel)⟩, dk_tw 863 (by decide +kernel), dk_tw 864 (by decide +kernel)⟩
theorem mwX5_clearText : dk_mv RX5 yX5_clearText cX5_clearText 2 (some .int) 0 := ⟨⟨⟨rfl, by decide +kernel, by decide +kernel, by decide +kernel⟩, by decide +kernel, dk_tw 869 (by decide +kernel), dk_tw 7 (by decide +kernel)⟩, dk_tw 867 (by decide +kernel), dk_tw 868 (by decide +kernel)⟩
theorem mwX5_syntaxError : dk_mv RX5 yX5_syntaxError cX5_syntaxError 1 (some .int) 0 := ⟨⟨⟨rfl, by decide +kernel, by decide +kernel, by decide +kernel⟩, by decide +kernel, dk_tw 873 (by decide +kernel), dk_tw 7 (by decide +kernel)⟩, dk_tw 871 (by decide +kernel), dk_tw 872 (by decide +kernel)⟩
theorem mwX5_findError : dk_mv RX5 yX5_findError cX5_findError 1 (some .int) 0 := ⟨⟨⟨rfl, by decide +kernel, by decide +kernel, by decide +kernel⟩, by decide +kernel, dk_tw 877 (by decide +kernel), dk_tw 7 (by decide +kernel)⟩, dk_tw 876 (by decide +kernel), dk_sw 52 (by decide +kernel)⟩
theorem mwX5_readsCommand : dk_mv RX5 yX5_readsCommand cX5_readsCommand 2 (some .boolean) 0 := ⟨⟨⟨rfl, by decide +kernel, by decide +kernel, by decide +kernel⟩, by decide +kernel, dk_tw 881 (by decide +kernel), dk_tw 7 (by decide +kernel)⟩, dk_tw 880 (by decide +kernel), dk_sw 53 (by decide +kernel)⟩
theorem mwX5_character : dk_mv RX5 yX5_character cX5_character 2 (some .int) 1 := ⟨⟨⟨rfl, by decide +kernel, by decide +kernel, by decide +kernel⟩, by decide +kernel, dk_tw 885 (by decide +kernel), dk_tw 7 (by decide +kernel)⟩, dk_tw 884 (by decide +kernel), dk_sw 54 (by decide +kernel)⟩
theorem mwX5_readsNumber : dk_mv RX5 yX5_readsNumber cX5_readsNumber 2 (some .boolean) 0 := ⟨⟨⟨rfl, by decide +kernel, by decide +kernel, by decide +kernel⟩, by decide +kernel, dk_tw 889 (by decide +kernel), dk_tw 7 (by decide +kernel)⟩, dk_tw 888 (by decide +kernel), dk_sw 55 (by decide +kernel)⟩
theorem mwX5_isNext : dk_mv RX5 yX5_isNext cX5_isNext 3 (some .boolean) 1 := ⟨⟨⟨rfl, by decide +kernel, by decide +kernel, by decide +kernel⟩, by decide +kernel, dk_tw 893 (by decide +kernel), dk_tw 7 (by decide +kernel)⟩, dk_tw 892 (by decide +kernel), dk_sw 56 (by decide +kernel)⟩
theorem mwX5_carryOut : dk_mv RX5 yX5_carryOut cX5_carryOut 3 (some .int) 0 := ⟨⟨⟨rfl, by decide +kernel, by decide +kernel, by decide +kernel⟩, by decide +kernel, dk_tw 897 (by decide +kernel), dk_tw 7 (by decide +kernel)⟩, dk_tw 895 (by decide +kernel), dk_tw 896 (by decide +kernel)⟩
theorem mwX5_whyNotDone : dk_mv RX5 yX5_whyNotDone cX5_whyNotDone 1 (some .int) 0 := ⟨⟨⟨rfl, by decide +kernel, by decide +kernel, by decide +kernel⟩, by decide +kernel, dk_tw 901 (by decide +kernel), dk_tw 7 (by decide +kernel)⟩, dk_tw 900 (by decide +kernel), dk_sw 57 (by decide +kernel)⟩
theorem mwX5_does : dk_mv RX5 yX5_does cX5_does 1 none 0 := ⟨⟨⟨rfl, by decide +kernel, by decide +kernel, by decide +kernel⟩, by decide +kernel, dk_tw 905 (by decide +kernel), dk_tw 7 (by decide +kernel)⟩, dk_tw 904 (by decide +kernel), dk_sw 58 (by decide +kernel)⟩
theorem mwX5_undo : dk_mv RX5 yX5_undo cX5_undo 1 (some .int) 0 := ⟨⟨⟨rfl, by decide +kernel, by decide +kernel, by decide +kernel⟩, by decide +kernel, dk_tw 909 (by decide +kernel), dk_tw 7 (by decide +kernel)⟩, dk_tw 907 (by decide +kernel), dk_tw 908 (by decide +kernel)⟩
theorem mwX5_digest : dk_mv RX5 yX5_digest cX5_digest 4 (some .long) 0 := ⟨⟨⟨rfl, by decide +kernel, by decide +kernel, by decide +kernel⟩, by decide +kernel, dk_tw 913 (by decide +kernel), dk_tw 7 (by decide +kernel)⟩, dk_tw 911 (by decide +kernel), dk_tw 912 (by decide +kernel)⟩
theorem mlL_9 : Cond.methodLink RL 9 yX4_init ∈ dk_tbl := dk_tw 10 (by decide +kernel)
theorem mlX4_3 : Cond.methodLink RX4 3 Lib.objectInit ∈ dk_tbl := dk_tw 13 (by decide +kernel)
theorem mlX4_11 : Cond.methodLink RX4 11 yX0_init ∈ dk_tbl := dk_tw 18 (by decide +kernel)
theorem mlX0_3 : Cond.methodLink RX0 3 Lib.objectInit ∈ dk_tbl := dk_tw 21 (by decide +kernel)
theorem mlX0_11 : Cond.methodLink RX0 11 yX2_init ∈ dk_tbl := dk_tw 24 (by decide +kernel)
theorem mlX2_3 : Cond.methodLink RX2 3 Lib.objectInit ∈ dk_tbl := dk_tw 27 (by decide +kernel)
theorem mlX2_9 : Cond.methodLink RX2 9 Lib.Math.max.name ∈ dk_tbl := dk_tw 28 (by decide +kernel)
theorem mlX2_21 : Cond.methodLink RX2 21 yX2_clear ∈ dk_tbl := dk_tw 31 (by decide +kernel)
theorem flX2_15 : Cond.fieldLink RX2 15 "DiskRekeying$Row" "cells" "[I" ∈ dk_tbl := dk_tw 35 (by decide +kernel)
theorem mlX0_64 : Cond.methodLink RX0 64 yX2_set ∈ dk_tbl := dk_tw 40 (by decide +kernel)
theorem mlX0_68 : Cond.methodLink RX0 68 yX0_fillWithZeros ∈ dk_tbl := dk_tw 44 (by decide +kernel)
theorem mlX0_125 : Cond.methodLink RX0 125 yX2_clear ∈ dk_tbl := dk_tw 48 (by decide +kernel)
theorem mlX0_147 : Cond.methodLink RX0 147 yX0_exchange ∈ dk_tbl := dk_tw 49 (by decide +kernel)
theorem klX0_160 : Cond.constant RX0 160 (40503) ∈ dk_tbl := dk_tw 53 (by decide +kernel)
theorem mlX0_106 : Cond.methodLink RX0 106 yX2_get ∈ dk_tbl := dk_tw 54 (by decide +kernel)
theorem klX0_78 : Cond.constant RX0 78 (65535) ∈ dk_tbl := dk_tw 58 (by decide +kernel)
theorem flX0_14 : Cond.fieldLink RX0 14 "DiskRekeying$Disk" "scrambled" "LDiskRekeying$Row;" ∈ dk_tbl := dk_tw 59 (by decide +kernel)
theorem flX0_20 : Cond.fieldLink RX0 20 "DiskRekeying$Disk" "expected" "LDiskRekeying$Row;" ∈ dk_tbl := dk_tw 60 (by decide +kernel)
theorem flX0_23 : Cond.fieldLink RX0 23 "DiskRekeying$Disk" "cache" "LDiskRekeying$Row;" ∈ dk_tbl := dk_tw 61 (by decide +kernel)
theorem flX0_26 : Cond.fieldLink RX0 26 "DiskRekeying$Disk" "logged" "LDiskRekeying$Row;" ∈ dk_tbl := dk_tw 62 (by decide +kernel)
theorem flX0_29 : Cond.fieldLink RX0 29 "DiskRekeying$Disk" "secrets" "LDiskRekeying$Row;" ∈ dk_tbl := dk_tw 63 (by decide +kernel)
theorem flX0_32 : Cond.fieldLink RX0 32 "DiskRekeying$Disk" "sectors" "I" ∈ dk_tbl := dk_tw 64 (by decide +kernel)
theorem flX0_36 : Cond.fieldLink RX0 36 "DiskRekeying$Disk" "ownKey" "I" ∈ dk_tbl := dk_tw 65 (by decide +kernel)
theorem flX0_39 : Cond.fieldLink RX0 39 "DiskRekeying$Disk" "target" "I" ∈ dk_tbl := dk_tw 66 (by decide +kernel)
theorem flX0_42 : Cond.fieldLink RX0 42 "DiskRekeying$Disk" "forward" "Z" ∈ dk_tbl := dk_tw 67 (by decide +kernel)
theorem flX0_46 : Cond.fieldLink RX0 46 "DiskRekeying$Disk" "position" "I" ∈ dk_tbl := dk_tw 68 (by decide +kernel)
theorem flX0_49 : Cond.fieldLink RX0 49 "DiskRekeying$Disk" "rewritten" "I" ∈ dk_tbl := dk_tw 69 (by decide +kernel)
theorem flX0_52 : Cond.fieldLink RX0 52 "DiskRekeying$Disk" "zoneSize" "I" ∈ dk_tbl := dk_tw 70 (by decide +kernel)
theorem flX0_55 : Cond.fieldLink RX0 55 "DiskRekeying$Disk" "journalUsed" "Z" ∈ dk_tbl := dk_tw 71 (by decide +kernel)
theorem flX0_58 : Cond.fieldLink RX0 58 "DiskRekeying$Disk" "completed" "I" ∈ dk_tbl := dk_tw 72 (by decide +kernel)
theorem flX0_61 : Cond.fieldLink RX0 61 "DiskRekeying$Disk" "failures" "I" ∈ dk_tbl := dk_tw 73 (by decide +kernel)
theorem mlX4_21 : Cond.methodLink RX4 21 yX1_init ∈ dk_tbl := dk_tw 107 (by decide +kernel)
theorem mlX1_3 : Cond.methodLink RX1 3 Lib.objectInit ∈ dk_tbl := dk_tw 110 (by decide +kernel)
theorem mlX1_24 : Cond.methodLink RX1 24 yX0_init ∈ dk_tbl := dk_tw 113 (by decide +kernel)
theorem flX1_13 : Cond.fieldLink RX1 13 "DiskRekeying$History" "slots" "[LDiskRekeying$Disk;" ∈ dk_tbl := dk_tw 114 (by decide +kernel)
theorem flX1_17 : Cond.fieldLink RX1 17 "DiskRekeying$History" "next" "I" ∈ dk_tbl := dk_tw 115 (by decide +kernel)
theorem flX1_21 : Cond.fieldLink RX1 21 "DiskRekeying$History" "saved" "I" ∈ dk_tbl := dk_tw 116 (by decide +kernel)
theorem mlX3_3 : Cond.methodLink RX3 3 Lib.objectInit ∈ dk_tbl := dk_tw 129 (by decide +kernel)
theorem mlX3_11 : Cond.methodLink RX3 11 yX2_init ∈ dk_tbl := dk_tw 131 (by decide +kernel)
theorem flX3_14 : Cond.fieldLink RX3 14 "DiskRekeying$Script" "codes" "LDiskRekeying$Row;" ∈ dk_tbl := dk_tw 132 (by decide +kernel)
theorem flX3_20 : Cond.fieldLink RX3 20 "DiskRekeying$Script" "letters" "LDiskRekeying$Row;" ∈ dk_tbl := dk_tw 133 (by decide +kernel)
theorem flX3_23 : Cond.fieldLink RX3 23 "DiskRekeying$Script" "sectors" "LDiskRekeying$Row;" ∈ dk_tbl := dk_tw 134 (by decide +kernel)
theorem flX3_26 : Cond.fieldLink RX3 26 "DiskRekeying$Script" "numbers" "LDiskRekeying$Row;" ∈ dk_tbl := dk_tw 135 (by decide +kernel)
theorem flX3_29 : Cond.fieldLink RX3 29 "DiskRekeying$Script" "length" "I" ∈ dk_tbl := dk_tw 136 (by decide +kernel)
theorem flX4_12 : Cond.fieldLink RX4 12 "DiskRekeying" "disk" "LDiskRekeying$Disk;" ∈ dk_tbl := dk_tw 148 (by decide +kernel)
theorem flX4_16 : Cond.fieldLink RX4 16 "DiskRekeying" "trial" "LDiskRekeying$Disk;" ∈ dk_tbl := dk_tw 149 (by decide +kernel)
theorem flX4_22 : Cond.fieldLink RX4 22 "DiskRekeying" "history" "LDiskRekeying$History;" ∈ dk_tbl := dk_tw 150 (by decide +kernel)
theorem flX4_29 : Cond.fieldLink RX4 29 "DiskRekeying" "script" "LDiskRekeying$Script;" ∈ dk_tbl := dk_tw 151 (by decide +kernel)
theorem mlL_13 : Cond.methodLink RL 13 yX4_format ∈ dk_tbl := dk_tw 161 (by decide +kernel)
theorem mlX4_33 : Cond.methodLink RX4 33 yX1_draft ∈ dk_tbl := dk_tw 165 (by decide +kernel)
theorem mlX1_25 : Cond.methodLink RX1 25 yX1_slot ∈ dk_tbl := dk_tw 169 (by decide +kernel)
theorem mlX1_29 : Cond.methodLink RX1 29 yX0_takeOver ∈ dk_tbl := dk_tw 173 (by decide +kernel)
theorem mlX0_71 : Cond.methodLink RX0 71 yX2_takeOver ∈ dk_tbl := dk_tw 177 (by decide +kernel)
theorem mlX2_24 : Cond.methodLink RX2 24 yX2_get ∈ dk_tbl := dk_tw 181 (by decide +kernel)
theorem mlX4_37 : Cond.methodLink RX4 37 yX0_reformat ∈ dk_tbl := dk_tw 182 (by decide +kernel)
theorem mlX0_75 : Cond.methodLink RX0 75 yX0_closeZone ∈ dk_tbl := dk_tw 186 (by decide +kernel)
theorem mlX4_41 : Cond.methodLink RX4 41 yX1_keep ∈ dk_tbl := dk_tw 190 (by decide +kernel)
theorem mlX1_33 : Cond.methodLink RX1 33 Lib.Math.min.name ∈ dk_tbl := dk_tw 194 (by decide +kernel)
theorem mlL_18 : Cond.methodLink RL 18 yX4_addKey ∈ dk_tbl := dk_tw 197 (by decide +kernel)
theorem mlX4_44 : Cond.methodLink RX4 44 yX0_insertKey ∈ dk_tbl := dk_tw 201 (by decide +kernel)
theorem mlX0_79 : Cond.methodLink RX0 79 yX0_hasKey ∈ dk_tbl := dk_tw 205 (by decide +kernel)
theorem mlX0_83 : Cond.methodLink RX0 83 yX2_filled ∈ dk_tbl := dk_tw 209 (by decide +kernel)
theorem mlL_23 : Cond.methodLink RL 23 yX4_removeKey ∈ dk_tbl := dk_tw 213 (by decide +kernel)
theorem mlX4_48 : Cond.methodLink RX4 48 yX0_dropKey ∈ dk_tbl := dk_tw 217 (by decide +kernel)
theorem mlL_27 : Cond.methodLink RL 27 yX4_secretOf ∈ dk_tbl := dk_tw 221 (by decide +kernel)
theorem mlX4_51 : Cond.methodLink RX4 51 yX0_hasKey ∈ dk_tbl := dk_tw 225 (by decide +kernel)
theorem mlX4_55 : Cond.methodLink RX4 55 yX0_secretBehind ∈ dk_tbl := dk_tw 226 (by decide +kernel)
theorem mlL_31 : Cond.methodLink RL 31 yX4_setZone ∈ dk_tbl := dk_tw 230 (by decide +kernel)
theorem mlX4_58 : Cond.methodLink RX4 58 yX0_resizeZone ∈ dk_tbl := dk_tw 234 (by decide +kernel)
theorem mlX0_87 : Cond.methodLink RX0 87 yX0_isZoneOpen ∈ dk_tbl := dk_tw 238 (by decide +kernel)
theorem mlL_35 : Cond.methodLink RL 35 yX4_setJournal ∈ dk_tbl := dk_tw 242 (by decide +kernel)
theorem mlX4_61 : Cond.methodLink RX4 61 yX0_switchJournal ∈ dk_tbl := dk_tw 246 (by decide +kernel)
theorem mlL_39 : Cond.methodLink RL 39 yX4_start ∈ dk_tbl := dk_tw 250 (by decide +kernel)
theorem mlX4_64 : Cond.methodLink RX4 64 yX0_begin ∈ dk_tbl := dk_tw 254 (by decide +kernel)
theorem mlX0_91 : Cond.methodLink RX0 91 yX0_isRekeying ∈ dk_tbl := dk_tw 258 (by decide +kernel)
theorem mlX0_94 : Cond.methodLink RX0 94 yX0_stepsAhead ∈ dk_tbl := dk_tw 262 (by decide +kernel)
theorem mlX0_169 : Cond.methodLink RX0 169 yX0_needsJournal ∈ dk_tbl := dk_tw 266 (by decide +kernel)
theorem mlX0_172 : Cond.methodLink RX0 172 yX0_zoneEnd ∈ dk_tbl := dk_tw 270 (by decide +kernel)
theorem mlX0_166 : Cond.methodLink RX0 166 Lib.Math.min.name ∈ dk_tbl := dk_tw 274 (by decide +kernel)
theorem mlX0_151 : Cond.methodLink RX0 151 yX0_zoneFirst ∈ dk_tbl := dk_tw 275 (by decide +kernel)
theorem mlX0_161 : Cond.methodLink RX0 161 Lib.Math.max.name ∈ dk_tbl := dk_tw 279 (by decide +kernel)
theorem mlL_43 : Cond.methodLink RL 43 yX4_steps ∈ dk_tbl := dk_tw 280 (by decide +kernel)
theorem mlX4_67 : Cond.methodLink RX4 67 yX0_advance ∈ dk_tbl := dk_tw 284 (by decide +kernel)
theorem mlX0_97 : Cond.methodLink RX0 97 yX0_makeStep ∈ dk_tbl := dk_tw 288 (by decide +kernel)
theorem mlX0_175 : Cond.methodLink RX0 175 yX0_rewriteNext ∈ dk_tbl := dk_tw 292 (by decide +kernel)
theorem mlX0_154 : Cond.methodLink RX0 154 yX0_keyByPosition ∈ dk_tbl := dk_tw 296 (by decide +kernel)
theorem mlX0_157 : Cond.methodLink RX0 157 yX0_otherKey ∈ dk_tbl := dk_tw 300 (by decide +kernel)
theorem mlX0_100 : Cond.methodLink RX0 100 yX0_endIfThrough ∈ dk_tbl := dk_tw 304 (by decide +kernel)
theorem mlL_47 : Cond.methodLink RL 47 yX4_turnBack ∈ dk_tbl := dk_tw 308 (by decide +kernel)
theorem mlX4_70 : Cond.methodLink RX4 70 yX0_turn ∈ dk_tbl := dk_tw 312 (by decide +kernel)
theorem mlL_52 : Cond.methodLink RL 52 yX4_write ∈ dk_tbl := dk_tw 316 (by decide +kernel)
theorem mlX4_74 : Cond.methodLink RX4 74 yX0_put ∈ dk_tbl := dk_tw 320 (by decide +kernel)
theorem mlX0_103 : Cond.methodLink RX0 103 yX0_hasSector ∈ dk_tbl := dk_tw 324 (by decide +kernel)
theorem mlL_56 : Cond.methodLink RL 56 yX4_flush ∈ dk_tbl := dk_tw 328 (by decide +kernel)
theorem mlX4_77 : Cond.methodLink RX4 77 yX0_flushCache ∈ dk_tbl := dk_tw 332 (by decide +kernel)
theorem mlX0_110 : Cond.methodLink RX0 110 yX0_isFlushable ∈ dk_tbl := dk_tw 336 (by decide +kernel)
theorem mlX0_113 : Cond.methodLink RX0 113 yX0_scrambledAfterFlush ∈ dk_tbl := dk_tw 340 (by decide +kernel)
theorem mlX0_144 : Cond.methodLink RX0 144 yX0_keyAt ∈ dk_tbl := dk_tw 344 (by decide +kernel)
theorem mlL_60 : Cond.methodLink RL 60 yX4_fail ∈ dk_tbl := dk_tw 348 (by decide +kernel)
theorem mlX4_80 : Cond.methodLink RX4 80 yX0_losePower ∈ dk_tbl := dk_tw 352 (by decide +kernel)
theorem mlX0_116 : Cond.methodLink RX0 116 yX0_valueIn ∈ dk_tbl := dk_tw 356 (by decide +kernel)
theorem mlX0_119 : Cond.methodLink RX0 119 yX0_valueAfterFailure ∈ dk_tbl := dk_tw 360 (by decide +kernel)
theorem mlX0_122 : Cond.methodLink RX0 122 yX0_scrambledAfterFailure ∈ dk_tbl := dk_tw 364 (by decide +kernel)
theorem mlL_64 : Cond.methodLink RL 64 yX4_count ∈ dk_tbl := dk_tw 368 (by decide +kernel)
theorem mlX4_83 : Cond.methodLink RX4 83 yX0_numberOfRekeying ∈ dk_tbl := dk_tw 372 (by decide +kernel)
theorem mlX4_86 : Cond.methodLink RX4 86 yX0_number ∈ dk_tbl := dk_tw 376 (by decide +kernel)
theorem mlL_68 : Cond.methodLink RL 68 yX4_read ∈ dk_tbl := dk_tw 380 (by decide +kernel)
theorem mlX4_89 : Cond.methodLink RX4 89 yX0_hasSector ∈ dk_tbl := dk_tw 384 (by decide +kernel)
theorem mlX4_92 : Cond.methodLink RX4 92 yX0_valueIn ∈ dk_tbl := dk_tw 385 (by decide +kernel)
theorem mlL_72 : Cond.methodLink RL 72 yX4_stored ∈ dk_tbl := dk_tw 386 (by decide +kernel)
theorem mlX4_95 : Cond.methodLink RX4 95 yX0_scrambledIn ∈ dk_tbl := dk_tw 390 (by decide +kernel)
theorem mlL_76 : Cond.methodLink RL 76 yX4_keyOf ∈ dk_tbl := dk_tw 394 (by decide +kernel)
theorem mlX4_98 : Cond.methodLink RX4 98 yX0_keyAt ∈ dk_tbl := dk_tw 398 (by decide +kernel)
theorem mlL_80 : Cond.methodLink RL 80 yX4_journal ∈ dk_tbl := dk_tw 399 (by decide +kernel)
theorem mlX4_101 : Cond.methodLink RX4 101 yX0_inJournal ∈ dk_tbl := dk_tw 403 (by decide +kernel)
theorem mlX4_104 : Cond.methodLink RX4 104 yX4_orNone ∈ dk_tbl := dk_tw 407 (by decide +kernel)
theorem mlL_84 : Cond.methodLink RL 84 yX4_cached ∈ dk_tbl := dk_tw 410 (by decide +kernel)
theorem mlX4_107 : Cond.methodLink RX4 107 yX0_inCache ∈ dk_tbl := dk_tw 414 (by decide +kernel)
theorem mlL_88 : Cond.methodLink RL 88 yX4_zoneStart ∈ dk_tbl := dk_tw 418 (by decide +kernel)
theorem mlX4_110 : Cond.methodLink RX4 110 yX0_isRekeying ∈ dk_tbl := dk_tw 422 (by decide +kernel)
theorem mlX4_114 : Cond.methodLink RX4 114 yX0_zoneFirst ∈ dk_tbl := dk_tw 423 (by decide +kernel)
theorem mlL_92 : Cond.methodLink RL 92 yX4_damaged ∈ dk_tbl := dk_tw 424 (by decide +kernel)
theorem mlX4_117 : Cond.methodLink RX4 117 yX0_damageCount ∈ dk_tbl := dk_tw 428 (by decide +kernel)
theorem mlL_96 : Cond.methodLink RL 96 yX4_firstDamaged ∈ dk_tbl := dk_tw 432 (by decide +kernel)
theorem mlX4_120 : Cond.methodLink RX4 120 yX0_firstDamage ∈ dk_tbl := dk_tw 436 (by decide +kernel)
theorem mlL_100 : Cond.methodLink RL 100 yX4_stepsLeft ∈ dk_tbl := dk_tw 440 (by decide +kernel)
theorem mlX4_123 : Cond.methodLink RX4 123 yX0_stepsAhead ∈ dk_tbl := dk_tw 444 (by decide +kernel)
theorem mlL_104 : Cond.methodLink RL 104 yX4_ifFailed ∈ dk_tbl := dk_tw 445 (by decide +kernel)
theorem mlX4_126 : Cond.methodLink RX4 126 yX0_takeOver ∈ dk_tbl := dk_tw 449 (by decide +kernel)
theorem mlX4_129 : Cond.methodLink RX4 129 yX0_makeStep ∈ dk_tbl := dk_tw 450 (by decide +kernel)
theorem mlX4_132 : Cond.methodLink RX4 132 yX0_damageAfterFailure ∈ dk_tbl := dk_tw 451 (by decide +kernel)
theorem mlL_108 : Cond.methodLink RL 108 yX4_worstTime ∈ dk_tbl := dk_tw 455 (by decide +kernel)
theorem mlL_112 : Cond.methodLink RL 112 yX4_ifFlushed ∈ dk_tbl := dk_tw 459 (by decide +kernel)
theorem mlX4_135 : Cond.methodLink RX4 135 yX0_scrambledAfterFlush ∈ dk_tbl := dk_tw 463 (by decide +kernel)
theorem mlL_116 : Cond.methodLink RL 116 yX4_type ∈ dk_tbl := dk_tw 464 (by decide +kernel)
theorem mlX4_138 : Cond.methodLink RX4 138 yX3_append ∈ dk_tbl := dk_tw 468 (by decide +kernel)
theorem mlX3_33 : Cond.methodLink RX3 33 yX2_set ∈ dk_tbl := dk_tw 472 (by decide +kernel)
theorem mlL_120 : Cond.methodLink RL 120 yX4_clearText ∈ dk_tbl := dk_tw 473 (by decide +kernel)
theorem mlX4_141 : Cond.methodLink RX4 141 yX3_empty ∈ dk_tbl := dk_tw 477 (by decide +kernel)
theorem mlL_124 : Cond.methodLink RL 124 yX4_syntaxError ∈ dk_tbl := dk_tw 481 (by decide +kernel)
theorem mlX4_144 : Cond.methodLink RX4 144 yX3_firstError ∈ dk_tbl := dk_tw 485 (by decide +kernel)
theorem mlX3_37 : Cond.methodLink RX3 37 yX2_get ∈ dk_tbl := dk_tw 489 (by decide +kernel)
theorem mlX3_41 : Cond.methodLink RX3 41 yX3_placeBehind ∈ dk_tbl := dk_tw 490 (by decide +kernel)
theorem mlX3_45 : Cond.methodLink RX3 45 yX3_placeBehindLetter ∈ dk_tbl := dk_tw 493 (by decide +kernel)
theorem mlX3_48 : Cond.methodLink RX3 48 yX3_isDigit ∈ dk_tbl := dk_tw 496 (by decide +kernel)
theorem mlL_128 : Cond.methodLink RL 128 yX4_carryOut ∈ dk_tbl := dk_tw 499 (by decide +kernel)
theorem mlX4_147 : Cond.methodLink RX4 147 yX3_split ∈ dk_tbl := dk_tw 503 (by decide +kernel)
theorem mlX4_150 : Cond.methodLink RX4 150 yX3_letter ∈ dk_tbl := dk_tw 507 (by decide +kernel)
theorem mlX4_153 : Cond.methodLink RX4 153 yX3_sector ∈ dk_tbl := dk_tw 511 (by decide +kernel)
theorem mlX4_156 : Cond.methodLink RX4 156 yX3_number ∈ dk_tbl := dk_tw 515 (by decide +kernel)
theorem mlX4_157 : Cond.methodLink RX4 157 yX0_obey ∈ dk_tbl := dk_tw 519 (by decide +kernel)
theorem mlX0_128 : Cond.methodLink RX0 128 yX0_put ∈ dk_tbl := dk_tw 523 (by decide +kernel)
theorem mlX0_132 : Cond.methodLink RX0 132 yX0_flushCache ∈ dk_tbl := dk_tw 524 (by decide +kernel)
theorem mlX0_135 : Cond.methodLink RX0 135 yX0_advance ∈ dk_tbl := dk_tw 525 (by decide +kernel)
theorem mlX0_138 : Cond.methodLink RX0 138 yX0_losePower ∈ dk_tbl := dk_tw 526 (by decide +kernel)
theorem mlX0_141 : Cond.methodLink RX0 141 yX0_turn ∈ dk_tbl := dk_tw 527 (by decide +kernel)
theorem mlL_132 : Cond.methodLink RL 132 yX4_undo ∈ dk_tbl := dk_tw 528 (by decide +kernel)
theorem mlX4_161 : Cond.methodLink RX4 161 yX1_bringBack ∈ dk_tbl := dk_tw 532 (by decide +kernel)
theorem mlL_136 : Cond.methodLink RL 136 yX4_digest ∈ dk_tbl := dk_tw 536 (by decide +kernel)
theorem klX4_165 : Cond.constantLong RX4 165 (392) ∈ dk_tbl := dk_tw 540 (by decide +kernel)
theorem klX4_167 : Cond.constantLong RX4 167 (31) ∈ dk_tbl := dk_tw 541 (by decide +kernel)
theorem mlX4_169 : Cond.methodLink RX4 169 yX4_count ∈ dk_tbl := dk_tw 542 (by decide +kernel)
theorem mlX4_172 : Cond.methodLink RX4 172 yX4_withKeys ∈ dk_tbl := dk_tw 543 (by decide +kernel)
theorem mlX4_191 : Cond.methodLink RX4 191 yX4_secretOf ∈ dk_tbl := dk_tw 547 (by decide +kernel)
theorem mlX4_176 : Cond.methodLink RX4 176 yX4_withSectors ∈ dk_tbl := dk_tw 548 (by decide +kernel)
theorem mlX4_194 : Cond.methodLink RX4 194 yX4_read ∈ dk_tbl := dk_tw 552 (by decide +kernel)
theorem mlX4_197 : Cond.methodLink RX4 197 yX4_stored ∈ dk_tbl := dk_tw 553 (by decide +kernel)
theorem mlX4_200 : Cond.methodLink RX4 200 yX4_keyOf ∈ dk_tbl := dk_tw 554 (by decide +kernel)
theorem mlX4_203 : Cond.methodLink RX4 203 yX4_journal ∈ dk_tbl := dk_tw 555 (by decide +kernel)
theorem mlX4_206 : Cond.methodLink RX4 206 yX4_cached ∈ dk_tbl := dk_tw 556 (by decide +kernel)
theorem mlX4_179 : Cond.methodLink RX4 179 yX4_damaged ∈ dk_tbl := dk_tw 557 (by decide +kernel)
theorem mlX4_182 : Cond.methodLink RX4 182 yX4_firstDamaged ∈ dk_tbl := dk_tw 558 (by decide +kernel)
theorem mlX4_185 : Cond.methodLink RX4 185 yX4_zoneStart ∈ dk_tbl := dk_tw 559 (by decide +kernel)
theorem mlX4_188 : Cond.methodLink RX4 188 yX4_stepsLeft ∈ dk_tbl := dk_tw 560 (by decide +kernel)
theorem mlL_12 : Cond.methodLink RL 12 yX5_init ∈ dk_tbl := dk_tw 563 (by decide +kernel)
theorem mlX5_1 : Cond.methodLink RX5 1 Lib.objectInit ∈ dk_tbl := dk_tw 566 (by decide +kernel)
theorem mlX5_28 : Cond.methodLink RX5 28 yX5_formats ∈ dk_tbl := dk_tw 567 (by decide +kernel)
theorem mlX5_42 : Cond.methodLink RX5 42 yX5_ends ∈ dk_tbl := dk_tw 571 (by decide +kernel)
theorem mlX5_49 : Cond.methodLink RX5 49 yX5_closes ∈ dk_tbl := dk_tw 575 (by decide +kernel)
theorem mlX5_45 : Cond.methodLink RX5 45 yX5_scramble ∈ dk_tbl := dk_tw 579 (by decide +kernel)
theorem klX5_40 : Cond.constant RX5 40 (40503) ∈ dk_tbl := dk_tw 582 (by decide +kernel)
theorem klX5_41 : Cond.constant RX5 41 (65535) ∈ dk_tbl := dk_tw 583 (by decide +kernel)
theorem flX5_7 : Cond.fieldLink RX5 7 "DiskRekeyingModel" "state" "[I" ∈ dk_tbl := dk_tw 584 (by decide +kernel)
theorem flX5_13 : Cond.fieldLink RX5 13 "DiskRekeyingModel" "kept" "[I" ∈ dk_tbl := dk_tw 585 (by decide +kernel)
theorem flX5_16 : Cond.fieldLink RX5 16 "DiskRekeyingModel" "then" "[I" ∈ dk_tbl := dk_tw 586 (by decide +kernel)
theorem flX5_19 : Cond.fieldLink RX5 19 "DiskRekeyingModel" "history" "[I" ∈ dk_tbl := dk_tw 587 (by decide +kernel)
theorem flX5_32 : Cond.fieldLink RX5 32 "DiskRekeyingModel" "recorded" "I" ∈ dk_tbl := dk_tw 588 (by decide +kernel)
theorem flX5_22 : Cond.fieldLink RX5 22 "DiskRekeyingModel" "text" "[I" ∈ dk_tbl := dk_tw 589 (by decide +kernel)
theorem flX5_160 : Cond.fieldLink RX5 160 "DiskRekeyingModel" "textLength" "I" ∈ dk_tbl := dk_tw 590 (by decide +kernel)
theorem flX5_25 : Cond.fieldLink RX5 25 "DiskRekeyingModel" "values" "[I" ∈ dk_tbl := dk_tw 591 (by decide +kernel)
theorem flX5_163 : Cond.fieldLink RX5 163 "DiskRekeyingModel" "at" "I" ∈ dk_tbl := dk_tw 592 (by decide +kernel)
theorem flX5_172 : Cond.fieldLink RX5 172 "DiskRekeyingModel" "letter" "I" ∈ dk_tbl := dk_tw 593 (by decide +kernel)
theorem flX5_178 : Cond.fieldLink RX5 178 "DiskRekeyingModel" "one" "I" ∈ dk_tbl := dk_tw 594 (by decide +kernel)
theorem flX5_184 : Cond.fieldLink RX5 184 "DiskRekeyingModel" "two" "I" ∈ dk_tbl := dk_tw 595 (by decide +kernel)
theorem flX5_169 : Cond.fieldLink RX5 169 "DiskRekeyingModel" "number" "I" ∈ dk_tbl := dk_tw 596 (by decide +kernel)
theorem mlL_17 : Cond.methodLink RL 17 yX5_format ∈ dk_tbl := dk_tw 624 (by decide +kernel)
theorem mlX5_52 : Cond.methodLink RX5 52 yX5_within ∈ dk_tbl := dk_tw 628 (by decide +kernel)
theorem mlX5_93 : Cond.methodLink RX5 93 yX5_record ∈ dk_tbl := dk_tw 631 (by decide +kernel)
theorem mlX5_36 : Cond.methodLink RX5 36 yX5_copies ∈ dk_tbl := dk_tw 635 (by decide +kernel)
theorem mlL_22 : Cond.methodLink RL 22 yX5_addKey ∈ dk_tbl := dk_tw 638 (by decide +kernel)
theorem mlX5_96 : Cond.methodLink RX5 96 yX5_isKey ∈ dk_tbl := dk_tw 642 (by decide +kernel)
theorem mlX5_99 : Cond.methodLink RX5 99 yX5_keysMany ∈ dk_tbl := dk_tw 646 (by decide +kernel)
theorem mlL_26 : Cond.methodLink RL 26 yX5_removeKey ∈ dk_tbl := dk_tw 650 (by decide +kernel)
theorem mlL_30 : Cond.methodLink RL 30 yX5_secretOf ∈ dk_tbl := dk_tw 654 (by decide +kernel)
theorem mlL_34 : Cond.methodLink RL 34 yX5_setZone ∈ dk_tbl := dk_tw 658 (by decide +kernel)
theorem mlX5_105 : Cond.methodLink RX5 105 yX5_sets ∈ dk_tbl := dk_tw 662 (by decide +kernel)
theorem mlX5_102 : Cond.methodLink RX5 102 yX5_isOpen ∈ dk_tbl := dk_tw 666 (by decide +kernel)
theorem mlL_38 : Cond.methodLink RL 38 yX5_setJournal ∈ dk_tbl := dk_tw 670 (by decide +kernel)
theorem mlL_42 : Cond.methodLink RL 42 yX5_start ∈ dk_tbl := dk_tw 674 (by decide +kernel)
theorem mlX5_56 : Cond.methodLink RX5 56 yX5_isRekeying ∈ dk_tbl := dk_tw 678 (by decide +kernel)
theorem mlX5_109 : Cond.methodLink RX5 109 yX5_left ∈ dk_tbl := dk_tw 682 (by decide +kernel)
theorem mlL_46 : Cond.methodLink RL 46 yX5_steps ∈ dk_tbl := dk_tw 686 (by decide +kernel)
theorem mlX5_112 : Cond.methodLink RX5 112 yX5_whyNotSteps ∈ dk_tbl := dk_tw 690 (by decide +kernel)
theorem mlX5_115 : Cond.methodLink RX5 115 yX5_makesSteps ∈ dk_tbl := dk_tw 694 (by decide +kernel)
theorem mlX5_87 : Cond.methodLink RX5 87 yX5_makesStep ∈ dk_tbl := dk_tw 698 (by decide +kernel)
theorem mlX5_60 : Cond.methodLink RX5 60 yX5_zoneFrom ∈ dk_tbl := dk_tw 702 (by decide +kernel)
theorem mlX5_64 : Cond.methodLink RX5 64 yX5_zoneTo ∈ dk_tbl := dk_tw 706 (by decide +kernel)
theorem mlX5_81 : Cond.methodLink RX5 81 yX5_plain ∈ dk_tbl := dk_tw 710 (by decide +kernel)
theorem mlX5_78 : Cond.methodLink RX5 78 yX5_secretAt ∈ dk_tbl := dk_tw 714 (by decide +kernel)
theorem mlX5_74 : Cond.methodLink RX5 74 yX5_keyAt ∈ dk_tbl := dk_tw 718 (by decide +kernel)
theorem mlX5_71 : Cond.methodLink RX5 71 yX5_isRewritten ∈ dk_tbl := dk_tw 722 (by decide +kernel)
theorem mlX5_67 : Cond.methodLink RX5 67 yX5_isInZone ∈ dk_tbl := dk_tw 726 (by decide +kernel)
theorem mlX5_84 : Cond.methodLink RX5 84 yX5_endsAtEnd ∈ dk_tbl := dk_tw 730 (by decide +kernel)
theorem mlL_51 : Cond.methodLink RL 51 yX5_turnBack ∈ dk_tbl := dk_tw 734 (by decide +kernel)
theorem mlX5_118 : Cond.methodLink RX5 118 yX5_whyNotTurned ∈ dk_tbl := dk_tw 738 (by decide +kernel)
theorem mlX5_121 : Cond.methodLink RX5 121 yX5_turns ∈ dk_tbl := dk_tw 742 (by decide +kernel)
theorem mlL_55 : Cond.methodLink RL 55 yX5_write ∈ dk_tbl := dk_tw 746 (by decide +kernel)
theorem mlX5_130 : Cond.methodLink RX5 130 yX5_whyNotWritten ∈ dk_tbl := dk_tw 750 (by decide +kernel)
theorem mlX5_124 : Cond.methodLink RX5 124 yX5_isSector ∈ dk_tbl := dk_tw 754 (by decide +kernel)
theorem mlX5_127 : Cond.methodLink RX5 127 yX5_cachedMany ∈ dk_tbl := dk_tw 758 (by decide +kernel)
theorem mlX5_133 : Cond.methodLink RX5 133 yX5_writes ∈ dk_tbl := dk_tw 762 (by decide +kernel)
theorem mlL_59 : Cond.methodLink RL 59 yX5_flush ∈ dk_tbl := dk_tw 766 (by decide +kernel)
theorem mlX5_142 : Cond.methodLink RX5 142 yX5_flushes ∈ dk_tbl := dk_tw 770 (by decide +kernel)
theorem mlX5_136 : Cond.methodLink RX5 136 yX5_canFlush ∈ dk_tbl := dk_tw 774 (by decide +kernel)
theorem mlX5_139 : Cond.methodLink RX5 139 yX5_formThen ∈ dk_tbl := dk_tw 778 (by decide +kernel)
theorem mlL_63 : Cond.methodLink RL 63 yX5_fail ∈ dk_tbl := dk_tw 782 (by decide +kernel)
theorem mlX5_90 : Cond.methodLink RX5 90 yX5_valueOf ∈ dk_tbl := dk_tw 786 (by decide +kernel)
theorem mlX5_145 : Cond.methodLink RX5 145 yX5_fails ∈ dk_tbl := dk_tw 790 (by decide +kernel)
theorem mlL_67 : Cond.methodLink RL 67 yX5_count ∈ dk_tbl := dk_tw 794 (by decide +kernel)
theorem mlX5_148 : Cond.methodLink RX5 148 yX5_countOf ∈ dk_tbl := dk_tw 798 (by decide +kernel)
theorem mlL_71 : Cond.methodLink RL 71 yX5_read ∈ dk_tbl := dk_tw 802 (by decide +kernel)
theorem mlL_75 : Cond.methodLink RL 75 yX5_stored ∈ dk_tbl := dk_tw 806 (by decide +kernel)
theorem mlL_79 : Cond.methodLink RL 79 yX5_keyOf ∈ dk_tbl := dk_tw 810 (by decide +kernel)
theorem mlL_83 : Cond.methodLink RL 83 yX5_journal ∈ dk_tbl := dk_tw 814 (by decide +kernel)
theorem mlL_87 : Cond.methodLink RL 87 yX5_cached ∈ dk_tbl := dk_tw 818 (by decide +kernel)
theorem mlL_91 : Cond.methodLink RL 91 yX5_zoneStart ∈ dk_tbl := dk_tw 822 (by decide +kernel)
theorem mlL_95 : Cond.methodLink RL 95 yX5_damaged ∈ dk_tbl := dk_tw 826 (by decide +kernel)
theorem mlX5_151 : Cond.methodLink RX5 151 yX5_damagedMany ∈ dk_tbl := dk_tw 830 (by decide +kernel)
theorem mlL_99 : Cond.methodLink RL 99 yX5_firstDamaged ∈ dk_tbl := dk_tw 834 (by decide +kernel)
theorem mlX5_154 : Cond.methodLink RX5 154 yX5_firstOne ∈ dk_tbl := dk_tw 838 (by decide +kernel)
theorem mlL_103 : Cond.methodLink RL 103 yX5_stepsLeft ∈ dk_tbl := dk_tw 842 (by decide +kernel)
theorem mlL_107 : Cond.methodLink RL 107 yX5_ifFailed ∈ dk_tbl := dk_tw 846 (by decide +kernel)
theorem mlX5_157 : Cond.methodLink RX5 157 yX5_damagedThen ∈ dk_tbl := dk_tw 850 (by decide +kernel)
theorem mlL_111 : Cond.methodLink RL 111 yX5_worstTime ∈ dk_tbl := dk_tw 854 (by decide +kernel)
theorem mlL_115 : Cond.methodLink RL 115 yX5_ifFlushed ∈ dk_tbl := dk_tw 858 (by decide +kernel)
theorem mlL_119 : Cond.methodLink RL 119 yX5_type ∈ dk_tbl := dk_tw 862 (by decide +kernel)
theorem mlL_123 : Cond.methodLink RL 123 yX5_clearText ∈ dk_tbl := dk_tw 866 (by decide +kernel)
theorem mlL_127 : Cond.methodLink RL 127 yX5_syntaxError ∈ dk_tbl := dk_tw 870 (by decide +kernel)
theorem mlX5_190 : Cond.methodLink RX5 190 yX5_findError ∈ dk_tbl := dk_tw 874 (by decide +kernel)
theorem mlX5_187 : Cond.methodLink RX5 187 yX5_readsCommand ∈ dk_tbl := dk_tw 878 (by decide +kernel)
theorem mlX5_166 : Cond.methodLink RX5 166 yX5_character ∈ dk_tbl := dk_tw 882 (by decide +kernel)
theorem mlX5_175 : Cond.methodLink RX5 175 yX5_readsNumber ∈ dk_tbl := dk_tw 886 (by decide +kernel)
theorem mlX5_181 : Cond.methodLink RX5 181 yX5_isNext ∈ dk_tbl := dk_tw 890 (by decide +kernel)
theorem mlL_131 : Cond.methodLink RL 131 yX5_carryOut ∈ dk_tbl := dk_tw 894 (by decide +kernel)
theorem mlX5_193 : Cond.methodLink RX5 193 yX5_whyNotDone ∈ dk_tbl := dk_tw 898 (by decide +kernel)
theorem mlX5_196 : Cond.methodLink RX5 196 yX5_does ∈ dk_tbl := dk_tw 902 (by decide +kernel)
theorem mlL_135 : Cond.methodLink RL 135 yX5_undo ∈ dk_tbl := dk_tw 906 (by decide +kernel)
theorem mlL_140 : Cond.methodLink RL 140 yX5_digest ∈ dk_tbl := dk_tw 910 (by decide +kernel)
theorem klX5_199 : Cond.constantLong RX5 199 (392) ∈ dk_tbl := dk_tw 914 (by decide +kernel)
theorem klX5_201 : Cond.constantLong RX5 201 (31) ∈ dk_tbl := dk_tw 915 (by decide +kernel)
theorem mmath_i : Cond.initialized "java/lang/Math" ∈ dk_tbl := dk_tw 4 (by decide +kernel)
theorem mobj_m : Cond.instanceMethod Lib.objectInit ∈ dk_tbl := dk_tw 14 (by decide +kernel)
theorem mobj_c : Cond.code Lib.objectInit ⟨#[0xb1]⟩ 1 none ∈ dk_tbl := dk_tw 15 (by decide +kernel)
theorem mmmax_s : Cond.static Lib.Math.max.name ∈ dk_tbl := dk_tw 29 (by decide +kernel)
theorem mmmax_c : Cond.code Lib.Math.max.name Lib.Math.max.code 2 (some .int) ∈ dk_tbl := dk_tw 30 (by decide +kernel)
theorem mmmin_s : Cond.static Lib.Math.min.name ∈ dk_tbl := dk_tw 195 (by decide +kernel)
theorem mmmin_c : Cond.code Lib.Math.min.name Lib.Math.min.code 2 (some .int) ∈ dk_tbl := dk_tw 196 (by decide +kernel)
end
section
theorem dX0_init_0 : decode cX0_init 0 = .ok (.aload_n 0, 1) := by decide +kernel
theorem dX0_init_1 : decode cX0_init 1 = .ok (.invokespecial 3, 3) := by decide +kernel
theorem dX0_init_4 : decode cX0_init 4 = .ok (.aload_n 0, 1) := by decide +kernel
theorem dX0_init_5 : decode cX0_init 5 = .ok (.new 9, 3) := by decide +kernel
theorem dX0_init_8 : decode cX0_init 8 = .ok (.dup, 1) := by decide +kernel
theorem dX0_init_9 : decode cX0_init 9 = .ok (.bipush 64, 2) := by decide +kernel
theorem dX0_init_11 : decode cX0_init 11 = .ok (.invokespecial 11, 3) := by decide +kernel
theorem dX0_init_14 : decode cX0_init 14 = .ok (.putfield 14, 3) := by decide +kernel
theorem dX0_init_17 : decode cX0_init 17 = .ok (.aload_n 0, 1) := by decide +kernel
theorem dX0_init_18 : decode cX0_init 18 = .ok (.new 9, 3) := by decide +kernel
theorem dX0_init_21 : decode cX0_init 21 = .ok (.dup, 1) := by decide +kernel
theorem dX0_init_22 : decode cX0_init 22 = .ok (.bipush 64, 2) := by decide +kernel
theorem dX0_init_24 : decode cX0_init 24 = .ok (.invokespecial 11, 3) := by decide +kernel
theorem dX0_init_27 : decode cX0_init 27 = .ok (.putfield 20, 3) := by decide +kernel
theorem dX0_init_30 : decode cX0_init 30 = .ok (.aload_n 0, 1) := by decide +kernel
theorem dX0_init_31 : decode cX0_init 31 = .ok (.new 9, 3) := by decide +kernel
theorem dX0_init_34 : decode cX0_init 34 = .ok (.dup, 1) := by decide +kernel
theorem dX0_init_35 : decode cX0_init 35 = .ok (.bipush 64, 2) := by decide +kernel
theorem dX0_init_37 : decode cX0_init 37 = .ok (.invokespecial 11, 3) := by decide +kernel
theorem dX0_init_40 : decode cX0_init 40 = .ok (.putfield 23, 3) := by decide +kernel
theorem dX0_init_43 : decode cX0_init 43 = .ok (.aload_n 0, 1) := by decide +kernel
theorem dX0_init_44 : decode cX0_init 44 = .ok (.new 9, 3) := by decide +kernel
theorem dX0_init_47 : decode cX0_init 47 = .ok (.dup, 1) := by decide +kernel
theorem dX0_init_48 : decode cX0_init 48 = .ok (.bipush 64, 2) := by decide +kernel
theorem dX0_init_50 : decode cX0_init 50 = .ok (.invokespecial 11, 3) := by decide +kernel
theorem dX0_init_53 : decode cX0_init 53 = .ok (.putfield 26, 3) := by decide +kernel
theorem dX0_init_56 : decode cX0_init 56 = .ok (.aload_n 0, 1) := by decide +kernel
theorem dX0_init_57 : decode cX0_init 57 = .ok (.new 9, 3) := by decide +kernel
theorem dX0_init_60 : decode cX0_init 60 = .ok (.dup, 1) := by decide +kernel
theorem dX0_init_61 : decode cX0_init 61 = .ok (.bipush 100, 2) := by decide +kernel
theorem dX0_init_63 : decode cX0_init 63 = .ok (.invokespecial 11, 3) := by decide +kernel
theorem dX0_init_66 : decode cX0_init 66 = .ok (.putfield 29, 3) := by decide +kernel
theorem dX0_init_69 : decode cX0_init 69 = .ok (.aload_n 0, 1) := by decide +kernel
theorem dX0_init_70 : decode cX0_init 70 = .ok (.bipush 16, 2) := by decide +kernel
theorem dX0_init_72 : decode cX0_init 72 = .ok (.putfield 32, 3) := by decide +kernel
theorem dX0_init_75 : decode cX0_init 75 = .ok (.aload_n 0, 1) := by decide +kernel
theorem dX0_init_76 : decode cX0_init 76 = .ok (.iconst 1, 1) := by decide +kernel
theorem dX0_init_77 : decode cX0_init 77 = .ok (.putfield 36, 3) := by decide +kernel
theorem dX0_init_80 : decode cX0_init 80 = .ok (.aload_n 0, 1) := by decide +kernel
theorem dX0_init_81 : decode cX0_init 81 = .ok (.iconst 0, 1) := by decide +kernel
theorem dX0_init_82 : decode cX0_init 82 = .ok (.putfield 39, 3) := by decide +kernel
theorem dX0_init_85 : decode cX0_init 85 = .ok (.aload_n 0, 1) := by decide +kernel
theorem dX0_init_86 : decode cX0_init 86 = .ok (.iconst 1, 1) := by decide +kernel
theorem dX0_init_87 : decode cX0_init 87 = .ok (.putfield 42, 3) := by decide +kernel
theorem dX0_init_90 : decode cX0_init 90 = .ok (.aload_n 0, 1) := by decide +kernel
theorem dX0_init_91 : decode cX0_init 91 = .ok (.iconst 0, 1) := by decide +kernel
theorem dX0_init_92 : decode cX0_init 92 = .ok (.putfield 46, 3) := by decide +kernel
theorem dX0_init_95 : decode cX0_init 95 = .ok (.aload_n 0, 1) := by decide +kernel
theorem dX0_init_96 : decode cX0_init 96 = .ok (.iconst 0, 1) := by decide +kernel
theorem dX0_init_97 : decode cX0_init 97 = .ok (.putfield 49, 3) := by decide +kernel
theorem dX0_init_100 : decode cX0_init 100 = .ok (.aload_n 0, 1) := by decide +kernel
theorem dX0_init_101 : decode cX0_init 101 = .ok (.iconst 4, 1) := by decide +kernel
theorem dX0_init_102 : decode cX0_init 102 = .ok (.putfield 52, 3) := by decide +kernel
theorem dX0_init_105 : decode cX0_init 105 = .ok (.aload_n 0, 1) := by decide +kernel
theorem dX0_init_106 : decode cX0_init 106 = .ok (.iconst 1, 1) := by decide +kernel
theorem dX0_init_107 : decode cX0_init 107 = .ok (.putfield 55, 3) := by decide +kernel
theorem dX0_init_110 : decode cX0_init 110 = .ok (.aload_n 0, 1) := by decide +kernel
theorem dX0_init_111 : decode cX0_init 111 = .ok (.iconst 0, 1) := by decide +kernel
theorem dX0_init_112 : decode cX0_init 112 = .ok (.putfield 58, 3) := by decide +kernel
theorem dX0_init_115 : decode cX0_init 115 = .ok (.aload_n 0, 1) := by decide +kernel
theorem dX0_init_116 : decode cX0_init 116 = .ok (.iconst 0, 1) := by decide +kernel
theorem dX0_init_117 : decode cX0_init 117 = .ok (.putfield 61, 3) := by decide +kernel
theorem dX0_init_120 : decode cX0_init 120 = .ok (.aload_n 0, 1) := by decide +kernel
theorem dX0_init_121 : decode cX0_init 121 = .ok (.getfield 29, 3) := by decide +kernel
theorem dX0_init_124 : decode cX0_init 124 = .ok (.aload_n 0, 1) := by decide +kernel
theorem dX0_init_125 : decode cX0_init 125 = .ok (.getfield 36, 3) := by decide +kernel
theorem dX0_init_128 : decode cX0_init 128 = .ok (.iconst 0, 1) := by decide +kernel
theorem dX0_init_129 : decode cX0_init 129 = .ok (.invokevirtual 64, 3) := by decide +kernel
theorem dX0_init_132 : decode cX0_init 132 = .ok (.aload_n 0, 1) := by decide +kernel
theorem dX0_init_133 : decode cX0_init 133 = .ok (.invokevirtual 68, 3) := by decide +kernel
theorem dX0_init_136 : decode cX0_init 136 = .ok (.return_, 1) := by decide +kernel
theorem dX0_takeOver_0 : decode cX0_takeOver 0 = .ok (.aload_n 0, 1) := by decide +kernel
theorem dX0_takeOver_1 : decode cX0_takeOver 1 = .ok (.getfield 14, 3) := by decide +kernel
theorem dX0_takeOver_4 : decode cX0_takeOver 4 = .ok (.aload_n 1, 1) := by decide +kernel
theorem dX0_takeOver_5 : decode cX0_takeOver 5 = .ok (.getfield 14, 3) := by decide +kernel
theorem dX0_takeOver_8 : decode cX0_takeOver 8 = .ok (.invokevirtual 71, 3) := by decide +kernel
theorem dX0_takeOver_11 : decode cX0_takeOver 11 = .ok (.aload_n 0, 1) := by decide +kernel
theorem dX0_takeOver_12 : decode cX0_takeOver 12 = .ok (.getfield 20, 3) := by decide +kernel
theorem dX0_takeOver_15 : decode cX0_takeOver 15 = .ok (.aload_n 1, 1) := by decide +kernel
theorem dX0_takeOver_16 : decode cX0_takeOver 16 = .ok (.getfield 20, 3) := by decide +kernel
theorem dX0_takeOver_19 : decode cX0_takeOver 19 = .ok (.invokevirtual 71, 3) := by decide +kernel
theorem dX0_takeOver_22 : decode cX0_takeOver 22 = .ok (.aload_n 0, 1) := by decide +kernel
theorem dX0_takeOver_23 : decode cX0_takeOver 23 = .ok (.getfield 23, 3) := by decide +kernel
theorem dX0_takeOver_26 : decode cX0_takeOver 26 = .ok (.aload_n 1, 1) := by decide +kernel
theorem dX0_takeOver_27 : decode cX0_takeOver 27 = .ok (.getfield 23, 3) := by decide +kernel
theorem dX0_takeOver_30 : decode cX0_takeOver 30 = .ok (.invokevirtual 71, 3) := by decide +kernel
theorem dX0_takeOver_33 : decode cX0_takeOver 33 = .ok (.aload_n 0, 1) := by decide +kernel
theorem dX0_takeOver_34 : decode cX0_takeOver 34 = .ok (.getfield 26, 3) := by decide +kernel
theorem dX0_takeOver_37 : decode cX0_takeOver 37 = .ok (.aload_n 1, 1) := by decide +kernel
theorem dX0_takeOver_38 : decode cX0_takeOver 38 = .ok (.getfield 26, 3) := by decide +kernel
theorem dX0_takeOver_41 : decode cX0_takeOver 41 = .ok (.invokevirtual 71, 3) := by decide +kernel
theorem dX0_takeOver_44 : decode cX0_takeOver 44 = .ok (.aload_n 0, 1) := by decide +kernel
theorem dX0_takeOver_45 : decode cX0_takeOver 45 = .ok (.getfield 29, 3) := by decide +kernel
theorem dX0_takeOver_48 : decode cX0_takeOver 48 = .ok (.aload_n 1, 1) := by decide +kernel
theorem dX0_takeOver_49 : decode cX0_takeOver 49 = .ok (.getfield 29, 3) := by decide +kernel
theorem dX0_takeOver_52 : decode cX0_takeOver 52 = .ok (.invokevirtual 71, 3) := by decide +kernel
theorem dX0_takeOver_55 : decode cX0_takeOver 55 = .ok (.aload_n 0, 1) := by decide +kernel
theorem dX0_takeOver_56 : decode cX0_takeOver 56 = .ok (.aload_n 1, 1) := by decide +kernel
theorem dX0_takeOver_57 : decode cX0_takeOver 57 = .ok (.getfield 32, 3) := by decide +kernel
theorem dX0_takeOver_60 : decode cX0_takeOver 60 = .ok (.putfield 32, 3) := by decide +kernel
theorem dX0_takeOver_63 : decode cX0_takeOver 63 = .ok (.aload_n 0, 1) := by decide +kernel
theorem dX0_takeOver_64 : decode cX0_takeOver 64 = .ok (.aload_n 1, 1) := by decide +kernel
theorem dX0_takeOver_65 : decode cX0_takeOver 65 = .ok (.getfield 36, 3) := by decide +kernel
theorem dX0_takeOver_68 : decode cX0_takeOver 68 = .ok (.putfield 36, 3) := by decide +kernel
theorem dX0_takeOver_71 : decode cX0_takeOver 71 = .ok (.aload_n 0, 1) := by decide +kernel
theorem dX0_takeOver_72 : decode cX0_takeOver 72 = .ok (.aload_n 1, 1) := by decide +kernel
theorem dX0_takeOver_73 : decode cX0_takeOver 73 = .ok (.getfield 39, 3) := by decide +kernel
theorem dX0_takeOver_76 : decode cX0_takeOver 76 = .ok (.putfield 39, 3) := by decide +kernel
theorem dX0_takeOver_79 : decode cX0_takeOver 79 = .ok (.aload_n 0, 1) := by decide +kernel
theorem dX0_takeOver_80 : decode cX0_takeOver 80 = .ok (.aload_n 1, 1) := by decide +kernel
theorem dX0_takeOver_81 : decode cX0_takeOver 81 = .ok (.getfield 42, 3) := by decide +kernel
theorem dX0_takeOver_84 : decode cX0_takeOver 84 = .ok (.putfield 42, 3) := by decide +kernel
theorem dX0_takeOver_87 : decode cX0_takeOver 87 = .ok (.aload_n 0, 1) := by decide +kernel
theorem dX0_takeOver_88 : decode cX0_takeOver 88 = .ok (.aload_n 1, 1) := by decide +kernel
theorem dX0_takeOver_89 : decode cX0_takeOver 89 = .ok (.getfield 46, 3) := by decide +kernel
theorem dX0_takeOver_92 : decode cX0_takeOver 92 = .ok (.putfield 46, 3) := by decide +kernel
theorem dX0_takeOver_95 : decode cX0_takeOver 95 = .ok (.aload_n 0, 1) := by decide +kernel
theorem dX0_takeOver_96 : decode cX0_takeOver 96 = .ok (.aload_n 1, 1) := by decide +kernel
theorem dX0_takeOver_97 : decode cX0_takeOver 97 = .ok (.getfield 49, 3) := by decide +kernel
theorem dX0_takeOver_100 : decode cX0_takeOver 100 = .ok (.putfield 49, 3) := by decide +kernel
theorem dX0_takeOver_103 : decode cX0_takeOver 103 = .ok (.aload_n 0, 1) := by decide +kernel
theorem dX0_takeOver_104 : decode cX0_takeOver 104 = .ok (.aload_n 1, 1) := by decide +kernel
theorem dX0_takeOver_105 : decode cX0_takeOver 105 = .ok (.getfield 52, 3) := by decide +kernel
theorem dX0_takeOver_108 : decode cX0_takeOver 108 = .ok (.putfield 52, 3) := by decide +kernel
theorem dX0_takeOver_111 : decode cX0_takeOver 111 = .ok (.aload_n 0, 1) := by decide +kernel
theorem dX0_takeOver_112 : decode cX0_takeOver 112 = .ok (.aload_n 1, 1) := by decide +kernel
theorem dX0_takeOver_113 : decode cX0_takeOver 113 = .ok (.getfield 55, 3) := by decide +kernel
theorem dX0_takeOver_116 : decode cX0_takeOver 116 = .ok (.putfield 55, 3) := by decide +kernel
theorem dX0_takeOver_119 : decode cX0_takeOver 119 = .ok (.aload_n 0, 1) := by decide +kernel
theorem dX0_takeOver_120 : decode cX0_takeOver 120 = .ok (.aload_n 1, 1) := by decide +kernel
theorem dX0_takeOver_121 : decode cX0_takeOver 121 = .ok (.getfield 58, 3) := by decide +kernel
theorem dX0_takeOver_124 : decode cX0_takeOver 124 = .ok (.putfield 58, 3) := by decide +kernel
theorem dX0_takeOver_127 : decode cX0_takeOver 127 = .ok (.aload_n 0, 1) := by decide +kernel
theorem dX0_takeOver_128 : decode cX0_takeOver 128 = .ok (.aload_n 1, 1) := by decide +kernel
theorem dX0_takeOver_129 : decode cX0_takeOver 129 = .ok (.getfield 61, 3) := by decide +kernel
theorem dX0_takeOver_132 : decode cX0_takeOver 132 = .ok (.putfield 61, 3) := by decide +kernel
theorem dX0_takeOver_135 : decode cX0_takeOver 135 = .ok (.return_, 1) := by decide +kernel
theorem dX0_reformat_0 : decode cX0_reformat 0 = .ok (.iload_n 1, 1) := by decide +kernel
theorem dX0_reformat_1 : decode cX0_reformat 1 = .ok (.iconst 4, 1) := by decide +kernel
theorem dX0_reformat_2 : decode cX0_reformat 2 = .ok (.if_icmp .lt 9, 3) := by decide +kernel
theorem dX0_reformat_5 : decode cX0_reformat 5 = .ok (.iload_n 1, 1) := by decide +kernel
theorem dX0_reformat_6 : decode cX0_reformat 6 = .ok (.bipush 64, 2) := by decide +kernel
theorem dX0_reformat_8 : decode cX0_reformat 8 = .ok (.if_icmp .le 6, 3) := by decide +kernel
theorem dX0_reformat_11 : decode cX0_reformat 11 = .ok (.bipush (-2), 2) := by decide +kernel
theorem dX0_reformat_13 : decode cX0_reformat 13 = .ok (.ireturn, 1) := by decide +kernel
theorem dX0_reformat_14 : decode cX0_reformat 14 = .ok (.aload_n 0, 1) := by decide +kernel
theorem dX0_reformat_15 : decode cX0_reformat 15 = .ok (.getfield 32, 3) := by decide +kernel
theorem dX0_reformat_18 : decode cX0_reformat 18 = .ok (.istore_n 2, 1) := by decide +kernel
theorem dX0_reformat_19 : decode cX0_reformat 19 = .ok (.aload_n 0, 1) := by decide +kernel
theorem dX0_reformat_20 : decode cX0_reformat 20 = .ok (.iload_n 1, 1) := by decide +kernel
theorem dX0_reformat_21 : decode cX0_reformat 21 = .ok (.putfield 32, 3) := by decide +kernel
theorem dX0_reformat_24 : decode cX0_reformat 24 = .ok (.aload_n 0, 1) := by decide +kernel
theorem dX0_reformat_25 : decode cX0_reformat 25 = .ok (.iconst 0, 1) := by decide +kernel
theorem dX0_reformat_26 : decode cX0_reformat 26 = .ok (.putfield 39, 3) := by decide +kernel
theorem dX0_reformat_29 : decode cX0_reformat 29 = .ok (.aload_n 0, 1) := by decide +kernel
theorem dX0_reformat_30 : decode cX0_reformat 30 = .ok (.invokevirtual 75, 3) := by decide +kernel
theorem dX0_reformat_33 : decode cX0_reformat 33 = .ok (.aload_n 0, 1) := by decide +kernel
theorem dX0_reformat_34 : decode cX0_reformat 34 = .ok (.invokevirtual 68, 3) := by decide +kernel
theorem dX0_reformat_37 : decode cX0_reformat 37 = .ok (.iload_n 2, 1) := by decide +kernel
theorem dX0_reformat_38 : decode cX0_reformat 38 = .ok (.ireturn, 1) := by decide +kernel
theorem dX0_insertKey_0 : decode cX0_insertKey 0 = .ok (.iload_n 1, 1) := by decide +kernel
theorem dX0_insertKey_1 : decode cX0_insertKey 1 = .ok (.iconst 1, 1) := by decide +kernel
theorem dX0_insertKey_2 : decode cX0_insertKey 2 = .ok (.if_icmp .lt 19, 3) := by decide +kernel
theorem dX0_insertKey_5 : decode cX0_insertKey 5 = .ok (.iload_n 1, 1) := by decide +kernel
theorem dX0_insertKey_6 : decode cX0_insertKey 6 = .ok (.bipush 99, 2) := by decide +kernel
theorem dX0_insertKey_8 : decode cX0_insertKey 8 = .ok (.if_icmp .gt 13, 3) := by decide +kernel
theorem dX0_insertKey_11 : decode cX0_insertKey 11 = .ok (.iload_n 2, 1) := by decide +kernel
theorem dX0_insertKey_12 : decode cX0_insertKey 12 = .ok (.ifCond .lt 9, 3) := by decide +kernel
theorem dX0_insertKey_15 : decode cX0_insertKey 15 = .ok (.iload_n 2, 1) := by decide +kernel
theorem dX0_insertKey_16 : decode cX0_insertKey 16 = .ok (.ldc 78, 2) := by decide +kernel
theorem dX0_insertKey_18 : decode cX0_insertKey 18 = .ok (.if_icmp .le 6, 3) := by decide +kernel
theorem dX0_insertKey_21 : decode cX0_insertKey 21 = .ok (.bipush (-2), 2) := by decide +kernel
theorem dX0_insertKey_23 : decode cX0_insertKey 23 = .ok (.ireturn, 1) := by decide +kernel
theorem dX0_insertKey_24 : decode cX0_insertKey 24 = .ok (.aload_n 0, 1) := by decide +kernel
theorem dX0_insertKey_25 : decode cX0_insertKey 25 = .ok (.iload_n 1, 1) := by decide +kernel
theorem dX0_insertKey_26 : decode cX0_insertKey 26 = .ok (.invokevirtual 79, 3) := by decide +kernel
theorem dX0_insertKey_29 : decode cX0_insertKey 29 = .ok (.ifCond .eq 6, 3) := by decide +kernel
theorem dX0_insertKey_32 : decode cX0_insertKey 32 = .ok (.bipush (-3), 2) := by decide +kernel
theorem dX0_insertKey_34 : decode cX0_insertKey 34 = .ok (.ireturn, 1) := by decide +kernel
theorem dX0_insertKey_35 : decode cX0_insertKey 35 = .ok (.aload_n 0, 1) := by decide +kernel
theorem dX0_insertKey_36 : decode cX0_insertKey 36 = .ok (.getfield 29, 3) := by decide +kernel
theorem dX0_insertKey_39 : decode cX0_insertKey 39 = .ok (.invokevirtual 83, 3) := by decide +kernel
theorem dX0_insertKey_42 : decode cX0_insertKey 42 = .ok (.bipush 8, 2) := by decide +kernel
theorem dX0_insertKey_44 : decode cX0_insertKey 44 = .ok (.if_icmp .lt 6, 3) := by decide +kernel
theorem dX0_insertKey_47 : decode cX0_insertKey 47 = .ok (.bipush (-4), 2) := by decide +kernel
theorem dX0_insertKey_49 : decode cX0_insertKey 49 = .ok (.ireturn, 1) := by decide +kernel
theorem dX0_insertKey_50 : decode cX0_insertKey 50 = .ok (.aload_n 0, 1) := by decide +kernel
theorem dX0_insertKey_51 : decode cX0_insertKey 51 = .ok (.getfield 29, 3) := by decide +kernel
theorem dX0_insertKey_54 : decode cX0_insertKey 54 = .ok (.iload_n 1, 1) := by decide +kernel
theorem dX0_insertKey_55 : decode cX0_insertKey 55 = .ok (.iload_n 2, 1) := by decide +kernel
theorem dX0_insertKey_56 : decode cX0_insertKey 56 = .ok (.invokevirtual 64, 3) := by decide +kernel
theorem dX0_insertKey_59 : decode cX0_insertKey 59 = .ok (.aload_n 0, 1) := by decide +kernel
theorem dX0_insertKey_60 : decode cX0_insertKey 60 = .ok (.getfield 29, 3) := by decide +kernel
theorem dX0_insertKey_63 : decode cX0_insertKey 63 = .ok (.invokevirtual 83, 3) := by decide +kernel
theorem dX0_insertKey_66 : decode cX0_insertKey 66 = .ok (.ireturn, 1) := by decide +kernel
theorem dX0_dropKey_0 : decode cX0_dropKey 0 = .ok (.aload_n 0, 1) := by decide +kernel
theorem dX0_dropKey_1 : decode cX0_dropKey 1 = .ok (.iload_n 1, 1) := by decide +kernel
theorem dX0_dropKey_2 : decode cX0_dropKey 2 = .ok (.invokevirtual 79, 3) := by decide +kernel
theorem dX0_dropKey_5 : decode cX0_dropKey 5 = .ok (.ifCond .ne 5, 3) := by decide +kernel
theorem dX0_dropKey_8 : decode cX0_dropKey 8 = .ok (.iconst (-1), 1) := by decide +kernel
theorem dX0_dropKey_9 : decode cX0_dropKey 9 = .ok (.ireturn, 1) := by decide +kernel
theorem dX0_dropKey_10 : decode cX0_dropKey 10 = .ok (.iload_n 1, 1) := by decide +kernel
theorem dX0_dropKey_11 : decode cX0_dropKey 11 = .ok (.aload_n 0, 1) := by decide +kernel
theorem dX0_dropKey_12 : decode cX0_dropKey 12 = .ok (.getfield 36, 3) := by decide +kernel
theorem dX0_dropKey_15 : decode cX0_dropKey 15 = .ok (.if_icmp .eq 11, 3) := by decide +kernel
theorem dX0_dropKey_18 : decode cX0_dropKey 18 = .ok (.iload_n 1, 1) := by decide +kernel
theorem dX0_dropKey_19 : decode cX0_dropKey 19 = .ok (.aload_n 0, 1) := by decide +kernel
theorem dX0_dropKey_20 : decode cX0_dropKey 20 = .ok (.getfield 39, 3) := by decide +kernel
theorem dX0_dropKey_23 : decode cX0_dropKey 23 = .ok (.if_icmp .ne 6, 3) := by decide +kernel
theorem dX0_dropKey_26 : decode cX0_dropKey 26 = .ok (.bipush (-3), 2) := by decide +kernel
theorem dX0_dropKey_28 : decode cX0_dropKey 28 = .ok (.ireturn, 1) := by decide +kernel
theorem dX0_dropKey_29 : decode cX0_dropKey 29 = .ok (.aload_n 0, 1) := by decide +kernel
theorem dX0_dropKey_30 : decode cX0_dropKey 30 = .ok (.getfield 29, 3) := by decide +kernel
theorem dX0_dropKey_33 : decode cX0_dropKey 33 = .ok (.iload_n 1, 1) := by decide +kernel
theorem dX0_dropKey_34 : decode cX0_dropKey 34 = .ok (.iconst (-1), 1) := by decide +kernel
theorem dX0_dropKey_35 : decode cX0_dropKey 35 = .ok (.invokevirtual 64, 3) := by decide +kernel
theorem dX0_dropKey_38 : decode cX0_dropKey 38 = .ok (.aload_n 0, 1) := by decide +kernel
theorem dX0_dropKey_39 : decode cX0_dropKey 39 = .ok (.getfield 29, 3) := by decide +kernel
theorem dX0_dropKey_42 : decode cX0_dropKey 42 = .ok (.invokevirtual 83, 3) := by decide +kernel
theorem dX0_dropKey_45 : decode cX0_dropKey 45 = .ok (.ireturn, 1) := by decide +kernel
theorem dX0_resizeZone_0 : decode cX0_resizeZone 0 = .ok (.iload_n 1, 1) := by decide +kernel
theorem dX0_resizeZone_1 : decode cX0_resizeZone 1 = .ok (.iconst 1, 1) := by decide +kernel
theorem dX0_resizeZone_2 : decode cX0_resizeZone 2 = .ok (.if_icmp .lt 9, 3) := by decide +kernel
theorem dX0_resizeZone_5 : decode cX0_resizeZone 5 = .ok (.iload_n 1, 1) := by decide +kernel
theorem dX0_resizeZone_6 : decode cX0_resizeZone 6 = .ok (.bipush 8, 2) := by decide +kernel
theorem dX0_resizeZone_8 : decode cX0_resizeZone 8 = .ok (.if_icmp .le 6, 3) := by decide +kernel
theorem dX0_resizeZone_11 : decode cX0_resizeZone 11 = .ok (.bipush (-2), 2) := by decide +kernel
theorem dX0_resizeZone_13 : decode cX0_resizeZone 13 = .ok (.ireturn, 1) := by decide +kernel
theorem dX0_resizeZone_14 : decode cX0_resizeZone 14 = .ok (.aload_n 0, 1) := by decide +kernel
theorem dX0_resizeZone_15 : decode cX0_resizeZone 15 = .ok (.invokevirtual 87, 3) := by decide +kernel
theorem dX0_resizeZone_18 : decode cX0_resizeZone 18 = .ok (.ifCond .eq 6, 3) := by decide +kernel
theorem dX0_resizeZone_21 : decode cX0_resizeZone 21 = .ok (.bipush (-3), 2) := by decide +kernel
theorem dX0_resizeZone_23 : decode cX0_resizeZone 23 = .ok (.ireturn, 1) := by decide +kernel
theorem dX0_resizeZone_24 : decode cX0_resizeZone 24 = .ok (.aload_n 0, 1) := by decide +kernel
theorem dX0_resizeZone_25 : decode cX0_resizeZone 25 = .ok (.getfield 52, 3) := by decide +kernel
theorem dX0_resizeZone_28 : decode cX0_resizeZone 28 = .ok (.istore_n 2, 1) := by decide +kernel
theorem dX0_resizeZone_29 : decode cX0_resizeZone 29 = .ok (.aload_n 0, 1) := by decide +kernel
theorem dX0_resizeZone_30 : decode cX0_resizeZone 30 = .ok (.iload_n 1, 1) := by decide +kernel
theorem dX0_resizeZone_31 : decode cX0_resizeZone 31 = .ok (.putfield 52, 3) := by decide +kernel
theorem dX0_resizeZone_34 : decode cX0_resizeZone 34 = .ok (.iload_n 2, 1) := by decide +kernel
theorem dX0_resizeZone_35 : decode cX0_resizeZone 35 = .ok (.ireturn, 1) := by decide +kernel
theorem dX0_switchJournal_0 : decode cX0_switchJournal 0 = .ok (.iload_n 1, 1) := by decide +kernel
theorem dX0_switchJournal_1 : decode cX0_switchJournal 1 = .ok (.ifCond .eq 11, 3) := by decide +kernel
theorem dX0_switchJournal_4 : decode cX0_switchJournal 4 = .ok (.iload_n 1, 1) := by decide +kernel
theorem dX0_switchJournal_5 : decode cX0_switchJournal 5 = .ok (.iconst 1, 1) := by decide +kernel
theorem dX0_switchJournal_6 : decode cX0_switchJournal 6 = .ok (.if_icmp .eq 6, 3) := by decide +kernel
theorem dX0_switchJournal_9 : decode cX0_switchJournal 9 = .ok (.bipush (-2), 2) := by decide +kernel
theorem dX0_switchJournal_11 : decode cX0_switchJournal 11 = .ok (.ireturn, 1) := by decide +kernel
theorem dX0_switchJournal_12 : decode cX0_switchJournal 12 = .ok (.aload_n 0, 1) := by decide +kernel
theorem dX0_switchJournal_13 : decode cX0_switchJournal 13 = .ok (.invokevirtual 87, 3) := by decide +kernel
theorem dX0_switchJournal_16 : decode cX0_switchJournal 16 = .ok (.ifCond .eq 6, 3) := by decide +kernel
theorem dX0_switchJournal_19 : decode cX0_switchJournal 19 = .ok (.bipush (-3), 2) := by decide +kernel
theorem dX0_switchJournal_21 : decode cX0_switchJournal 21 = .ok (.ireturn, 1) := by decide +kernel
theorem dX0_switchJournal_22 : decode cX0_switchJournal 22 = .ok (.aload_n 0, 1) := by decide +kernel
theorem dX0_switchJournal_23 : decode cX0_switchJournal 23 = .ok (.getfield 55, 3) := by decide +kernel
theorem dX0_switchJournal_26 : decode cX0_switchJournal 26 = .ok (.ifCond .eq 7, 3) := by decide +kernel
theorem dX0_switchJournal_29 : decode cX0_switchJournal 29 = .ok (.iconst 1, 1) := by decide +kernel
theorem dX0_switchJournal_30 : decode cX0_switchJournal 30 = .ok (.goto 4, 3) := by decide +kernel
theorem dX0_switchJournal_33 : decode cX0_switchJournal 33 = .ok (.iconst 0, 1) := by decide +kernel
theorem dX0_switchJournal_34 : decode cX0_switchJournal 34 = .ok (.istore_n 2, 1) := by decide +kernel
theorem dX0_switchJournal_35 : decode cX0_switchJournal 35 = .ok (.aload_n 0, 1) := by decide +kernel
theorem dX0_switchJournal_36 : decode cX0_switchJournal 36 = .ok (.iload_n 1, 1) := by decide +kernel
theorem dX0_switchJournal_37 : decode cX0_switchJournal 37 = .ok (.iconst 1, 1) := by decide +kernel
theorem dX0_switchJournal_38 : decode cX0_switchJournal 38 = .ok (.if_icmp .ne 7, 3) := by decide +kernel
theorem dX0_switchJournal_41 : decode cX0_switchJournal 41 = .ok (.iconst 1, 1) := by decide +kernel
theorem dX0_switchJournal_42 : decode cX0_switchJournal 42 = .ok (.goto 4, 3) := by decide +kernel
theorem dX0_switchJournal_45 : decode cX0_switchJournal 45 = .ok (.iconst 0, 1) := by decide +kernel
theorem dX0_switchJournal_46 : decode cX0_switchJournal 46 = .ok (.putfield 55, 3) := by decide +kernel
theorem dX0_switchJournal_49 : decode cX0_switchJournal 49 = .ok (.iload_n 2, 1) := by decide +kernel
theorem dX0_switchJournal_50 : decode cX0_switchJournal 50 = .ok (.ireturn, 1) := by decide +kernel
theorem dX0_begin_0 : decode cX0_begin 0 = .ok (.aload_n 0, 1) := by decide +kernel
theorem dX0_begin_1 : decode cX0_begin 1 = .ok (.iload_n 1, 1) := by decide +kernel
theorem dX0_begin_2 : decode cX0_begin 2 = .ok (.invokevirtual 79, 3) := by decide +kernel
theorem dX0_begin_5 : decode cX0_begin 5 = .ok (.ifCond .ne 5, 3) := by decide +kernel
theorem dX0_begin_8 : decode cX0_begin 8 = .ok (.iconst (-1), 1) := by decide +kernel
theorem dX0_begin_9 : decode cX0_begin 9 = .ok (.ireturn, 1) := by decide +kernel
theorem dX0_begin_10 : decode cX0_begin 10 = .ok (.aload_n 0, 1) := by decide +kernel
theorem dX0_begin_11 : decode cX0_begin 11 = .ok (.invokevirtual 91, 3) := by decide +kernel
theorem dX0_begin_14 : decode cX0_begin 14 = .ok (.ifCond .ne 11, 3) := by decide +kernel
theorem dX0_begin_17 : decode cX0_begin 17 = .ok (.iload_n 1, 1) := by decide +kernel
theorem dX0_begin_18 : decode cX0_begin 18 = .ok (.aload_n 0, 1) := by decide +kernel
theorem dX0_begin_19 : decode cX0_begin 19 = .ok (.getfield 36, 3) := by decide +kernel
theorem dX0_begin_22 : decode cX0_begin 22 = .ok (.if_icmp .ne 6, 3) := by decide +kernel
theorem dX0_begin_25 : decode cX0_begin 25 = .ok (.bipush (-3), 2) := by decide +kernel
theorem dX0_begin_27 : decode cX0_begin 27 = .ok (.ireturn, 1) := by decide +kernel
theorem dX0_begin_28 : decode cX0_begin 28 = .ok (.aload_n 0, 1) := by decide +kernel
theorem dX0_begin_29 : decode cX0_begin 29 = .ok (.iload_n 1, 1) := by decide +kernel
theorem dX0_begin_30 : decode cX0_begin 30 = .ok (.putfield 39, 3) := by decide +kernel
theorem dX0_begin_33 : decode cX0_begin 33 = .ok (.aload_n 0, 1) := by decide +kernel
theorem dX0_begin_34 : decode cX0_begin 34 = .ok (.iconst 1, 1) := by decide +kernel
theorem dX0_begin_35 : decode cX0_begin 35 = .ok (.putfield 42, 3) := by decide +kernel
theorem dX0_begin_38 : decode cX0_begin 38 = .ok (.aload_n 0, 1) := by decide +kernel
theorem dX0_begin_39 : decode cX0_begin 39 = .ok (.iconst 0, 1) := by decide +kernel
theorem dX0_begin_40 : decode cX0_begin 40 = .ok (.putfield 46, 3) := by decide +kernel
theorem dX0_begin_43 : decode cX0_begin 43 = .ok (.aload_n 0, 1) := by decide +kernel
theorem dX0_begin_44 : decode cX0_begin 44 = .ok (.invokevirtual 94, 3) := by decide +kernel
theorem dX0_begin_47 : decode cX0_begin 47 = .ok (.ireturn, 1) := by decide +kernel
theorem dX0_advance_0 : decode cX0_advance 0 = .ok (.iload_n 1, 1) := by decide +kernel
theorem dX0_advance_1 : decode cX0_advance 1 = .ok (.iconst 1, 1) := by decide +kernel
theorem dX0_advance_2 : decode cX0_advance 2 = .ok (.if_icmp .lt 10, 3) := by decide +kernel
theorem dX0_advance_5 : decode cX0_advance 5 = .ok (.iload_n 1, 1) := by decide +kernel
theorem dX0_advance_6 : decode cX0_advance 6 = .ok (.sipush 999, 3) := by decide +kernel
theorem dX0_advance_9 : decode cX0_advance 9 = .ok (.if_icmp .le 6, 3) := by decide +kernel
theorem dX0_advance_12 : decode cX0_advance 12 = .ok (.bipush (-2), 2) := by decide +kernel
theorem dX0_advance_14 : decode cX0_advance 14 = .ok (.ireturn, 1) := by decide +kernel
theorem dX0_advance_15 : decode cX0_advance 15 = .ok (.aload_n 0, 1) := by decide +kernel
theorem dX0_advance_16 : decode cX0_advance 16 = .ok (.invokevirtual 91, 3) := by decide +kernel
theorem dX0_advance_19 : decode cX0_advance 19 = .ok (.ifCond .ne 6, 3) := by decide +kernel
theorem dX0_advance_22 : decode cX0_advance 22 = .ok (.bipush (-3), 2) := by decide +kernel
theorem dX0_advance_24 : decode cX0_advance 24 = .ok (.ireturn, 1) := by decide +kernel
theorem dX0_advance_25 : decode cX0_advance 25 = .ok (.iconst 0, 1) := by decide +kernel
theorem dX0_advance_26 : decode cX0_advance 26 = .ok (.istore_n 2, 1) := by decide +kernel
theorem dX0_advance_27 : decode cX0_advance 27 = .ok (.iload_n 2, 1) := by decide +kernel
theorem dX0_advance_28 : decode cX0_advance 28 = .ok (.iload_n 1, 1) := by decide +kernel
theorem dX0_advance_29 : decode cX0_advance 29 = .ok (.if_icmp .ge 20, 3) := by decide +kernel
theorem dX0_advance_32 : decode cX0_advance 32 = .ok (.aload_n 0, 1) := by decide +kernel
theorem dX0_advance_33 : decode cX0_advance 33 = .ok (.invokevirtual 91, 3) := by decide +kernel
theorem dX0_advance_36 : decode cX0_advance 36 = .ok (.ifCond .eq 13, 3) := by decide +kernel
theorem dX0_advance_39 : decode cX0_advance 39 = .ok (.aload_n 0, 1) := by decide +kernel
theorem dX0_advance_40 : decode cX0_advance 40 = .ok (.invokevirtual 97, 3) := by decide +kernel
theorem dX0_advance_43 : decode cX0_advance 43 = .ok (.iinc 2 1, 3) := by decide +kernel
theorem dX0_advance_46 : decode cX0_advance 46 = .ok (.goto (-19), 3) := by decide +kernel
theorem dX0_advance_49 : decode cX0_advance 49 = .ok (.iload_n 2, 1) := by decide +kernel
theorem dX0_advance_50 : decode cX0_advance 50 = .ok (.ireturn, 1) := by decide +kernel
theorem dX0_turn_0 : decode cX0_turn 0 = .ok (.aload_n 0, 1) := by decide +kernel
theorem dX0_turn_1 : decode cX0_turn 1 = .ok (.invokevirtual 91, 3) := by decide +kernel
theorem dX0_turn_4 : decode cX0_turn 4 = .ok (.ifCond .eq 10, 3) := by decide +kernel
theorem dX0_turn_7 : decode cX0_turn 7 = .ok (.aload_n 0, 1) := by decide +kernel
theorem dX0_turn_8 : decode cX0_turn 8 = .ok (.invokevirtual 87, 3) := by decide +kernel
theorem dX0_turn_11 : decode cX0_turn 11 = .ok (.ifCond .eq 6, 3) := by decide +kernel
theorem dX0_turn_14 : decode cX0_turn 14 = .ok (.bipush (-3), 2) := by decide +kernel
theorem dX0_turn_16 : decode cX0_turn 16 = .ok (.ireturn, 1) := by decide +kernel
theorem dX0_turn_17 : decode cX0_turn 17 = .ok (.aload_n 0, 1) := by decide +kernel
theorem dX0_turn_18 : decode cX0_turn 18 = .ok (.aload_n 0, 1) := by decide +kernel
theorem dX0_turn_19 : decode cX0_turn 19 = .ok (.getfield 42, 3) := by decide +kernel
theorem dX0_turn_22 : decode cX0_turn 22 = .ok (.ifCond .ne 7, 3) := by decide +kernel
theorem dX0_turn_25 : decode cX0_turn 25 = .ok (.iconst 1, 1) := by decide +kernel
theorem dX0_turn_26 : decode cX0_turn 26 = .ok (.goto 4, 3) := by decide +kernel
theorem dX0_turn_29 : decode cX0_turn 29 = .ok (.iconst 0, 1) := by decide +kernel
theorem dX0_turn_30 : decode cX0_turn 30 = .ok (.putfield 42, 3) := by decide +kernel
theorem dX0_turn_33 : decode cX0_turn 33 = .ok (.aload_n 0, 1) := by decide +kernel
theorem dX0_turn_34 : decode cX0_turn 34 = .ok (.invokevirtual 100, 3) := by decide +kernel
theorem dX0_turn_37 : decode cX0_turn 37 = .ok (.aload_n 0, 1) := by decide +kernel
theorem dX0_turn_38 : decode cX0_turn 38 = .ok (.invokevirtual 94, 3) := by decide +kernel
theorem dX0_turn_41 : decode cX0_turn 41 = .ok (.ireturn, 1) := by decide +kernel
theorem dX0_put_0 : decode cX0_put 0 = .ok (.aload_n 0, 1) := by decide +kernel
theorem dX0_put_1 : decode cX0_put 1 = .ok (.iload_n 1, 1) := by decide +kernel
theorem dX0_put_2 : decode cX0_put 2 = .ok (.invokevirtual 103, 3) := by decide +kernel
theorem dX0_put_5 : decode cX0_put 5 = .ok (.ifCond .ne 5, 3) := by decide +kernel
theorem dX0_put_8 : decode cX0_put 8 = .ok (.iconst (-1), 1) := by decide +kernel
theorem dX0_put_9 : decode cX0_put 9 = .ok (.ireturn, 1) := by decide +kernel
theorem dX0_put_10 : decode cX0_put 10 = .ok (.iload_n 2, 1) := by decide +kernel
theorem dX0_put_11 : decode cX0_put 11 = .ok (.ifCond .lt 9, 3) := by decide +kernel
theorem dX0_put_14 : decode cX0_put 14 = .ok (.iload_n 2, 1) := by decide +kernel
theorem dX0_put_15 : decode cX0_put 15 = .ok (.ldc 78, 2) := by decide +kernel
theorem dX0_put_17 : decode cX0_put 17 = .ok (.if_icmp .le 6, 3) := by decide +kernel
theorem dX0_put_20 : decode cX0_put 20 = .ok (.bipush (-2), 2) := by decide +kernel
theorem dX0_put_22 : decode cX0_put 22 = .ok (.ireturn, 1) := by decide +kernel
theorem dX0_put_23 : decode cX0_put 23 = .ok (.aload_n 0, 1) := by decide +kernel
theorem dX0_put_24 : decode cX0_put 24 = .ok (.getfield 23, 3) := by decide +kernel
theorem dX0_put_27 : decode cX0_put 27 = .ok (.iload_n 1, 1) := by decide +kernel
theorem dX0_put_28 : decode cX0_put 28 = .ok (.invokevirtual 106, 3) := by decide +kernel
theorem dX0_put_31 : decode cX0_put 31 = .ok (.iconst (-1), 1) := by decide +kernel
theorem dX0_put_32 : decode cX0_put 32 = .ok (.if_icmp .ne 18, 3) := by decide +kernel
theorem dX0_put_35 : decode cX0_put 35 = .ok (.aload_n 0, 1) := by decide +kernel
theorem dX0_put_36 : decode cX0_put 36 = .ok (.getfield 23, 3) := by decide +kernel
theorem dX0_put_39 : decode cX0_put 39 = .ok (.invokevirtual 83, 3) := by decide +kernel
theorem dX0_put_42 : decode cX0_put 42 = .ok (.bipush 8, 2) := by decide +kernel
theorem dX0_put_44 : decode cX0_put 44 = .ok (.if_icmp .lt 6, 3) := by decide +kernel
theorem dX0_put_47 : decode cX0_put 47 = .ok (.bipush (-4), 2) := by decide +kernel
theorem dX0_put_49 : decode cX0_put 49 = .ok (.ireturn, 1) := by decide +kernel
theorem dX0_put_50 : decode cX0_put 50 = .ok (.aload_n 0, 1) := by decide +kernel
theorem dX0_put_51 : decode cX0_put 51 = .ok (.getfield 23, 3) := by decide +kernel
theorem dX0_put_54 : decode cX0_put 54 = .ok (.iload_n 1, 1) := by decide +kernel
theorem dX0_put_55 : decode cX0_put 55 = .ok (.iload_n 2, 1) := by decide +kernel
theorem dX0_put_56 : decode cX0_put 56 = .ok (.invokevirtual 64, 3) := by decide +kernel
theorem dX0_put_59 : decode cX0_put 59 = .ok (.aload_n 0, 1) := by decide +kernel
theorem dX0_put_60 : decode cX0_put 60 = .ok (.getfield 20, 3) := by decide +kernel
theorem dX0_put_63 : decode cX0_put 63 = .ok (.iload_n 1, 1) := by decide +kernel
theorem dX0_put_64 : decode cX0_put 64 = .ok (.iload_n 2, 1) := by decide +kernel
theorem dX0_put_65 : decode cX0_put 65 = .ok (.invokevirtual 64, 3) := by decide +kernel
theorem dX0_put_68 : decode cX0_put 68 = .ok (.aload_n 0, 1) := by decide +kernel
theorem dX0_put_69 : decode cX0_put 69 = .ok (.getfield 23, 3) := by decide +kernel
theorem dX0_put_72 : decode cX0_put 72 = .ok (.invokevirtual 83, 3) := by decide +kernel
theorem dX0_put_75 : decode cX0_put 75 = .ok (.ireturn, 1) := by decide +kernel
theorem dX0_flushCache_0 : decode cX0_flushCache 0 = .ok (.iconst 0, 1) := by decide +kernel
theorem dX0_flushCache_1 : decode cX0_flushCache 1 = .ok (.istore_n 1, 1) := by decide +kernel
theorem dX0_flushCache_2 : decode cX0_flushCache 2 = .ok (.iconst 0, 1) := by decide +kernel
theorem dX0_flushCache_3 : decode cX0_flushCache 3 = .ok (.istore_n 2, 1) := by decide +kernel
theorem dX0_flushCache_4 : decode cX0_flushCache 4 = .ok (.iload_n 2, 1) := by decide +kernel
theorem dX0_flushCache_5 : decode cX0_flushCache 5 = .ok (.aload_n 0, 1) := by decide +kernel
theorem dX0_flushCache_6 : decode cX0_flushCache 6 = .ok (.getfield 32, 3) := by decide +kernel
theorem dX0_flushCache_9 : decode cX0_flushCache 9 = .ok (.if_icmp .ge 42, 3) := by decide +kernel
theorem dX0_flushCache_12 : decode cX0_flushCache 12 = .ok (.aload_n 0, 1) := by decide +kernel
theorem dX0_flushCache_13 : decode cX0_flushCache 13 = .ok (.iload_n 2, 1) := by decide +kernel
theorem dX0_flushCache_14 : decode cX0_flushCache 14 = .ok (.invokevirtual 110, 3) := by decide +kernel
theorem dX0_flushCache_17 : decode cX0_flushCache 17 = .ok (.ifCond .eq 28, 3) := by decide +kernel
theorem dX0_flushCache_20 : decode cX0_flushCache 20 = .ok (.aload_n 0, 1) := by decide +kernel
theorem dX0_flushCache_21 : decode cX0_flushCache 21 = .ok (.getfield 14, 3) := by decide +kernel
theorem dX0_flushCache_24 : decode cX0_flushCache 24 = .ok (.iload_n 2, 1) := by decide +kernel
theorem dX0_flushCache_25 : decode cX0_flushCache 25 = .ok (.aload_n 0, 1) := by decide +kernel
theorem dX0_flushCache_26 : decode cX0_flushCache 26 = .ok (.iload_n 2, 1) := by decide +kernel
theorem dX0_flushCache_27 : decode cX0_flushCache 27 = .ok (.invokevirtual 113, 3) := by decide +kernel
theorem dX0_flushCache_30 : decode cX0_flushCache 30 = .ok (.invokevirtual 64, 3) := by decide +kernel
theorem dX0_flushCache_33 : decode cX0_flushCache 33 = .ok (.aload_n 0, 1) := by decide +kernel
theorem dX0_flushCache_34 : decode cX0_flushCache 34 = .ok (.getfield 23, 3) := by decide +kernel
theorem dX0_flushCache_37 : decode cX0_flushCache 37 = .ok (.iload_n 2, 1) := by decide +kernel
theorem dX0_flushCache_38 : decode cX0_flushCache 38 = .ok (.iconst (-1), 1) := by decide +kernel
theorem dX0_flushCache_39 : decode cX0_flushCache 39 = .ok (.invokevirtual 64, 3) := by decide +kernel
theorem dX0_flushCache_42 : decode cX0_flushCache 42 = .ok (.iinc 1 1, 3) := by decide +kernel
theorem dX0_flushCache_45 : decode cX0_flushCache 45 = .ok (.iinc 2 1, 3) := by decide +kernel
theorem dX0_flushCache_48 : decode cX0_flushCache 48 = .ok (.goto (-44), 3) := by decide +kernel
theorem dX0_flushCache_51 : decode cX0_flushCache 51 = .ok (.iload_n 1, 1) := by decide +kernel
theorem dX0_flushCache_52 : decode cX0_flushCache 52 = .ok (.ireturn, 1) := by decide +kernel
theorem dX0_losePower_0 : decode cX0_losePower 0 = .ok (.iconst 0, 1) := by decide +kernel
theorem dX0_losePower_1 : decode cX0_losePower 1 = .ok (.istore_n 1, 1) := by decide +kernel
theorem dX0_losePower_2 : decode cX0_losePower 2 = .ok (.iconst 0, 1) := by decide +kernel
theorem dX0_losePower_3 : decode cX0_losePower 3 = .ok (.istore_n 2, 1) := by decide +kernel
theorem dX0_losePower_4 : decode cX0_losePower 4 = .ok (.iload_n 2, 1) := by decide +kernel
theorem dX0_losePower_5 : decode cX0_losePower 5 = .ok (.aload_n 0, 1) := by decide +kernel
theorem dX0_losePower_6 : decode cX0_losePower 6 = .ok (.getfield 32, 3) := by decide +kernel
theorem dX0_losePower_9 : decode cX0_losePower 9 = .ok (.if_icmp .ge 25, 3) := by decide +kernel
theorem dX0_losePower_12 : decode cX0_losePower 12 = .ok (.aload_n 0, 1) := by decide +kernel
theorem dX0_losePower_13 : decode cX0_losePower 13 = .ok (.iload_n 2, 1) := by decide +kernel
theorem dX0_losePower_14 : decode cX0_losePower 14 = .ok (.invokevirtual 116, 3) := by decide +kernel
theorem dX0_losePower_17 : decode cX0_losePower 17 = .ok (.aload_n 0, 1) := by decide +kernel
theorem dX0_losePower_18 : decode cX0_losePower 18 = .ok (.iload_n 2, 1) := by decide +kernel
theorem dX0_losePower_19 : decode cX0_losePower 19 = .ok (.invokevirtual 119, 3) := by decide +kernel
theorem dX0_losePower_22 : decode cX0_losePower 22 = .ok (.if_icmp .eq 6, 3) := by decide +kernel
theorem dX0_losePower_25 : decode cX0_losePower 25 = .ok (.iinc 1 1, 3) := by decide +kernel
theorem dX0_losePower_28 : decode cX0_losePower 28 = .ok (.iinc 2 1, 3) := by decide +kernel
theorem dX0_losePower_31 : decode cX0_losePower 31 = .ok (.goto (-27), 3) := by decide +kernel
theorem dX0_losePower_34 : decode cX0_losePower 34 = .ok (.iconst 0, 1) := by decide +kernel
theorem dX0_losePower_35 : decode cX0_losePower 35 = .ok (.istore_n 2, 1) := by decide +kernel
theorem dX0_losePower_36 : decode cX0_losePower 36 = .ok (.iload_n 2, 1) := by decide +kernel
theorem dX0_losePower_37 : decode cX0_losePower 37 = .ok (.aload_n 0, 1) := by decide +kernel
theorem dX0_losePower_38 : decode cX0_losePower 38 = .ok (.getfield 32, 3) := by decide +kernel
theorem dX0_losePower_41 : decode cX0_losePower 41 = .ok (.if_icmp .ge 22, 3) := by decide +kernel
theorem dX0_losePower_44 : decode cX0_losePower 44 = .ok (.aload_n 0, 1) := by decide +kernel
theorem dX0_losePower_45 : decode cX0_losePower 45 = .ok (.getfield 14, 3) := by decide +kernel
theorem dX0_losePower_48 : decode cX0_losePower 48 = .ok (.iload_n 2, 1) := by decide +kernel
theorem dX0_losePower_49 : decode cX0_losePower 49 = .ok (.aload_n 0, 1) := by decide +kernel
theorem dX0_losePower_50 : decode cX0_losePower 50 = .ok (.iload_n 2, 1) := by decide +kernel
theorem dX0_losePower_51 : decode cX0_losePower 51 = .ok (.invokevirtual 122, 3) := by decide +kernel
theorem dX0_losePower_54 : decode cX0_losePower 54 = .ok (.invokevirtual 64, 3) := by decide +kernel
theorem dX0_losePower_57 : decode cX0_losePower 57 = .ok (.iinc 2 1, 3) := by decide +kernel
theorem dX0_losePower_60 : decode cX0_losePower 60 = .ok (.goto (-24), 3) := by decide +kernel
theorem dX0_losePower_63 : decode cX0_losePower 63 = .ok (.aload_n 0, 1) := by decide +kernel
theorem dX0_losePower_64 : decode cX0_losePower 64 = .ok (.getfield 23, 3) := by decide +kernel
theorem dX0_losePower_67 : decode cX0_losePower 67 = .ok (.invokevirtual 125, 3) := by decide +kernel
theorem dX0_losePower_70 : decode cX0_losePower 70 = .ok (.aload_n 0, 1) := by decide +kernel
theorem dX0_losePower_71 : decode cX0_losePower 71 = .ok (.invokevirtual 75, 3) := by decide +kernel
theorem dX0_losePower_74 : decode cX0_losePower 74 = .ok (.aload_n 0, 1) := by decide +kernel
theorem dX0_losePower_75 : decode cX0_losePower 75 = .ok (.dup, 1) := by decide +kernel
theorem dX0_losePower_76 : decode cX0_losePower 76 = .ok (.getfield 61, 3) := by decide +kernel
theorem dX0_losePower_79 : decode cX0_losePower 79 = .ok (.iconst 1, 1) := by decide +kernel
theorem dX0_losePower_80 : decode cX0_losePower 80 = .ok (.iadd, 1) := by decide +kernel
theorem dX0_losePower_81 : decode cX0_losePower 81 = .ok (.putfield 61, 3) := by decide +kernel
theorem dX0_losePower_84 : decode cX0_losePower 84 = .ok (.iload_n 1, 1) := by decide +kernel
theorem dX0_losePower_85 : decode cX0_losePower 85 = .ok (.ireturn, 1) := by decide +kernel
theorem dX0_obey_0 : decode cX0_obey 0 = .ok (.iload_n 1, 1) := by decide +kernel
theorem dX0_obey_1 : decode cX0_obey 1 = .ok (.lookupswitch 79 #[(98, 74), (102, 58), (115, 63), (119, 51), (120, 69)], 51) := by decide +kernel
theorem dX0_obey_52 : decode cX0_obey 52 = .ok (.aload_n 0, 1) := by decide +kernel
theorem dX0_obey_53 : decode cX0_obey 53 = .ok (.iload_n 2, 1) := by decide +kernel
theorem dX0_obey_54 : decode cX0_obey 54 = .ok (.iload_n 3, 1) := by decide +kernel
theorem dX0_obey_55 : decode cX0_obey 55 = .ok (.invokevirtual 128, 3) := by decide +kernel
theorem dX0_obey_58 : decode cX0_obey 58 = .ok (.ireturn, 1) := by decide +kernel
theorem dX0_obey_59 : decode cX0_obey 59 = .ok (.aload_n 0, 1) := by decide +kernel
theorem dX0_obey_60 : decode cX0_obey 60 = .ok (.invokevirtual 132, 3) := by decide +kernel
theorem dX0_obey_63 : decode cX0_obey 63 = .ok (.ireturn, 1) := by decide +kernel
theorem dX0_obey_64 : decode cX0_obey 64 = .ok (.aload_n 0, 1) := by decide +kernel
theorem dX0_obey_65 : decode cX0_obey 65 = .ok (.iload_n 3, 1) := by decide +kernel
theorem dX0_obey_66 : decode cX0_obey 66 = .ok (.invokevirtual 135, 3) := by decide +kernel
theorem dX0_obey_69 : decode cX0_obey 69 = .ok (.ireturn, 1) := by decide +kernel
theorem dX0_obey_70 : decode cX0_obey 70 = .ok (.aload_n 0, 1) := by decide +kernel
theorem dX0_obey_71 : decode cX0_obey 71 = .ok (.invokevirtual 138, 3) := by decide +kernel
theorem dX0_obey_74 : decode cX0_obey 74 = .ok (.ireturn, 1) := by decide +kernel
theorem dX0_obey_75 : decode cX0_obey 75 = .ok (.aload_n 0, 1) := by decide +kernel
theorem dX0_obey_76 : decode cX0_obey 76 = .ok (.invokevirtual 141, 3) := by decide +kernel
theorem dX0_obey_79 : decode cX0_obey 79 = .ok (.ireturn, 1) := by decide +kernel
theorem dX0_obey_80 : decode cX0_obey 80 = .ok (.bipush (-5), 2) := by decide +kernel
theorem dX0_obey_82 : decode cX0_obey 82 = .ok (.ireturn, 1) := by decide +kernel
theorem dX0_hasSector_0 : decode cX0_hasSector 0 = .ok (.iload_n 1, 1) := by decide +kernel
theorem dX0_hasSector_1 : decode cX0_hasSector 1 = .ok (.ifCond .lt 15, 3) := by decide +kernel
theorem dX0_hasSector_4 : decode cX0_hasSector 4 = .ok (.iload_n 1, 1) := by decide +kernel
theorem dX0_hasSector_5 : decode cX0_hasSector 5 = .ok (.aload_n 0, 1) := by decide +kernel
theorem dX0_hasSector_6 : decode cX0_hasSector 6 = .ok (.getfield 32, 3) := by decide +kernel
theorem dX0_hasSector_9 : decode cX0_hasSector 9 = .ok (.if_icmp .ge 7, 3) := by decide +kernel
theorem dX0_hasSector_12 : decode cX0_hasSector 12 = .ok (.iconst 1, 1) := by decide +kernel
theorem dX0_hasSector_13 : decode cX0_hasSector 13 = .ok (.goto 4, 3) := by decide +kernel
theorem dX0_hasSector_16 : decode cX0_hasSector 16 = .ok (.iconst 0, 1) := by decide +kernel
theorem dX0_hasSector_17 : decode cX0_hasSector 17 = .ok (.ireturn, 1) := by decide +kernel
theorem dX0_hasKey_0 : decode cX0_hasKey 0 = .ok (.aload_n 0, 1) := by decide +kernel
theorem dX0_hasKey_1 : decode cX0_hasKey 1 = .ok (.getfield 29, 3) := by decide +kernel
theorem dX0_hasKey_4 : decode cX0_hasKey 4 = .ok (.iload_n 1, 1) := by decide +kernel
theorem dX0_hasKey_5 : decode cX0_hasKey 5 = .ok (.invokevirtual 106, 3) := by decide +kernel
theorem dX0_hasKey_8 : decode cX0_hasKey 8 = .ok (.iconst (-1), 1) := by decide +kernel
theorem dX0_hasKey_9 : decode cX0_hasKey 9 = .ok (.if_icmp .eq 7, 3) := by decide +kernel
theorem dX0_hasKey_12 : decode cX0_hasKey 12 = .ok (.iconst 1, 1) := by decide +kernel
theorem dX0_hasKey_13 : decode cX0_hasKey 13 = .ok (.goto 4, 3) := by decide +kernel
theorem dX0_hasKey_16 : decode cX0_hasKey 16 = .ok (.iconst 0, 1) := by decide +kernel
theorem dX0_hasKey_17 : decode cX0_hasKey 17 = .ok (.ireturn, 1) := by decide +kernel
theorem dX0_secretBehind_0 : decode cX0_secretBehind 0 = .ok (.aload_n 0, 1) := by decide +kernel
theorem dX0_secretBehind_1 : decode cX0_secretBehind 1 = .ok (.getfield 29, 3) := by decide +kernel
theorem dX0_secretBehind_4 : decode cX0_secretBehind 4 = .ok (.iload_n 1, 1) := by decide +kernel
theorem dX0_secretBehind_5 : decode cX0_secretBehind 5 = .ok (.invokevirtual 106, 3) := by decide +kernel
theorem dX0_secretBehind_8 : decode cX0_secretBehind 8 = .ok (.ireturn, 1) := by decide +kernel
theorem dX0_scrambledIn_0 : decode cX0_scrambledIn 0 = .ok (.aload_n 0, 1) := by decide +kernel
theorem dX0_scrambledIn_1 : decode cX0_scrambledIn 1 = .ok (.getfield 14, 3) := by decide +kernel
theorem dX0_scrambledIn_4 : decode cX0_scrambledIn 4 = .ok (.iload_n 1, 1) := by decide +kernel
theorem dX0_scrambledIn_5 : decode cX0_scrambledIn 5 = .ok (.invokevirtual 106, 3) := by decide +kernel
theorem dX0_scrambledIn_8 : decode cX0_scrambledIn 8 = .ok (.ireturn, 1) := by decide +kernel
theorem dX0_inJournal_0 : decode cX0_inJournal 0 = .ok (.aload_n 0, 1) := by decide +kernel
theorem dX0_inJournal_1 : decode cX0_inJournal 1 = .ok (.getfield 26, 3) := by decide +kernel
theorem dX0_inJournal_4 : decode cX0_inJournal 4 = .ok (.iload_n 1, 1) := by decide +kernel
theorem dX0_inJournal_5 : decode cX0_inJournal 5 = .ok (.invokevirtual 106, 3) := by decide +kernel
theorem dX0_inJournal_8 : decode cX0_inJournal 8 = .ok (.ireturn, 1) := by decide +kernel
theorem dX0_inCache_0 : decode cX0_inCache 0 = .ok (.aload_n 0, 1) := by decide +kernel
theorem dX0_inCache_1 : decode cX0_inCache 1 = .ok (.getfield 23, 3) := by decide +kernel
theorem dX0_inCache_4 : decode cX0_inCache 4 = .ok (.iload_n 1, 1) := by decide +kernel
theorem dX0_inCache_5 : decode cX0_inCache 5 = .ok (.invokevirtual 106, 3) := by decide +kernel
theorem dX0_inCache_8 : decode cX0_inCache 8 = .ok (.ireturn, 1) := by decide +kernel
theorem dX0_valueIn_0 : decode cX0_valueIn 0 = .ok (.aload_n 0, 1) := by decide +kernel
theorem dX0_valueIn_1 : decode cX0_valueIn 1 = .ok (.getfield 23, 3) := by decide +kernel
theorem dX0_valueIn_4 : decode cX0_valueIn 4 = .ok (.iload_n 1, 1) := by decide +kernel
theorem dX0_valueIn_5 : decode cX0_valueIn 5 = .ok (.invokevirtual 106, 3) := by decide +kernel
theorem dX0_valueIn_8 : decode cX0_valueIn 8 = .ok (.istore_n 2, 1) := by decide +kernel
theorem dX0_valueIn_9 : decode cX0_valueIn 9 = .ok (.iload_n 2, 1) := by decide +kernel
theorem dX0_valueIn_10 : decode cX0_valueIn 10 = .ok (.iconst (-1), 1) := by decide +kernel
theorem dX0_valueIn_11 : decode cX0_valueIn 11 = .ok (.if_icmp .eq 7, 3) := by decide +kernel
theorem dX0_valueIn_14 : decode cX0_valueIn 14 = .ok (.iload_n 2, 1) := by decide +kernel
theorem dX0_valueIn_15 : decode cX0_valueIn 15 = .ok (.goto 21, 3) := by decide +kernel
theorem dX0_valueIn_18 : decode cX0_valueIn 18 = .ok (.aload_n 0, 1) := by decide +kernel
theorem dX0_valueIn_19 : decode cX0_valueIn 19 = .ok (.aload_n 0, 1) := by decide +kernel
theorem dX0_valueIn_20 : decode cX0_valueIn 20 = .ok (.getfield 14, 3) := by decide +kernel
theorem dX0_valueIn_23 : decode cX0_valueIn 23 = .ok (.iload_n 1, 1) := by decide +kernel
theorem dX0_valueIn_24 : decode cX0_valueIn 24 = .ok (.invokevirtual 106, 3) := by decide +kernel
theorem dX0_valueIn_27 : decode cX0_valueIn 27 = .ok (.iload_n 1, 1) := by decide +kernel
theorem dX0_valueIn_28 : decode cX0_valueIn 28 = .ok (.aload_n 0, 1) := by decide +kernel
theorem dX0_valueIn_29 : decode cX0_valueIn 29 = .ok (.iload_n 1, 1) := by decide +kernel
theorem dX0_valueIn_30 : decode cX0_valueIn 30 = .ok (.invokevirtual 144, 3) := by decide +kernel
theorem dX0_valueIn_33 : decode cX0_valueIn 33 = .ok (.invokevirtual 147, 3) := by decide +kernel
theorem dX0_valueIn_36 : decode cX0_valueIn 36 = .ok (.ireturn, 1) := by decide +kernel
theorem dX0_keyAt_0 : decode cX0_keyAt 0 = .ok (.aload_n 0, 1) := by decide +kernel
theorem dX0_keyAt_1 : decode cX0_keyAt 1 = .ok (.invokevirtual 151, 3) := by decide +kernel
theorem dX0_keyAt_4 : decode cX0_keyAt 4 = .ok (.istore_n 2, 1) := by decide +kernel
theorem dX0_keyAt_5 : decode cX0_keyAt 5 = .ok (.iload_n 1, 1) := by decide +kernel
theorem dX0_keyAt_6 : decode cX0_keyAt 6 = .ok (.iload_n 2, 1) := by decide +kernel
theorem dX0_keyAt_7 : decode cX0_keyAt 7 = .ok (.if_icmp .lt 17, 3) := by decide +kernel
theorem dX0_keyAt_10 : decode cX0_keyAt 10 = .ok (.iload_n 1, 1) := by decide +kernel
theorem dX0_keyAt_11 : decode cX0_keyAt 11 = .ok (.iload_n 2, 1) := by decide +kernel
theorem dX0_keyAt_12 : decode cX0_keyAt 12 = .ok (.aload_n 0, 1) := by decide +kernel
theorem dX0_keyAt_13 : decode cX0_keyAt 13 = .ok (.getfield 49, 3) := by decide +kernel
theorem dX0_keyAt_16 : decode cX0_keyAt 16 = .ok (.iadd, 1) := by decide +kernel
theorem dX0_keyAt_17 : decode cX0_keyAt 17 = .ok (.if_icmp .ge 7, 3) := by decide +kernel
theorem dX0_keyAt_20 : decode cX0_keyAt 20 = .ok (.iconst 1, 1) := by decide +kernel
theorem dX0_keyAt_21 : decode cX0_keyAt 21 = .ok (.goto 4, 3) := by decide +kernel
theorem dX0_keyAt_24 : decode cX0_keyAt 24 = .ok (.iconst 0, 1) := by decide +kernel
theorem dX0_keyAt_25 : decode cX0_keyAt 25 = .ok (.istore_n 3, 1) := by decide +kernel
theorem dX0_keyAt_26 : decode cX0_keyAt 26 = .ok (.iload_n 3, 1) := by decide +kernel
theorem dX0_keyAt_27 : decode cX0_keyAt 27 = .ok (.ifCond .eq 15, 3) := by decide +kernel
theorem dX0_keyAt_30 : decode cX0_keyAt 30 = .ok (.aload_n 0, 1) := by decide +kernel
theorem dX0_keyAt_31 : decode cX0_keyAt 31 = .ok (.aload_n 0, 1) := by decide +kernel
theorem dX0_keyAt_32 : decode cX0_keyAt 32 = .ok (.iload_n 1, 1) := by decide +kernel
theorem dX0_keyAt_33 : decode cX0_keyAt 33 = .ok (.invokevirtual 154, 3) := by decide +kernel
theorem dX0_keyAt_36 : decode cX0_keyAt 36 = .ok (.invokevirtual 157, 3) := by decide +kernel
theorem dX0_keyAt_39 : decode cX0_keyAt 39 = .ok (.goto 8, 3) := by decide +kernel
theorem dX0_keyAt_42 : decode cX0_keyAt 42 = .ok (.aload_n 0, 1) := by decide +kernel
theorem dX0_keyAt_43 : decode cX0_keyAt 43 = .ok (.iload_n 1, 1) := by decide +kernel
theorem dX0_keyAt_44 : decode cX0_keyAt 44 = .ok (.invokevirtual 154, 3) := by decide +kernel
theorem dX0_keyAt_47 : decode cX0_keyAt 47 = .ok (.ireturn, 1) := by decide +kernel
theorem dX0_keyByPosition_0 : decode cX0_keyByPosition 0 = .ok (.aload_n 0, 1) := by decide +kernel
theorem dX0_keyByPosition_1 : decode cX0_keyByPosition 1 = .ok (.invokevirtual 91, 3) := by decide +kernel
theorem dX0_keyByPosition_4 : decode cX0_keyByPosition 4 = .ok (.ifCond .eq 18, 3) := by decide +kernel
theorem dX0_keyByPosition_7 : decode cX0_keyByPosition 7 = .ok (.iload_n 1, 1) := by decide +kernel
theorem dX0_keyByPosition_8 : decode cX0_keyByPosition 8 = .ok (.aload_n 0, 1) := by decide +kernel
theorem dX0_keyByPosition_9 : decode cX0_keyByPosition 9 = .ok (.getfield 46, 3) := by decide +kernel
theorem dX0_keyByPosition_12 : decode cX0_keyByPosition 12 = .ok (.if_icmp .ge 10, 3) := by decide +kernel
theorem dX0_keyByPosition_15 : decode cX0_keyByPosition 15 = .ok (.aload_n 0, 1) := by decide +kernel
theorem dX0_keyByPosition_16 : decode cX0_keyByPosition 16 = .ok (.getfield 39, 3) := by decide +kernel
theorem dX0_keyByPosition_19 : decode cX0_keyByPosition 19 = .ok (.goto 7, 3) := by decide +kernel
theorem dX0_keyByPosition_22 : decode cX0_keyByPosition 22 = .ok (.aload_n 0, 1) := by decide +kernel
theorem dX0_keyByPosition_23 : decode cX0_keyByPosition 23 = .ok (.getfield 36, 3) := by decide +kernel
theorem dX0_keyByPosition_26 : decode cX0_keyByPosition 26 = .ok (.ireturn, 1) := by decide +kernel
theorem dX0_otherKey_0 : decode cX0_otherKey 0 = .ok (.iload_n 1, 1) := by decide +kernel
theorem dX0_otherKey_1 : decode cX0_otherKey 1 = .ok (.aload_n 0, 1) := by decide +kernel
theorem dX0_otherKey_2 : decode cX0_otherKey 2 = .ok (.getfield 36, 3) := by decide +kernel
theorem dX0_otherKey_5 : decode cX0_otherKey 5 = .ok (.if_icmp .ne 10, 3) := by decide +kernel
theorem dX0_otherKey_8 : decode cX0_otherKey 8 = .ok (.aload_n 0, 1) := by decide +kernel
theorem dX0_otherKey_9 : decode cX0_otherKey 9 = .ok (.getfield 39, 3) := by decide +kernel
theorem dX0_otherKey_12 : decode cX0_otherKey 12 = .ok (.goto 7, 3) := by decide +kernel
theorem dX0_otherKey_15 : decode cX0_otherKey 15 = .ok (.aload_n 0, 1) := by decide +kernel
theorem dX0_otherKey_16 : decode cX0_otherKey 16 = .ok (.getfield 36, 3) := by decide +kernel
theorem dX0_otherKey_19 : decode cX0_otherKey 19 = .ok (.ireturn, 1) := by decide +kernel
theorem dX0_exchange_0 : decode cX0_exchange 0 = .ok (.ldc 160, 2) := by decide +kernel
theorem dX0_exchange_2 : decode cX0_exchange 2 = .ok (.aload_n 0, 1) := by decide +kernel
theorem dX0_exchange_3 : decode cX0_exchange 3 = .ok (.getfield 29, 3) := by decide +kernel
theorem dX0_exchange_6 : decode cX0_exchange 6 = .ok (.iload_n 3, 1) := by decide +kernel
theorem dX0_exchange_7 : decode cX0_exchange 7 = .ok (.invokevirtual 106, 3) := by decide +kernel
theorem dX0_exchange_10 : decode cX0_exchange 10 = .ok (.imul, 1) := by decide +kernel
theorem dX0_exchange_11 : decode cX0_exchange 11 = .ok (.sipush 30011, 3) := by decide +kernel
theorem dX0_exchange_14 : decode cX0_exchange 14 = .ok (.iload_n 2, 1) := by decide +kernel
theorem dX0_exchange_15 : decode cX0_exchange 15 = .ok (.imul, 1) := by decide +kernel
theorem dX0_exchange_16 : decode cX0_exchange 16 = .ok (.iadd, 1) := by decide +kernel
theorem dX0_exchange_17 : decode cX0_exchange 17 = .ok (.sipush 12345, 3) := by decide +kernel
theorem dX0_exchange_20 : decode cX0_exchange 20 = .ok (.iadd, 1) := by decide +kernel
theorem dX0_exchange_21 : decode cX0_exchange 21 = .ok (.istore 4, 2) := by decide +kernel
theorem dX0_exchange_23 : decode cX0_exchange 23 = .ok (.iload_n 1, 1) := by decide +kernel
theorem dX0_exchange_24 : decode cX0_exchange 24 = .ok (.iload 4, 2) := by decide +kernel
theorem dX0_exchange_26 : decode cX0_exchange 26 = .ok (.ldc 78, 2) := by decide +kernel
theorem dX0_exchange_28 : decode cX0_exchange 28 = .ok (.iand, 1) := by decide +kernel
theorem dX0_exchange_29 : decode cX0_exchange 29 = .ok (.ixor, 1) := by decide +kernel
theorem dX0_exchange_30 : decode cX0_exchange 30 = .ok (.ireturn, 1) := by decide +kernel
theorem dX0_fillWithZeros_0 : decode cX0_fillWithZeros 0 = .ok (.aload_n 0, 1) := by decide +kernel
theorem dX0_fillWithZeros_1 : decode cX0_fillWithZeros 1 = .ok (.getfield 23, 3) := by decide +kernel
theorem dX0_fillWithZeros_4 : decode cX0_fillWithZeros 4 = .ok (.invokevirtual 125, 3) := by decide +kernel
theorem dX0_fillWithZeros_7 : decode cX0_fillWithZeros 7 = .ok (.iconst 0, 1) := by decide +kernel
theorem dX0_fillWithZeros_8 : decode cX0_fillWithZeros 8 = .ok (.istore_n 1, 1) := by decide +kernel
theorem dX0_fillWithZeros_9 : decode cX0_fillWithZeros 9 = .ok (.iload_n 1, 1) := by decide +kernel
theorem dX0_fillWithZeros_10 : decode cX0_fillWithZeros 10 = .ok (.aload_n 0, 1) := by decide +kernel
theorem dX0_fillWithZeros_11 : decode cX0_fillWithZeros 11 = .ok (.getfield 32, 3) := by decide +kernel
theorem dX0_fillWithZeros_14 : decode cX0_fillWithZeros 14 = .ok (.if_icmp .ge 36, 3) := by decide +kernel
theorem dX0_fillWithZeros_17 : decode cX0_fillWithZeros 17 = .ok (.aload_n 0, 1) := by decide +kernel
theorem dX0_fillWithZeros_18 : decode cX0_fillWithZeros 18 = .ok (.getfield 14, 3) := by decide +kernel
theorem dX0_fillWithZeros_21 : decode cX0_fillWithZeros 21 = .ok (.iload_n 1, 1) := by decide +kernel
theorem dX0_fillWithZeros_22 : decode cX0_fillWithZeros 22 = .ok (.aload_n 0, 1) := by decide +kernel
theorem dX0_fillWithZeros_23 : decode cX0_fillWithZeros 23 = .ok (.iconst 0, 1) := by decide +kernel
theorem dX0_fillWithZeros_24 : decode cX0_fillWithZeros 24 = .ok (.iload_n 1, 1) := by decide +kernel
theorem dX0_fillWithZeros_25 : decode cX0_fillWithZeros 25 = .ok (.aload_n 0, 1) := by decide +kernel
theorem dX0_fillWithZeros_26 : decode cX0_fillWithZeros 26 = .ok (.getfield 36, 3) := by decide +kernel
theorem dX0_fillWithZeros_29 : decode cX0_fillWithZeros 29 = .ok (.invokevirtual 147, 3) := by decide +kernel
theorem dX0_fillWithZeros_32 : decode cX0_fillWithZeros 32 = .ok (.invokevirtual 64, 3) := by decide +kernel
theorem dX0_fillWithZeros_35 : decode cX0_fillWithZeros 35 = .ok (.aload_n 0, 1) := by decide +kernel
theorem dX0_fillWithZeros_36 : decode cX0_fillWithZeros 36 = .ok (.getfield 20, 3) := by decide +kernel
theorem dX0_fillWithZeros_39 : decode cX0_fillWithZeros 39 = .ok (.iload_n 1, 1) := by decide +kernel
theorem dX0_fillWithZeros_40 : decode cX0_fillWithZeros 40 = .ok (.iconst 0, 1) := by decide +kernel
theorem dX0_fillWithZeros_41 : decode cX0_fillWithZeros 41 = .ok (.invokevirtual 64, 3) := by decide +kernel
theorem dX0_fillWithZeros_44 : decode cX0_fillWithZeros 44 = .ok (.iinc 1 1, 3) := by decide +kernel
theorem dX0_fillWithZeros_47 : decode cX0_fillWithZeros 47 = .ok (.goto (-38), 3) := by decide +kernel
theorem dX0_fillWithZeros_50 : decode cX0_fillWithZeros 50 = .ok (.return_, 1) := by decide +kernel
theorem dX0_isRekeying_0 : decode cX0_isRekeying 0 = .ok (.aload_n 0, 1) := by decide +kernel
theorem dX0_isRekeying_1 : decode cX0_isRekeying 1 = .ok (.getfield 39, 3) := by decide +kernel
theorem dX0_isRekeying_4 : decode cX0_isRekeying 4 = .ok (.ifCond .eq 7, 3) := by decide +kernel
theorem dX0_isRekeying_7 : decode cX0_isRekeying 7 = .ok (.iconst 1, 1) := by decide +kernel
theorem dX0_isRekeying_8 : decode cX0_isRekeying 8 = .ok (.goto 4, 3) := by decide +kernel
theorem dX0_isRekeying_11 : decode cX0_isRekeying 11 = .ok (.iconst 0, 1) := by decide +kernel
theorem dX0_isRekeying_12 : decode cX0_isRekeying 12 = .ok (.ireturn, 1) := by decide +kernel
theorem dX0_zoneFirst_0 : decode cX0_zoneFirst 0 = .ok (.aload_n 0, 1) := by decide +kernel
theorem dX0_zoneFirst_1 : decode cX0_zoneFirst 1 = .ok (.getfield 42, 3) := by decide +kernel
theorem dX0_zoneFirst_4 : decode cX0_zoneFirst 4 = .ok (.ifCond .eq 10, 3) := by decide +kernel
theorem dX0_zoneFirst_7 : decode cX0_zoneFirst 7 = .ok (.aload_n 0, 1) := by decide +kernel
theorem dX0_zoneFirst_8 : decode cX0_zoneFirst 8 = .ok (.getfield 46, 3) := by decide +kernel
theorem dX0_zoneFirst_11 : decode cX0_zoneFirst 11 = .ok (.goto 16, 3) := by decide +kernel
theorem dX0_zoneFirst_14 : decode cX0_zoneFirst 14 = .ok (.iconst 0, 1) := by decide +kernel
theorem dX0_zoneFirst_15 : decode cX0_zoneFirst 15 = .ok (.aload_n 0, 1) := by decide +kernel
theorem dX0_zoneFirst_16 : decode cX0_zoneFirst 16 = .ok (.getfield 46, 3) := by decide +kernel
theorem dX0_zoneFirst_19 : decode cX0_zoneFirst 19 = .ok (.aload_n 0, 1) := by decide +kernel
theorem dX0_zoneFirst_20 : decode cX0_zoneFirst 20 = .ok (.getfield 52, 3) := by decide +kernel
theorem dX0_zoneFirst_23 : decode cX0_zoneFirst 23 = .ok (.isub, 1) := by decide +kernel
theorem dX0_zoneFirst_24 : decode cX0_zoneFirst 24 = .ok (.invokestatic 161, 3) := by decide +kernel
theorem dX0_zoneFirst_27 : decode cX0_zoneFirst 27 = .ok (.ireturn, 1) := by decide +kernel
theorem dX0_zoneEnd_0 : decode cX0_zoneEnd 0 = .ok (.aload_n 0, 1) := by decide +kernel
theorem dX0_zoneEnd_1 : decode cX0_zoneEnd 1 = .ok (.getfield 42, 3) := by decide +kernel
theorem dX0_zoneEnd_4 : decode cX0_zoneEnd 4 = .ok (.ifCond .eq 22, 3) := by decide +kernel
theorem dX0_zoneEnd_7 : decode cX0_zoneEnd 7 = .ok (.aload_n 0, 1) := by decide +kernel
theorem dX0_zoneEnd_8 : decode cX0_zoneEnd 8 = .ok (.getfield 32, 3) := by decide +kernel
theorem dX0_zoneEnd_11 : decode cX0_zoneEnd 11 = .ok (.aload_n 0, 1) := by decide +kernel
theorem dX0_zoneEnd_12 : decode cX0_zoneEnd 12 = .ok (.getfield 46, 3) := by decide +kernel
theorem dX0_zoneEnd_15 : decode cX0_zoneEnd 15 = .ok (.aload_n 0, 1) := by decide +kernel
theorem dX0_zoneEnd_16 : decode cX0_zoneEnd 16 = .ok (.getfield 52, 3) := by decide +kernel
theorem dX0_zoneEnd_19 : decode cX0_zoneEnd 19 = .ok (.iadd, 1) := by decide +kernel
theorem dX0_zoneEnd_20 : decode cX0_zoneEnd 20 = .ok (.invokestatic 166, 3) := by decide +kernel
theorem dX0_zoneEnd_23 : decode cX0_zoneEnd 23 = .ok (.goto 7, 3) := by decide +kernel
theorem dX0_zoneEnd_26 : decode cX0_zoneEnd 26 = .ok (.aload_n 0, 1) := by decide +kernel
theorem dX0_zoneEnd_27 : decode cX0_zoneEnd 27 = .ok (.getfield 46, 3) := by decide +kernel
theorem dX0_zoneEnd_30 : decode cX0_zoneEnd 30 = .ok (.ireturn, 1) := by decide +kernel
theorem dX0_isZoneOpen_0 : decode cX0_isZoneOpen 0 = .ok (.aload_n 0, 1) := by decide +kernel
theorem dX0_isZoneOpen_1 : decode cX0_isZoneOpen 1 = .ok (.getfield 49, 3) := by decide +kernel
theorem dX0_isZoneOpen_4 : decode cX0_isZoneOpen 4 = .ok (.ifCond .gt 13, 3) := by decide +kernel
theorem dX0_isZoneOpen_7 : decode cX0_isZoneOpen 7 = .ok (.aload_n 0, 1) := by decide +kernel
theorem dX0_isZoneOpen_8 : decode cX0_isZoneOpen 8 = .ok (.getfield 26, 3) := by decide +kernel
theorem dX0_isZoneOpen_11 : decode cX0_isZoneOpen 11 = .ok (.invokevirtual 83, 3) := by decide +kernel
theorem dX0_isZoneOpen_14 : decode cX0_isZoneOpen 14 = .ok (.ifCond .le 7, 3) := by decide +kernel
theorem dX0_isZoneOpen_17 : decode cX0_isZoneOpen 17 = .ok (.iconst 1, 1) := by decide +kernel
theorem dX0_isZoneOpen_18 : decode cX0_isZoneOpen 18 = .ok (.goto 4, 3) := by decide +kernel
theorem dX0_isZoneOpen_21 : decode cX0_isZoneOpen 21 = .ok (.iconst 0, 1) := by decide +kernel
theorem dX0_isZoneOpen_22 : decode cX0_isZoneOpen 22 = .ok (.ireturn, 1) := by decide +kernel
theorem dX0_needsJournal_0 : decode cX0_needsJournal 0 = .ok (.aload_n 0, 1) := by decide +kernel
theorem dX0_needsJournal_1 : decode cX0_needsJournal 1 = .ok (.getfield 55, 3) := by decide +kernel
theorem dX0_needsJournal_4 : decode cX0_needsJournal 4 = .ok (.ifCond .eq 14, 3) := by decide +kernel
theorem dX0_needsJournal_7 : decode cX0_needsJournal 7 = .ok (.aload_n 0, 1) := by decide +kernel
theorem dX0_needsJournal_8 : decode cX0_needsJournal 8 = .ok (.invokevirtual 87, 3) := by decide +kernel
theorem dX0_needsJournal_11 : decode cX0_needsJournal 11 = .ok (.ifCond .ne 7, 3) := by decide +kernel
theorem dX0_needsJournal_14 : decode cX0_needsJournal 14 = .ok (.iconst 1, 1) := by decide +kernel
theorem dX0_needsJournal_15 : decode cX0_needsJournal 15 = .ok (.goto 4, 3) := by decide +kernel
theorem dX0_needsJournal_18 : decode cX0_needsJournal 18 = .ok (.iconst 0, 1) := by decide +kernel
theorem dX0_needsJournal_19 : decode cX0_needsJournal 19 = .ok (.ireturn, 1) := by decide +kernel
theorem dX0_makeStep_0 : decode cX0_makeStep 0 = .ok (.aload_n 0, 1) := by decide +kernel
theorem dX0_makeStep_1 : decode cX0_makeStep 1 = .ok (.invokevirtual 169, 3) := by decide +kernel
theorem dX0_makeStep_4 : decode cX0_makeStep 4 = .ok (.ifCond .eq 41, 3) := by decide +kernel
theorem dX0_makeStep_7 : decode cX0_makeStep 7 = .ok (.aload_n 0, 1) := by decide +kernel
theorem dX0_makeStep_8 : decode cX0_makeStep 8 = .ok (.invokevirtual 151, 3) := by decide +kernel
theorem dX0_makeStep_11 : decode cX0_makeStep 11 = .ok (.istore_n 1, 1) := by decide +kernel
theorem dX0_makeStep_12 : decode cX0_makeStep 12 = .ok (.iload_n 1, 1) := by decide +kernel
theorem dX0_makeStep_13 : decode cX0_makeStep 13 = .ok (.aload_n 0, 1) := by decide +kernel
theorem dX0_makeStep_14 : decode cX0_makeStep 14 = .ok (.invokevirtual 172, 3) := by decide +kernel
theorem dX0_makeStep_17 : decode cX0_makeStep 17 = .ok (.if_icmp .ge 25, 3) := by decide +kernel
theorem dX0_makeStep_20 : decode cX0_makeStep 20 = .ok (.aload_n 0, 1) := by decide +kernel
theorem dX0_makeStep_21 : decode cX0_makeStep 21 = .ok (.getfield 26, 3) := by decide +kernel
theorem dX0_makeStep_24 : decode cX0_makeStep 24 = .ok (.iload_n 1, 1) := by decide +kernel
theorem dX0_makeStep_25 : decode cX0_makeStep 25 = .ok (.aload_n 0, 1) := by decide +kernel
theorem dX0_makeStep_26 : decode cX0_makeStep 26 = .ok (.getfield 14, 3) := by decide +kernel
theorem dX0_makeStep_29 : decode cX0_makeStep 29 = .ok (.iload_n 1, 1) := by decide +kernel
theorem dX0_makeStep_30 : decode cX0_makeStep 30 = .ok (.invokevirtual 106, 3) := by decide +kernel
theorem dX0_makeStep_33 : decode cX0_makeStep 33 = .ok (.invokevirtual 64, 3) := by decide +kernel
theorem dX0_makeStep_36 : decode cX0_makeStep 36 = .ok (.iinc 1 1, 3) := by decide +kernel
theorem dX0_makeStep_39 : decode cX0_makeStep 39 = .ok (.goto (-27), 3) := by decide +kernel
theorem dX0_makeStep_42 : decode cX0_makeStep 42 = .ok (.goto 65, 3) := by decide +kernel
theorem dX0_makeStep_45 : decode cX0_makeStep 45 = .ok (.aload_n 0, 1) := by decide +kernel
theorem dX0_makeStep_46 : decode cX0_makeStep 46 = .ok (.invokevirtual 151, 3) := by decide +kernel
theorem dX0_makeStep_49 : decode cX0_makeStep 49 = .ok (.aload_n 0, 1) := by decide +kernel
theorem dX0_makeStep_50 : decode cX0_makeStep 50 = .ok (.getfield 49, 3) := by decide +kernel
theorem dX0_makeStep_53 : decode cX0_makeStep 53 = .ok (.iadd, 1) := by decide +kernel
theorem dX0_makeStep_54 : decode cX0_makeStep 54 = .ok (.aload_n 0, 1) := by decide +kernel
theorem dX0_makeStep_55 : decode cX0_makeStep 55 = .ok (.invokevirtual 172, 3) := by decide +kernel
theorem dX0_makeStep_58 : decode cX0_makeStep 58 = .ok (.if_icmp .ge 19, 3) := by decide +kernel
theorem dX0_makeStep_61 : decode cX0_makeStep 61 = .ok (.aload_n 0, 1) := by decide +kernel
theorem dX0_makeStep_62 : decode cX0_makeStep 62 = .ok (.aload_n 0, 1) := by decide +kernel
theorem dX0_makeStep_63 : decode cX0_makeStep 63 = .ok (.invokevirtual 151, 3) := by decide +kernel
theorem dX0_makeStep_66 : decode cX0_makeStep 66 = .ok (.aload_n 0, 1) := by decide +kernel
theorem dX0_makeStep_67 : decode cX0_makeStep 67 = .ok (.getfield 49, 3) := by decide +kernel
theorem dX0_makeStep_70 : decode cX0_makeStep 70 = .ok (.iadd, 1) := by decide +kernel
theorem dX0_makeStep_71 : decode cX0_makeStep 71 = .ok (.invokevirtual 175, 3) := by decide +kernel
theorem dX0_makeStep_74 : decode cX0_makeStep 74 = .ok (.goto 33, 3) := by decide +kernel
theorem dX0_makeStep_77 : decode cX0_makeStep 77 = .ok (.aload_n 0, 1) := by decide +kernel
theorem dX0_makeStep_78 : decode cX0_makeStep 78 = .ok (.aload_n 0, 1) := by decide +kernel
theorem dX0_makeStep_79 : decode cX0_makeStep 79 = .ok (.getfield 42, 3) := by decide +kernel
theorem dX0_makeStep_82 : decode cX0_makeStep 82 = .ok (.ifCond .eq 10, 3) := by decide +kernel
theorem dX0_makeStep_85 : decode cX0_makeStep 85 = .ok (.aload_n 0, 1) := by decide +kernel
theorem dX0_makeStep_86 : decode cX0_makeStep 86 = .ok (.invokevirtual 172, 3) := by decide +kernel
theorem dX0_makeStep_89 : decode cX0_makeStep 89 = .ok (.goto 7, 3) := by decide +kernel
theorem dX0_makeStep_92 : decode cX0_makeStep 92 = .ok (.aload_n 0, 1) := by decide +kernel
theorem dX0_makeStep_93 : decode cX0_makeStep 93 = .ok (.invokevirtual 151, 3) := by decide +kernel
theorem dX0_makeStep_96 : decode cX0_makeStep 96 = .ok (.putfield 46, 3) := by decide +kernel
theorem dX0_makeStep_99 : decode cX0_makeStep 99 = .ok (.aload_n 0, 1) := by decide +kernel
theorem dX0_makeStep_100 : decode cX0_makeStep 100 = .ok (.invokevirtual 75, 3) := by decide +kernel
theorem dX0_makeStep_103 : decode cX0_makeStep 103 = .ok (.aload_n 0, 1) := by decide +kernel
theorem dX0_makeStep_104 : decode cX0_makeStep 104 = .ok (.invokevirtual 100, 3) := by decide +kernel
theorem dX0_makeStep_107 : decode cX0_makeStep 107 = .ok (.return_, 1) := by decide +kernel
theorem dX0_rewriteNext_0 : decode cX0_rewriteNext 0 = .ok (.aload_n 0, 1) := by decide +kernel
theorem dX0_rewriteNext_1 : decode cX0_rewriteNext 1 = .ok (.iload_n 1, 1) := by decide +kernel
theorem dX0_rewriteNext_2 : decode cX0_rewriteNext 2 = .ok (.invokevirtual 154, 3) := by decide +kernel
theorem dX0_rewriteNext_5 : decode cX0_rewriteNext 5 = .ok (.istore_n 2, 1) := by decide +kernel
theorem dX0_rewriteNext_6 : decode cX0_rewriteNext 6 = .ok (.aload_n 0, 1) := by decide +kernel
theorem dX0_rewriteNext_7 : decode cX0_rewriteNext 7 = .ok (.aload_n 0, 1) := by decide +kernel
theorem dX0_rewriteNext_8 : decode cX0_rewriteNext 8 = .ok (.getfield 14, 3) := by decide +kernel
theorem dX0_rewriteNext_11 : decode cX0_rewriteNext 11 = .ok (.iload_n 1, 1) := by decide +kernel
theorem dX0_rewriteNext_12 : decode cX0_rewriteNext 12 = .ok (.invokevirtual 106, 3) := by decide +kernel
theorem dX0_rewriteNext_15 : decode cX0_rewriteNext 15 = .ok (.iload_n 1, 1) := by decide +kernel
theorem dX0_rewriteNext_16 : decode cX0_rewriteNext 16 = .ok (.iload_n 2, 1) := by decide +kernel
theorem dX0_rewriteNext_17 : decode cX0_rewriteNext 17 = .ok (.invokevirtual 147, 3) := by decide +kernel
theorem dX0_rewriteNext_20 : decode cX0_rewriteNext 20 = .ok (.istore_n 3, 1) := by decide +kernel
theorem dX0_rewriteNext_21 : decode cX0_rewriteNext 21 = .ok (.aload_n 0, 1) := by decide +kernel
theorem dX0_rewriteNext_22 : decode cX0_rewriteNext 22 = .ok (.getfield 14, 3) := by decide +kernel
theorem dX0_rewriteNext_25 : decode cX0_rewriteNext 25 = .ok (.iload_n 1, 1) := by decide +kernel
theorem dX0_rewriteNext_26 : decode cX0_rewriteNext 26 = .ok (.aload_n 0, 1) := by decide +kernel
theorem dX0_rewriteNext_27 : decode cX0_rewriteNext 27 = .ok (.iload_n 3, 1) := by decide +kernel
theorem dX0_rewriteNext_28 : decode cX0_rewriteNext 28 = .ok (.iload_n 1, 1) := by decide +kernel
theorem dX0_rewriteNext_29 : decode cX0_rewriteNext 29 = .ok (.aload_n 0, 1) := by decide +kernel
theorem dX0_rewriteNext_30 : decode cX0_rewriteNext 30 = .ok (.iload_n 2, 1) := by decide +kernel
theorem dX0_rewriteNext_31 : decode cX0_rewriteNext 31 = .ok (.invokevirtual 157, 3) := by decide +kernel
theorem dX0_rewriteNext_34 : decode cX0_rewriteNext 34 = .ok (.invokevirtual 147, 3) := by decide +kernel
theorem dX0_rewriteNext_37 : decode cX0_rewriteNext 37 = .ok (.invokevirtual 64, 3) := by decide +kernel
theorem dX0_rewriteNext_40 : decode cX0_rewriteNext 40 = .ok (.aload_n 0, 1) := by decide +kernel
theorem dX0_rewriteNext_41 : decode cX0_rewriteNext 41 = .ok (.dup, 1) := by decide +kernel
theorem dX0_rewriteNext_42 : decode cX0_rewriteNext 42 = .ok (.getfield 49, 3) := by decide +kernel
theorem dX0_rewriteNext_45 : decode cX0_rewriteNext 45 = .ok (.iconst 1, 1) := by decide +kernel
theorem dX0_rewriteNext_46 : decode cX0_rewriteNext 46 = .ok (.iadd, 1) := by decide +kernel
theorem dX0_rewriteNext_47 : decode cX0_rewriteNext 47 = .ok (.putfield 49, 3) := by decide +kernel
theorem dX0_rewriteNext_50 : decode cX0_rewriteNext 50 = .ok (.return_, 1) := by decide +kernel
theorem dX0_closeZone_0 : decode cX0_closeZone 0 = .ok (.aload_n 0, 1) := by decide +kernel
theorem dX0_closeZone_1 : decode cX0_closeZone 1 = .ok (.getfield 26, 3) := by decide +kernel
theorem dX0_closeZone_4 : decode cX0_closeZone 4 = .ok (.invokevirtual 125, 3) := by decide +kernel
theorem dX0_closeZone_7 : decode cX0_closeZone 7 = .ok (.aload_n 0, 1) := by decide +kernel
theorem dX0_closeZone_8 : decode cX0_closeZone 8 = .ok (.iconst 0, 1) := by decide +kernel
theorem dX0_closeZone_9 : decode cX0_closeZone 9 = .ok (.putfield 49, 3) := by decide +kernel
theorem dX0_closeZone_12 : decode cX0_closeZone 12 = .ok (.return_, 1) := by decide +kernel
theorem dX0_endIfThrough_0 : decode cX0_endIfThrough 0 = .ok (.aload_n 0, 1) := by decide +kernel
theorem dX0_endIfThrough_1 : decode cX0_endIfThrough 1 = .ok (.getfield 42, 3) := by decide +kernel
theorem dX0_endIfThrough_4 : decode cX0_endIfThrough 4 = .ok (.ifCond .eq 40, 3) := by decide +kernel
theorem dX0_endIfThrough_7 : decode cX0_endIfThrough 7 = .ok (.aload_n 0, 1) := by decide +kernel
theorem dX0_endIfThrough_8 : decode cX0_endIfThrough 8 = .ok (.getfield 46, 3) := by decide +kernel
theorem dX0_endIfThrough_11 : decode cX0_endIfThrough 11 = .ok (.aload_n 0, 1) := by decide +kernel
theorem dX0_endIfThrough_12 : decode cX0_endIfThrough 12 = .ok (.getfield 32, 3) := by decide +kernel
theorem dX0_endIfThrough_15 : decode cX0_endIfThrough 15 = .ok (.if_icmp .lt 29, 3) := by decide +kernel
theorem dX0_endIfThrough_18 : decode cX0_endIfThrough 18 = .ok (.aload_n 0, 1) := by decide +kernel
theorem dX0_endIfThrough_19 : decode cX0_endIfThrough 19 = .ok (.aload_n 0, 1) := by decide +kernel
theorem dX0_endIfThrough_20 : decode cX0_endIfThrough 20 = .ok (.getfield 39, 3) := by decide +kernel
theorem dX0_endIfThrough_23 : decode cX0_endIfThrough 23 = .ok (.putfield 36, 3) := by decide +kernel
theorem dX0_endIfThrough_26 : decode cX0_endIfThrough 26 = .ok (.aload_n 0, 1) := by decide +kernel
theorem dX0_endIfThrough_27 : decode cX0_endIfThrough 27 = .ok (.dup, 1) := by decide +kernel
theorem dX0_endIfThrough_28 : decode cX0_endIfThrough 28 = .ok (.getfield 58, 3) := by decide +kernel
theorem dX0_endIfThrough_31 : decode cX0_endIfThrough 31 = .ok (.iconst 1, 1) := by decide +kernel
theorem dX0_endIfThrough_32 : decode cX0_endIfThrough 32 = .ok (.iadd, 1) := by decide +kernel
theorem dX0_endIfThrough_33 : decode cX0_endIfThrough 33 = .ok (.putfield 58, 3) := by decide +kernel
theorem dX0_endIfThrough_36 : decode cX0_endIfThrough 36 = .ok (.aload_n 0, 1) := by decide +kernel
theorem dX0_endIfThrough_37 : decode cX0_endIfThrough 37 = .ok (.iconst 0, 1) := by decide +kernel
theorem dX0_endIfThrough_38 : decode cX0_endIfThrough 38 = .ok (.putfield 39, 3) := by decide +kernel
theorem dX0_endIfThrough_41 : decode cX0_endIfThrough 41 = .ok (.goto 22, 3) := by decide +kernel
theorem dX0_endIfThrough_44 : decode cX0_endIfThrough 44 = .ok (.aload_n 0, 1) := by decide +kernel
theorem dX0_endIfThrough_45 : decode cX0_endIfThrough 45 = .ok (.getfield 42, 3) := by decide +kernel
theorem dX0_endIfThrough_48 : decode cX0_endIfThrough 48 = .ok (.ifCond .ne 15, 3) := by decide +kernel
theorem dX0_endIfThrough_51 : decode cX0_endIfThrough 51 = .ok (.aload_n 0, 1) := by decide +kernel
theorem dX0_endIfThrough_52 : decode cX0_endIfThrough 52 = .ok (.getfield 46, 3) := by decide +kernel
theorem dX0_endIfThrough_55 : decode cX0_endIfThrough 55 = .ok (.ifCond .gt 8, 3) := by decide +kernel
theorem dX0_endIfThrough_58 : decode cX0_endIfThrough 58 = .ok (.aload_n 0, 1) := by decide +kernel
theorem dX0_endIfThrough_59 : decode cX0_endIfThrough 59 = .ok (.iconst 0, 1) := by decide +kernel
theorem dX0_endIfThrough_60 : decode cX0_endIfThrough 60 = .ok (.putfield 39, 3) := by decide +kernel
theorem dX0_endIfThrough_63 : decode cX0_endIfThrough 63 = .ok (.return_, 1) := by decide +kernel
theorem dX0_stepsAhead_0 : decode cX0_stepsAhead 0 = .ok (.aload_n 0, 1) := by decide +kernel
theorem dX0_stepsAhead_1 : decode cX0_stepsAhead 1 = .ok (.invokevirtual 91, 3) := by decide +kernel
theorem dX0_stepsAhead_4 : decode cX0_stepsAhead 4 = .ok (.ifCond .ne 5, 3) := by decide +kernel
theorem dX0_stepsAhead_7 : decode cX0_stepsAhead 7 = .ok (.iconst 0, 1) := by decide +kernel
theorem dX0_stepsAhead_8 : decode cX0_stepsAhead 8 = .ok (.ireturn, 1) := by decide +kernel
theorem dX0_stepsAhead_9 : decode cX0_stepsAhead 9 = .ok (.aload_n 0, 1) := by decide +kernel
theorem dX0_stepsAhead_10 : decode cX0_stepsAhead 10 = .ok (.invokevirtual 169, 3) := by decide +kernel
theorem dX0_stepsAhead_13 : decode cX0_stepsAhead 13 = .ok (.ifCond .eq 7, 3) := by decide +kernel
theorem dX0_stepsAhead_16 : decode cX0_stepsAhead 16 = .ok (.iconst 1, 1) := by decide +kernel
theorem dX0_stepsAhead_17 : decode cX0_stepsAhead 17 = .ok (.goto 4, 3) := by decide +kernel
theorem dX0_stepsAhead_20 : decode cX0_stepsAhead 20 = .ok (.iconst 0, 1) := by decide +kernel
theorem dX0_stepsAhead_21 : decode cX0_stepsAhead 21 = .ok (.aload_n 0, 1) := by decide +kernel
theorem dX0_stepsAhead_22 : decode cX0_stepsAhead 22 = .ok (.invokevirtual 172, 3) := by decide +kernel
theorem dX0_stepsAhead_25 : decode cX0_stepsAhead 25 = .ok (.iadd, 1) := by decide +kernel
theorem dX0_stepsAhead_26 : decode cX0_stepsAhead 26 = .ok (.aload_n 0, 1) := by decide +kernel
theorem dX0_stepsAhead_27 : decode cX0_stepsAhead 27 = .ok (.invokevirtual 151, 3) := by decide +kernel
theorem dX0_stepsAhead_30 : decode cX0_stepsAhead 30 = .ok (.isub, 1) := by decide +kernel
theorem dX0_stepsAhead_31 : decode cX0_stepsAhead 31 = .ok (.aload_n 0, 1) := by decide +kernel
theorem dX0_stepsAhead_32 : decode cX0_stepsAhead 32 = .ok (.getfield 49, 3) := by decide +kernel
theorem dX0_stepsAhead_35 : decode cX0_stepsAhead 35 = .ok (.isub, 1) := by decide +kernel
theorem dX0_stepsAhead_36 : decode cX0_stepsAhead 36 = .ok (.iconst 1, 1) := by decide +kernel
theorem dX0_stepsAhead_37 : decode cX0_stepsAhead 37 = .ok (.iadd, 1) := by decide +kernel
theorem dX0_stepsAhead_38 : decode cX0_stepsAhead 38 = .ok (.istore_n 1, 1) := by decide +kernel
theorem dX0_stepsAhead_39 : decode cX0_stepsAhead 39 = .ok (.aload_n 0, 1) := by decide +kernel
theorem dX0_stepsAhead_40 : decode cX0_stepsAhead 40 = .ok (.getfield 42, 3) := by decide +kernel
theorem dX0_stepsAhead_43 : decode cX0_stepsAhead 43 = .ok (.ifCond .eq 15, 3) := by decide +kernel
theorem dX0_stepsAhead_46 : decode cX0_stepsAhead 46 = .ok (.aload_n 0, 1) := by decide +kernel
theorem dX0_stepsAhead_47 : decode cX0_stepsAhead 47 = .ok (.getfield 32, 3) := by decide +kernel
theorem dX0_stepsAhead_50 : decode cX0_stepsAhead 50 = .ok (.aload_n 0, 1) := by decide +kernel
theorem dX0_stepsAhead_51 : decode cX0_stepsAhead 51 = .ok (.invokevirtual 172, 3) := by decide +kernel
theorem dX0_stepsAhead_54 : decode cX0_stepsAhead 54 = .ok (.isub, 1) := by decide +kernel
theorem dX0_stepsAhead_55 : decode cX0_stepsAhead 55 = .ok (.goto 7, 3) := by decide +kernel
theorem dX0_stepsAhead_58 : decode cX0_stepsAhead 58 = .ok (.aload_n 0, 1) := by decide +kernel
theorem dX0_stepsAhead_59 : decode cX0_stepsAhead 59 = .ok (.invokevirtual 151, 3) := by decide +kernel
theorem dX0_stepsAhead_62 : decode cX0_stepsAhead 62 = .ok (.istore_n 2, 1) := by decide +kernel
theorem dX0_stepsAhead_63 : decode cX0_stepsAhead 63 = .ok (.aload_n 0, 1) := by decide +kernel
theorem dX0_stepsAhead_64 : decode cX0_stepsAhead 64 = .ok (.getfield 52, 3) := by decide +kernel
theorem dX0_stepsAhead_67 : decode cX0_stepsAhead 67 = .ok (.ifCond .le 19, 3) := by decide +kernel
theorem dX0_stepsAhead_70 : decode cX0_stepsAhead 70 = .ok (.iload_n 2, 1) := by decide +kernel
theorem dX0_stepsAhead_71 : decode cX0_stepsAhead 71 = .ok (.aload_n 0, 1) := by decide +kernel
theorem dX0_stepsAhead_72 : decode cX0_stepsAhead 72 = .ok (.getfield 52, 3) := by decide +kernel
theorem dX0_stepsAhead_75 : decode cX0_stepsAhead 75 = .ok (.iadd, 1) := by decide +kernel
theorem dX0_stepsAhead_76 : decode cX0_stepsAhead 76 = .ok (.iconst 1, 1) := by decide +kernel
theorem dX0_stepsAhead_77 : decode cX0_stepsAhead 77 = .ok (.isub, 1) := by decide +kernel
theorem dX0_stepsAhead_78 : decode cX0_stepsAhead 78 = .ok (.aload_n 0, 1) := by decide +kernel
theorem dX0_stepsAhead_79 : decode cX0_stepsAhead 79 = .ok (.getfield 52, 3) := by decide +kernel
theorem dX0_stepsAhead_82 : decode cX0_stepsAhead 82 = .ok (.idiv, 1) := by decide +kernel
theorem dX0_stepsAhead_83 : decode cX0_stepsAhead 83 = .ok (.goto 4, 3) := by decide +kernel
theorem dX0_stepsAhead_86 : decode cX0_stepsAhead 86 = .ok (.iconst 0, 1) := by decide +kernel
theorem dX0_stepsAhead_87 : decode cX0_stepsAhead 87 = .ok (.istore_n 3, 1) := by decide +kernel
theorem dX0_stepsAhead_88 : decode cX0_stepsAhead 88 = .ok (.iload_n 1, 1) := by decide +kernel
theorem dX0_stepsAhead_89 : decode cX0_stepsAhead 89 = .ok (.iload_n 2, 1) := by decide +kernel
theorem dX0_stepsAhead_90 : decode cX0_stepsAhead 90 = .ok (.iadd, 1) := by decide +kernel
theorem dX0_stepsAhead_91 : decode cX0_stepsAhead 91 = .ok (.iload_n 3, 1) := by decide +kernel
theorem dX0_stepsAhead_92 : decode cX0_stepsAhead 92 = .ok (.aload_n 0, 1) := by decide +kernel
theorem dX0_stepsAhead_93 : decode cX0_stepsAhead 93 = .ok (.getfield 55, 3) := by decide +kernel
theorem dX0_stepsAhead_96 : decode cX0_stepsAhead 96 = .ok (.ifCond .eq 7, 3) := by decide +kernel
theorem dX0_stepsAhead_99 : decode cX0_stepsAhead 99 = .ok (.iconst 2, 1) := by decide +kernel
theorem dX0_stepsAhead_100 : decode cX0_stepsAhead 100 = .ok (.goto 4, 3) := by decide +kernel
theorem dX0_stepsAhead_103 : decode cX0_stepsAhead 103 = .ok (.iconst 1, 1) := by decide +kernel
theorem dX0_stepsAhead_104 : decode cX0_stepsAhead 104 = .ok (.imul, 1) := by decide +kernel
theorem dX0_stepsAhead_105 : decode cX0_stepsAhead 105 = .ok (.iadd, 1) := by decide +kernel
theorem dX0_stepsAhead_106 : decode cX0_stepsAhead 106 = .ok (.ireturn, 1) := by decide +kernel
theorem dX0_isFlushable_0 : decode cX0_isFlushable 0 = .ok (.aload_n 0, 1) := by decide +kernel
theorem dX0_isFlushable_1 : decode cX0_isFlushable 1 = .ok (.invokevirtual 87, 3) := by decide +kernel
theorem dX0_isFlushable_4 : decode cX0_isFlushable 4 = .ok (.ifCond .eq 23, 3) := by decide +kernel
theorem dX0_isFlushable_7 : decode cX0_isFlushable 7 = .ok (.iload_n 1, 1) := by decide +kernel
theorem dX0_isFlushable_8 : decode cX0_isFlushable 8 = .ok (.aload_n 0, 1) := by decide +kernel
theorem dX0_isFlushable_9 : decode cX0_isFlushable 9 = .ok (.invokevirtual 151, 3) := by decide +kernel
theorem dX0_isFlushable_12 : decode cX0_isFlushable 12 = .ok (.if_icmp .lt 15, 3) := by decide +kernel
theorem dX0_isFlushable_15 : decode cX0_isFlushable 15 = .ok (.iload_n 1, 1) := by decide +kernel
theorem dX0_isFlushable_16 : decode cX0_isFlushable 16 = .ok (.aload_n 0, 1) := by decide +kernel
theorem dX0_isFlushable_17 : decode cX0_isFlushable 17 = .ok (.invokevirtual 172, 3) := by decide +kernel
theorem dX0_isFlushable_20 : decode cX0_isFlushable 20 = .ok (.if_icmp .ge 7, 3) := by decide +kernel
theorem dX0_isFlushable_23 : decode cX0_isFlushable 23 = .ok (.iconst 1, 1) := by decide +kernel
theorem dX0_isFlushable_24 : decode cX0_isFlushable 24 = .ok (.goto 4, 3) := by decide +kernel
theorem dX0_isFlushable_27 : decode cX0_isFlushable 27 = .ok (.iconst 0, 1) := by decide +kernel
theorem dX0_isFlushable_28 : decode cX0_isFlushable 28 = .ok (.istore_n 2, 1) := by decide +kernel
theorem dX0_isFlushable_29 : decode cX0_isFlushable 29 = .ok (.aload_n 0, 1) := by decide +kernel
theorem dX0_isFlushable_30 : decode cX0_isFlushable 30 = .ok (.getfield 23, 3) := by decide +kernel
theorem dX0_isFlushable_33 : decode cX0_isFlushable 33 = .ok (.iload_n 1, 1) := by decide +kernel
theorem dX0_isFlushable_34 : decode cX0_isFlushable 34 = .ok (.invokevirtual 106, 3) := by decide +kernel
theorem dX0_isFlushable_37 : decode cX0_isFlushable 37 = .ok (.iconst (-1), 1) := by decide +kernel
theorem dX0_isFlushable_38 : decode cX0_isFlushable 38 = .ok (.if_icmp .eq 11, 3) := by decide +kernel
theorem dX0_isFlushable_41 : decode cX0_isFlushable 41 = .ok (.iload_n 2, 1) := by decide +kernel
theorem dX0_isFlushable_42 : decode cX0_isFlushable 42 = .ok (.ifCond .ne 7, 3) := by decide +kernel
theorem dX0_isFlushable_45 : decode cX0_isFlushable 45 = .ok (.iconst 1, 1) := by decide +kernel
theorem dX0_isFlushable_46 : decode cX0_isFlushable 46 = .ok (.goto 4, 3) := by decide +kernel
theorem dX0_isFlushable_49 : decode cX0_isFlushable 49 = .ok (.iconst 0, 1) := by decide +kernel
theorem dX0_isFlushable_50 : decode cX0_isFlushable 50 = .ok (.ireturn, 1) := by decide +kernel
theorem dX0_scrambledAfterFlush_0 : decode cX0_scrambledAfterFlush 0 = .ok (.aload_n 0, 1) := by decide +kernel
theorem dX0_scrambledAfterFlush_1 : decode cX0_scrambledAfterFlush 1 = .ok (.iload_n 1, 1) := by decide +kernel
theorem dX0_scrambledAfterFlush_2 : decode cX0_scrambledAfterFlush 2 = .ok (.invokevirtual 110, 3) := by decide +kernel
theorem dX0_scrambledAfterFlush_5 : decode cX0_scrambledAfterFlush 5 = .ok (.ifCond .eq 24, 3) := by decide +kernel
theorem dX0_scrambledAfterFlush_8 : decode cX0_scrambledAfterFlush 8 = .ok (.aload_n 0, 1) := by decide +kernel
theorem dX0_scrambledAfterFlush_9 : decode cX0_scrambledAfterFlush 9 = .ok (.aload_n 0, 1) := by decide +kernel
theorem dX0_scrambledAfterFlush_10 : decode cX0_scrambledAfterFlush 10 = .ok (.getfield 23, 3) := by decide +kernel
theorem dX0_scrambledAfterFlush_13 : decode cX0_scrambledAfterFlush 13 = .ok (.iload_n 1, 1) := by decide +kernel
theorem dX0_scrambledAfterFlush_14 : decode cX0_scrambledAfterFlush 14 = .ok (.invokevirtual 106, 3) := by decide +kernel
theorem dX0_scrambledAfterFlush_17 : decode cX0_scrambledAfterFlush 17 = .ok (.iload_n 1, 1) := by decide +kernel
theorem dX0_scrambledAfterFlush_18 : decode cX0_scrambledAfterFlush 18 = .ok (.aload_n 0, 1) := by decide +kernel
theorem dX0_scrambledAfterFlush_19 : decode cX0_scrambledAfterFlush 19 = .ok (.iload_n 1, 1) := by decide +kernel
theorem dX0_scrambledAfterFlush_20 : decode cX0_scrambledAfterFlush 20 = .ok (.invokevirtual 144, 3) := by decide +kernel
theorem dX0_scrambledAfterFlush_23 : decode cX0_scrambledAfterFlush 23 = .ok (.invokevirtual 147, 3) := by decide +kernel
theorem dX0_scrambledAfterFlush_26 : decode cX0_scrambledAfterFlush 26 = .ok (.goto 11, 3) := by decide +kernel
theorem dX0_scrambledAfterFlush_29 : decode cX0_scrambledAfterFlush 29 = .ok (.aload_n 0, 1) := by decide +kernel
theorem dX0_scrambledAfterFlush_30 : decode cX0_scrambledAfterFlush 30 = .ok (.getfield 14, 3) := by decide +kernel
theorem dX0_scrambledAfterFlush_33 : decode cX0_scrambledAfterFlush 33 = .ok (.iload_n 1, 1) := by decide +kernel
theorem dX0_scrambledAfterFlush_34 : decode cX0_scrambledAfterFlush 34 = .ok (.invokevirtual 106, 3) := by decide +kernel
theorem dX0_scrambledAfterFlush_37 : decode cX0_scrambledAfterFlush 37 = .ok (.ireturn, 1) := by decide +kernel
theorem dX0_scrambledAfterFailure_0 : decode cX0_scrambledAfterFailure 0 = .ok (.aload_n 0, 1) := by decide +kernel
theorem dX0_scrambledAfterFailure_1 : decode cX0_scrambledAfterFailure 1 = .ok (.getfield 26, 3) := by decide +kernel
theorem dX0_scrambledAfterFailure_4 : decode cX0_scrambledAfterFailure 4 = .ok (.iload_n 1, 1) := by decide +kernel
theorem dX0_scrambledAfterFailure_5 : decode cX0_scrambledAfterFailure 5 = .ok (.invokevirtual 106, 3) := by decide +kernel
theorem dX0_scrambledAfterFailure_8 : decode cX0_scrambledAfterFailure 8 = .ok (.istore_n 2, 1) := by decide +kernel
theorem dX0_scrambledAfterFailure_9 : decode cX0_scrambledAfterFailure 9 = .ok (.iload_n 2, 1) := by decide +kernel
theorem dX0_scrambledAfterFailure_10 : decode cX0_scrambledAfterFailure 10 = .ok (.iconst (-1), 1) := by decide +kernel
theorem dX0_scrambledAfterFailure_11 : decode cX0_scrambledAfterFailure 11 = .ok (.if_icmp .eq 7, 3) := by decide +kernel
theorem dX0_scrambledAfterFailure_14 : decode cX0_scrambledAfterFailure 14 = .ok (.iload_n 2, 1) := by decide +kernel
theorem dX0_scrambledAfterFailure_15 : decode cX0_scrambledAfterFailure 15 = .ok (.goto 11, 3) := by decide +kernel
theorem dX0_scrambledAfterFailure_18 : decode cX0_scrambledAfterFailure 18 = .ok (.aload_n 0, 1) := by decide +kernel
theorem dX0_scrambledAfterFailure_19 : decode cX0_scrambledAfterFailure 19 = .ok (.getfield 14, 3) := by decide +kernel
theorem dX0_scrambledAfterFailure_22 : decode cX0_scrambledAfterFailure 22 = .ok (.iload_n 1, 1) := by decide +kernel
theorem dX0_scrambledAfterFailure_23 : decode cX0_scrambledAfterFailure 23 = .ok (.invokevirtual 106, 3) := by decide +kernel
theorem dX0_scrambledAfterFailure_26 : decode cX0_scrambledAfterFailure 26 = .ok (.ireturn, 1) := by decide +kernel
theorem dX0_valueAfterFailure_0 : decode cX0_valueAfterFailure 0 = .ok (.aload_n 0, 1) := by decide +kernel
theorem dX0_valueAfterFailure_1 : decode cX0_valueAfterFailure 1 = .ok (.aload_n 0, 1) := by decide +kernel
theorem dX0_valueAfterFailure_2 : decode cX0_valueAfterFailure 2 = .ok (.iload_n 1, 1) := by decide +kernel
theorem dX0_valueAfterFailure_3 : decode cX0_valueAfterFailure 3 = .ok (.invokevirtual 122, 3) := by decide +kernel
theorem dX0_valueAfterFailure_6 : decode cX0_valueAfterFailure 6 = .ok (.iload_n 1, 1) := by decide +kernel
theorem dX0_valueAfterFailure_7 : decode cX0_valueAfterFailure 7 = .ok (.aload_n 0, 1) := by decide +kernel
theorem dX0_valueAfterFailure_8 : decode cX0_valueAfterFailure 8 = .ok (.iload_n 1, 1) := by decide +kernel
theorem dX0_valueAfterFailure_9 : decode cX0_valueAfterFailure 9 = .ok (.invokevirtual 154, 3) := by decide +kernel
theorem dX0_valueAfterFailure_12 : decode cX0_valueAfterFailure 12 = .ok (.invokevirtual 147, 3) := by decide +kernel
theorem dX0_valueAfterFailure_15 : decode cX0_valueAfterFailure 15 = .ok (.ireturn, 1) := by decide +kernel
theorem dX0_damageAfterFailure_0 : decode cX0_damageAfterFailure 0 = .ok (.iconst 0, 1) := by decide +kernel
theorem dX0_damageAfterFailure_1 : decode cX0_damageAfterFailure 1 = .ok (.istore_n 1, 1) := by decide +kernel
theorem dX0_damageAfterFailure_2 : decode cX0_damageAfterFailure 2 = .ok (.iconst 0, 1) := by decide +kernel
theorem dX0_damageAfterFailure_3 : decode cX0_damageAfterFailure 3 = .ok (.istore_n 2, 1) := by decide +kernel
theorem dX0_damageAfterFailure_4 : decode cX0_damageAfterFailure 4 = .ok (.iload_n 2, 1) := by decide +kernel
theorem dX0_damageAfterFailure_5 : decode cX0_damageAfterFailure 5 = .ok (.aload_n 0, 1) := by decide +kernel
theorem dX0_damageAfterFailure_6 : decode cX0_damageAfterFailure 6 = .ok (.getfield 32, 3) := by decide +kernel
theorem dX0_damageAfterFailure_9 : decode cX0_damageAfterFailure 9 = .ok (.if_icmp .ge 28, 3) := by decide +kernel
theorem dX0_damageAfterFailure_12 : decode cX0_damageAfterFailure 12 = .ok (.aload_n 0, 1) := by decide +kernel
theorem dX0_damageAfterFailure_13 : decode cX0_damageAfterFailure 13 = .ok (.iload_n 2, 1) := by decide +kernel
theorem dX0_damageAfterFailure_14 : decode cX0_damageAfterFailure 14 = .ok (.invokevirtual 119, 3) := by decide +kernel
theorem dX0_damageAfterFailure_17 : decode cX0_damageAfterFailure 17 = .ok (.aload_n 0, 1) := by decide +kernel
theorem dX0_damageAfterFailure_18 : decode cX0_damageAfterFailure 18 = .ok (.getfield 20, 3) := by decide +kernel
theorem dX0_damageAfterFailure_21 : decode cX0_damageAfterFailure 21 = .ok (.iload_n 2, 1) := by decide +kernel
theorem dX0_damageAfterFailure_22 : decode cX0_damageAfterFailure 22 = .ok (.invokevirtual 106, 3) := by decide +kernel
theorem dX0_damageAfterFailure_25 : decode cX0_damageAfterFailure 25 = .ok (.if_icmp .eq 6, 3) := by decide +kernel
theorem dX0_damageAfterFailure_28 : decode cX0_damageAfterFailure 28 = .ok (.iinc 1 1, 3) := by decide +kernel
theorem dX0_damageAfterFailure_31 : decode cX0_damageAfterFailure 31 = .ok (.iinc 2 1, 3) := by decide +kernel
theorem dX0_damageAfterFailure_34 : decode cX0_damageAfterFailure 34 = .ok (.goto (-30), 3) := by decide +kernel
theorem dX0_damageAfterFailure_37 : decode cX0_damageAfterFailure 37 = .ok (.iload_n 1, 1) := by decide +kernel
theorem dX0_damageAfterFailure_38 : decode cX0_damageAfterFailure 38 = .ok (.ireturn, 1) := by decide +kernel
theorem dX0_damageCount_0 : decode cX0_damageCount 0 = .ok (.iconst 0, 1) := by decide +kernel
theorem dX0_damageCount_1 : decode cX0_damageCount 1 = .ok (.istore_n 1, 1) := by decide +kernel
theorem dX0_damageCount_2 : decode cX0_damageCount 2 = .ok (.iconst 0, 1) := by decide +kernel
theorem dX0_damageCount_3 : decode cX0_damageCount 3 = .ok (.istore_n 2, 1) := by decide +kernel
theorem dX0_damageCount_4 : decode cX0_damageCount 4 = .ok (.iload_n 2, 1) := by decide +kernel
theorem dX0_damageCount_5 : decode cX0_damageCount 5 = .ok (.aload_n 0, 1) := by decide +kernel
theorem dX0_damageCount_6 : decode cX0_damageCount 6 = .ok (.getfield 32, 3) := by decide +kernel
theorem dX0_damageCount_9 : decode cX0_damageCount 9 = .ok (.if_icmp .ge 28, 3) := by decide +kernel
theorem dX0_damageCount_12 : decode cX0_damageCount 12 = .ok (.aload_n 0, 1) := by decide +kernel
theorem dX0_damageCount_13 : decode cX0_damageCount 13 = .ok (.iload_n 2, 1) := by decide +kernel
theorem dX0_damageCount_14 : decode cX0_damageCount 14 = .ok (.invokevirtual 116, 3) := by decide +kernel
theorem dX0_damageCount_17 : decode cX0_damageCount 17 = .ok (.aload_n 0, 1) := by decide +kernel
theorem dX0_damageCount_18 : decode cX0_damageCount 18 = .ok (.getfield 20, 3) := by decide +kernel
theorem dX0_damageCount_21 : decode cX0_damageCount 21 = .ok (.iload_n 2, 1) := by decide +kernel
theorem dX0_damageCount_22 : decode cX0_damageCount 22 = .ok (.invokevirtual 106, 3) := by decide +kernel
theorem dX0_damageCount_25 : decode cX0_damageCount 25 = .ok (.if_icmp .eq 6, 3) := by decide +kernel
theorem dX0_damageCount_28 : decode cX0_damageCount 28 = .ok (.iinc 1 1, 3) := by decide +kernel
theorem dX0_damageCount_31 : decode cX0_damageCount 31 = .ok (.iinc 2 1, 3) := by decide +kernel
theorem dX0_damageCount_34 : decode cX0_damageCount 34 = .ok (.goto (-30), 3) := by decide +kernel
theorem dX0_damageCount_37 : decode cX0_damageCount 37 = .ok (.iload_n 1, 1) := by decide +kernel
theorem dX0_damageCount_38 : decode cX0_damageCount 38 = .ok (.ireturn, 1) := by decide +kernel
theorem dX0_firstDamage_0 : decode cX0_firstDamage 0 = .ok (.iconst 0, 1) := by decide +kernel
theorem dX0_firstDamage_1 : decode cX0_firstDamage 1 = .ok (.istore_n 1, 1) := by decide +kernel
theorem dX0_firstDamage_2 : decode cX0_firstDamage 2 = .ok (.iload_n 1, 1) := by decide +kernel
theorem dX0_firstDamage_3 : decode cX0_firstDamage 3 = .ok (.aload_n 0, 1) := by decide +kernel
theorem dX0_firstDamage_4 : decode cX0_firstDamage 4 = .ok (.getfield 32, 3) := by decide +kernel
theorem dX0_firstDamage_7 : decode cX0_firstDamage 7 = .ok (.if_icmp .ge 27, 3) := by decide +kernel
theorem dX0_firstDamage_10 : decode cX0_firstDamage 10 = .ok (.aload_n 0, 1) := by decide +kernel
theorem dX0_firstDamage_11 : decode cX0_firstDamage 11 = .ok (.iload_n 1, 1) := by decide +kernel
theorem dX0_firstDamage_12 : decode cX0_firstDamage 12 = .ok (.invokevirtual 116, 3) := by decide +kernel
theorem dX0_firstDamage_15 : decode cX0_firstDamage 15 = .ok (.aload_n 0, 1) := by decide +kernel
theorem dX0_firstDamage_16 : decode cX0_firstDamage 16 = .ok (.getfield 20, 3) := by decide +kernel
theorem dX0_firstDamage_19 : decode cX0_firstDamage 19 = .ok (.iload_n 1, 1) := by decide +kernel
theorem dX0_firstDamage_20 : decode cX0_firstDamage 20 = .ok (.invokevirtual 106, 3) := by decide +kernel
theorem dX0_firstDamage_23 : decode cX0_firstDamage 23 = .ok (.if_icmp .eq 5, 3) := by decide +kernel
theorem dX0_firstDamage_26 : decode cX0_firstDamage 26 = .ok (.iload_n 1, 1) := by decide +kernel
theorem dX0_firstDamage_27 : decode cX0_firstDamage 27 = .ok (.ireturn, 1) := by decide +kernel
theorem dX0_firstDamage_28 : decode cX0_firstDamage 28 = .ok (.iinc 1 1, 3) := by decide +kernel
theorem dX0_firstDamage_31 : decode cX0_firstDamage 31 = .ok (.goto (-29), 3) := by decide +kernel
theorem dX0_firstDamage_34 : decode cX0_firstDamage 34 = .ok (.iconst (-1), 1) := by decide +kernel
theorem dX0_firstDamage_35 : decode cX0_firstDamage 35 = .ok (.ireturn, 1) := by decide +kernel
theorem dX0_numberOfRekeying_0 : decode cX0_numberOfRekeying 0 = .ok (.aload_n 0, 1) := by decide +kernel
theorem dX0_numberOfRekeying_1 : decode cX0_numberOfRekeying 1 = .ok (.invokevirtual 91, 3) := by decide +kernel
theorem dX0_numberOfRekeying_4 : decode cX0_numberOfRekeying 4 = .ok (.ifCond .ne 6, 3) := by decide +kernel
theorem dX0_numberOfRekeying_7 : decode cX0_numberOfRekeying 7 = .ok (.bipush (-6), 2) := by decide +kernel
theorem dX0_numberOfRekeying_9 : decode cX0_numberOfRekeying 9 = .ok (.ireturn, 1) := by decide +kernel
theorem dX0_numberOfRekeying_10 : decode cX0_numberOfRekeying 10 = .ok (.iload_n 1, 1) := by decide +kernel
theorem dX0_numberOfRekeying_11 : decode cX0_numberOfRekeying 11 = .ok (.iconst 2, 1) := by decide +kernel
theorem dX0_numberOfRekeying_12 : decode cX0_numberOfRekeying 12 = .ok (.if_icmp .ne 8, 3) := by decide +kernel
theorem dX0_numberOfRekeying_15 : decode cX0_numberOfRekeying 15 = .ok (.aload_n 0, 1) := by decide +kernel
theorem dX0_numberOfRekeying_16 : decode cX0_numberOfRekeying 16 = .ok (.getfield 39, 3) := by decide +kernel
theorem dX0_numberOfRekeying_19 : decode cX0_numberOfRekeying 19 = .ok (.ireturn, 1) := by decide +kernel
theorem dX0_numberOfRekeying_20 : decode cX0_numberOfRekeying 20 = .ok (.iload_n 1, 1) := by decide +kernel
theorem dX0_numberOfRekeying_21 : decode cX0_numberOfRekeying 21 = .ok (.iconst 3, 1) := by decide +kernel
theorem dX0_numberOfRekeying_22 : decode cX0_numberOfRekeying 22 = .ok (.if_icmp .ne 8, 3) := by decide +kernel
theorem dX0_numberOfRekeying_25 : decode cX0_numberOfRekeying 25 = .ok (.aload_n 0, 1) := by decide +kernel
theorem dX0_numberOfRekeying_26 : decode cX0_numberOfRekeying 26 = .ok (.getfield 46, 3) := by decide +kernel
theorem dX0_numberOfRekeying_29 : decode cX0_numberOfRekeying 29 = .ok (.ireturn, 1) := by decide +kernel
theorem dX0_numberOfRekeying_30 : decode cX0_numberOfRekeying 30 = .ok (.aload_n 0, 1) := by decide +kernel
theorem dX0_numberOfRekeying_31 : decode cX0_numberOfRekeying 31 = .ok (.getfield 42, 3) := by decide +kernel
theorem dX0_numberOfRekeying_34 : decode cX0_numberOfRekeying 34 = .ok (.ifCond .eq 7, 3) := by decide +kernel
theorem dX0_numberOfRekeying_37 : decode cX0_numberOfRekeying 37 = .ok (.iconst 1, 1) := by decide +kernel
theorem dX0_numberOfRekeying_38 : decode cX0_numberOfRekeying 38 = .ok (.goto 4, 3) := by decide +kernel
theorem dX0_numberOfRekeying_41 : decode cX0_numberOfRekeying 41 = .ok (.iconst 0, 1) := by decide +kernel
theorem dX0_numberOfRekeying_42 : decode cX0_numberOfRekeying 42 = .ok (.ireturn, 1) := by decide +kernel
theorem dX0_number_0 : decode cX0_number 0 = .ok (.iload_n 1, 1) := by decide +kernel
theorem dX0_number_1 : decode cX0_number 1 = .ok (.tableswitch 134 0 12 #[67, 72, 134, 134, 134, 77, 82, 90, 98, 103, 116, 124, 129], 67) := by decide +kernel
theorem dX0_number_68 : decode cX0_number 68 = .ok (.aload_n 0, 1) := by decide +kernel
theorem dX0_number_69 : decode cX0_number 69 = .ok (.getfield 32, 3) := by decide +kernel
theorem dX0_number_72 : decode cX0_number 72 = .ok (.ireturn, 1) := by decide +kernel
theorem dX0_number_73 : decode cX0_number 73 = .ok (.aload_n 0, 1) := by decide +kernel
theorem dX0_number_74 : decode cX0_number 74 = .ok (.getfield 36, 3) := by decide +kernel
theorem dX0_number_77 : decode cX0_number 77 = .ok (.ireturn, 1) := by decide +kernel
theorem dX0_number_78 : decode cX0_number 78 = .ok (.aload_n 0, 1) := by decide +kernel
theorem dX0_number_79 : decode cX0_number 79 = .ok (.getfield 49, 3) := by decide +kernel
theorem dX0_number_82 : decode cX0_number 82 = .ok (.ireturn, 1) := by decide +kernel
theorem dX0_number_83 : decode cX0_number 83 = .ok (.aload_n 0, 1) := by decide +kernel
theorem dX0_number_84 : decode cX0_number 84 = .ok (.getfield 26, 3) := by decide +kernel
theorem dX0_number_87 : decode cX0_number 87 = .ok (.invokevirtual 83, 3) := by decide +kernel
theorem dX0_number_90 : decode cX0_number 90 = .ok (.ireturn, 1) := by decide +kernel
theorem dX0_number_91 : decode cX0_number 91 = .ok (.aload_n 0, 1) := by decide +kernel
theorem dX0_number_92 : decode cX0_number 92 = .ok (.getfield 23, 3) := by decide +kernel
theorem dX0_number_95 : decode cX0_number 95 = .ok (.invokevirtual 83, 3) := by decide +kernel
theorem dX0_number_98 : decode cX0_number 98 = .ok (.ireturn, 1) := by decide +kernel
theorem dX0_number_99 : decode cX0_number 99 = .ok (.aload_n 0, 1) := by decide +kernel
theorem dX0_number_100 : decode cX0_number 100 = .ok (.getfield 52, 3) := by decide +kernel
theorem dX0_number_103 : decode cX0_number 103 = .ok (.ireturn, 1) := by decide +kernel
theorem dX0_number_104 : decode cX0_number 104 = .ok (.aload_n 0, 1) := by decide +kernel
theorem dX0_number_105 : decode cX0_number 105 = .ok (.getfield 55, 3) := by decide +kernel
theorem dX0_number_108 : decode cX0_number 108 = .ok (.ifCond .eq 7, 3) := by decide +kernel
theorem dX0_number_111 : decode cX0_number 111 = .ok (.iconst 1, 1) := by decide +kernel
theorem dX0_number_112 : decode cX0_number 112 = .ok (.goto 4, 3) := by decide +kernel
theorem dX0_number_115 : decode cX0_number 115 = .ok (.iconst 0, 1) := by decide +kernel
theorem dX0_number_116 : decode cX0_number 116 = .ok (.ireturn, 1) := by decide +kernel
theorem dX0_number_117 : decode cX0_number 117 = .ok (.aload_n 0, 1) := by decide +kernel
theorem dX0_number_118 : decode cX0_number 118 = .ok (.getfield 29, 3) := by decide +kernel
theorem dX0_number_121 : decode cX0_number 121 = .ok (.invokevirtual 83, 3) := by decide +kernel
theorem dX0_number_124 : decode cX0_number 124 = .ok (.ireturn, 1) := by decide +kernel
theorem dX0_number_125 : decode cX0_number 125 = .ok (.aload_n 0, 1) := by decide +kernel
theorem dX0_number_126 : decode cX0_number 126 = .ok (.getfield 58, 3) := by decide +kernel
theorem dX0_number_129 : decode cX0_number 129 = .ok (.ireturn, 1) := by decide +kernel
theorem dX0_number_130 : decode cX0_number 130 = .ok (.aload_n 0, 1) := by decide +kernel
theorem dX0_number_131 : decode cX0_number 131 = .ok (.getfield 61, 3) := by decide +kernel
theorem dX0_number_134 : decode cX0_number 134 = .ok (.ireturn, 1) := by decide +kernel
theorem dX0_number_135 : decode cX0_number 135 = .ok (.bipush (-2), 2) := by decide +kernel
theorem dX0_number_137 : decode cX0_number 137 = .ok (.ireturn, 1) := by decide +kernel
end
section
theorem dX2_init_0 : decode cX2_init 0 = .ok (.aload_n 0, 1) := by decide +kernel
theorem dX2_init_1 : decode cX2_init 1 = .ok (.invokespecial 3, 3) := by decide +kernel
theorem dX2_init_4 : decode cX2_init 4 = .ok (.aload_n 0, 1) := by decide +kernel
theorem dX2_init_5 : decode cX2_init 5 = .ok (.iload_n 1, 1) := by decide +kernel
theorem dX2_init_6 : decode cX2_init 6 = .ok (.iconst 0, 1) := by decide +kernel
theorem dX2_init_7 : decode cX2_init 7 = .ok (.invokestatic 9, 3) := by decide +kernel
theorem dX2_init_10 : decode cX2_init 10 = .ok (.newarray .int, 2) := by decide +kernel
theorem dX2_init_12 : decode cX2_init 12 = .ok (.putfield 15, 3) := by decide +kernel
theorem dX2_init_15 : decode cX2_init 15 = .ok (.aload_n 0, 1) := by decide +kernel
theorem dX2_init_16 : decode cX2_init 16 = .ok (.invokevirtual 21, 3) := by decide +kernel
theorem dX2_init_19 : decode cX2_init 19 = .ok (.return_, 1) := by decide +kernel
theorem dX2_get_0 : decode cX2_get 0 = .ok (.iload_n 1, 1) := by decide +kernel
theorem dX2_get_1 : decode cX2_get 1 = .ok (.ifCond .lt 21, 3) := by decide +kernel
theorem dX2_get_4 : decode cX2_get 4 = .ok (.iload_n 1, 1) := by decide +kernel
theorem dX2_get_5 : decode cX2_get 5 = .ok (.aload_n 0, 1) := by decide +kernel
theorem dX2_get_6 : decode cX2_get 6 = .ok (.getfield 15, 3) := by decide +kernel
theorem dX2_get_9 : decode cX2_get 9 = .ok (.arraylength, 1) := by decide +kernel
theorem dX2_get_10 : decode cX2_get 10 = .ok (.if_icmp .ge 12, 3) := by decide +kernel
theorem dX2_get_13 : decode cX2_get 13 = .ok (.aload_n 0, 1) := by decide +kernel
theorem dX2_get_14 : decode cX2_get 14 = .ok (.getfield 15, 3) := by decide +kernel
theorem dX2_get_17 : decode cX2_get 17 = .ok (.iload_n 1, 1) := by decide +kernel
theorem dX2_get_18 : decode cX2_get 18 = .ok (.iaload, 1) := by decide +kernel
theorem dX2_get_19 : decode cX2_get 19 = .ok (.goto 4, 3) := by decide +kernel
theorem dX2_get_22 : decode cX2_get 22 = .ok (.iconst (-1), 1) := by decide +kernel
theorem dX2_get_23 : decode cX2_get 23 = .ok (.ireturn, 1) := by decide +kernel
theorem dX2_set_0 : decode cX2_set 0 = .ok (.iload_n 1, 1) := by decide +kernel
theorem dX2_set_1 : decode cX2_set 1 = .ok (.ifCond .lt 19, 3) := by decide +kernel
theorem dX2_set_4 : decode cX2_set 4 = .ok (.iload_n 1, 1) := by decide +kernel
theorem dX2_set_5 : decode cX2_set 5 = .ok (.aload_n 0, 1) := by decide +kernel
theorem dX2_set_6 : decode cX2_set 6 = .ok (.getfield 15, 3) := by decide +kernel
theorem dX2_set_9 : decode cX2_set 9 = .ok (.arraylength, 1) := by decide +kernel
theorem dX2_set_10 : decode cX2_set 10 = .ok (.if_icmp .ge 10, 3) := by decide +kernel
theorem dX2_set_13 : decode cX2_set 13 = .ok (.aload_n 0, 1) := by decide +kernel
theorem dX2_set_14 : decode cX2_set 14 = .ok (.getfield 15, 3) := by decide +kernel
theorem dX2_set_17 : decode cX2_set 17 = .ok (.iload_n 1, 1) := by decide +kernel
theorem dX2_set_18 : decode cX2_set 18 = .ok (.iload_n 2, 1) := by decide +kernel
theorem dX2_set_19 : decode cX2_set 19 = .ok (.iastore, 1) := by decide +kernel
theorem dX2_set_20 : decode cX2_set 20 = .ok (.return_, 1) := by decide +kernel
theorem dX2_clear_0 : decode cX2_clear 0 = .ok (.iconst 0, 1) := by decide +kernel
theorem dX2_clear_1 : decode cX2_clear 1 = .ok (.istore_n 1, 1) := by decide +kernel
theorem dX2_clear_2 : decode cX2_clear 2 = .ok (.iload_n 1, 1) := by decide +kernel
theorem dX2_clear_3 : decode cX2_clear 3 = .ok (.aload_n 0, 1) := by decide +kernel
theorem dX2_clear_4 : decode cX2_clear 4 = .ok (.getfield 15, 3) := by decide +kernel
theorem dX2_clear_7 : decode cX2_clear 7 = .ok (.arraylength, 1) := by decide +kernel
theorem dX2_clear_8 : decode cX2_clear 8 = .ok (.if_icmp .ge 16, 3) := by decide +kernel
theorem dX2_clear_11 : decode cX2_clear 11 = .ok (.aload_n 0, 1) := by decide +kernel
theorem dX2_clear_12 : decode cX2_clear 12 = .ok (.getfield 15, 3) := by decide +kernel
theorem dX2_clear_15 : decode cX2_clear 15 = .ok (.iload_n 1, 1) := by decide +kernel
theorem dX2_clear_16 : decode cX2_clear 16 = .ok (.iconst (-1), 1) := by decide +kernel
theorem dX2_clear_17 : decode cX2_clear 17 = .ok (.iastore, 1) := by decide +kernel
theorem dX2_clear_18 : decode cX2_clear 18 = .ok (.iinc 1 1, 3) := by decide +kernel
theorem dX2_clear_21 : decode cX2_clear 21 = .ok (.goto (-19), 3) := by decide +kernel
theorem dX2_clear_24 : decode cX2_clear 24 = .ok (.return_, 1) := by decide +kernel
theorem dX2_filled_0 : decode cX2_filled 0 = .ok (.iconst 0, 1) := by decide +kernel
theorem dX2_filled_1 : decode cX2_filled 1 = .ok (.istore_n 1, 1) := by decide +kernel
theorem dX2_filled_2 : decode cX2_filled 2 = .ok (.iconst 0, 1) := by decide +kernel
theorem dX2_filled_3 : decode cX2_filled 3 = .ok (.istore_n 2, 1) := by decide +kernel
theorem dX2_filled_4 : decode cX2_filled 4 = .ok (.iload_n 2, 1) := by decide +kernel
theorem dX2_filled_5 : decode cX2_filled 5 = .ok (.aload_n 0, 1) := by decide +kernel
theorem dX2_filled_6 : decode cX2_filled 6 = .ok (.getfield 15, 3) := by decide +kernel
theorem dX2_filled_9 : decode cX2_filled 9 = .ok (.arraylength, 1) := by decide +kernel
theorem dX2_filled_10 : decode cX2_filled 10 = .ok (.if_icmp .ge 22, 3) := by decide +kernel
theorem dX2_filled_13 : decode cX2_filled 13 = .ok (.aload_n 0, 1) := by decide +kernel
theorem dX2_filled_14 : decode cX2_filled 14 = .ok (.getfield 15, 3) := by decide +kernel
theorem dX2_filled_17 : decode cX2_filled 17 = .ok (.iload_n 2, 1) := by decide +kernel
theorem dX2_filled_18 : decode cX2_filled 18 = .ok (.iaload, 1) := by decide +kernel
theorem dX2_filled_19 : decode cX2_filled 19 = .ok (.iconst (-1), 1) := by decide +kernel
theorem dX2_filled_20 : decode cX2_filled 20 = .ok (.if_icmp .eq 6, 3) := by decide +kernel
theorem dX2_filled_23 : decode cX2_filled 23 = .ok (.iinc 1 1, 3) := by decide +kernel
theorem dX2_filled_26 : decode cX2_filled 26 = .ok (.iinc 2 1, 3) := by decide +kernel
theorem dX2_filled_29 : decode cX2_filled 29 = .ok (.goto (-25), 3) := by decide +kernel
theorem dX2_filled_32 : decode cX2_filled 32 = .ok (.iload_n 1, 1) := by decide +kernel
theorem dX2_filled_33 : decode cX2_filled 33 = .ok (.ireturn, 1) := by decide +kernel
theorem dX2_takeOver_0 : decode cX2_takeOver 0 = .ok (.iconst 0, 1) := by decide +kernel
theorem dX2_takeOver_1 : decode cX2_takeOver 1 = .ok (.istore_n 2, 1) := by decide +kernel
theorem dX2_takeOver_2 : decode cX2_takeOver 2 = .ok (.iload_n 2, 1) := by decide +kernel
theorem dX2_takeOver_3 : decode cX2_takeOver 3 = .ok (.aload_n 0, 1) := by decide +kernel
theorem dX2_takeOver_4 : decode cX2_takeOver 4 = .ok (.getfield 15, 3) := by decide +kernel
theorem dX2_takeOver_7 : decode cX2_takeOver 7 = .ok (.arraylength, 1) := by decide +kernel
theorem dX2_takeOver_8 : decode cX2_takeOver 8 = .ok (.if_icmp .ge 20, 3) := by decide +kernel
theorem dX2_takeOver_11 : decode cX2_takeOver 11 = .ok (.aload_n 0, 1) := by decide +kernel
theorem dX2_takeOver_12 : decode cX2_takeOver 12 = .ok (.getfield 15, 3) := by decide +kernel
theorem dX2_takeOver_15 : decode cX2_takeOver 15 = .ok (.iload_n 2, 1) := by decide +kernel
theorem dX2_takeOver_16 : decode cX2_takeOver 16 = .ok (.aload_n 1, 1) := by decide +kernel
theorem dX2_takeOver_17 : decode cX2_takeOver 17 = .ok (.iload_n 2, 1) := by decide +kernel
theorem dX2_takeOver_18 : decode cX2_takeOver 18 = .ok (.invokevirtual 24, 3) := by decide +kernel
theorem dX2_takeOver_21 : decode cX2_takeOver 21 = .ok (.iastore, 1) := by decide +kernel
theorem dX2_takeOver_22 : decode cX2_takeOver 22 = .ok (.iinc 2 1, 3) := by decide +kernel
theorem dX2_takeOver_25 : decode cX2_takeOver 25 = .ok (.goto (-23), 3) := by decide +kernel
theorem dX2_takeOver_28 : decode cX2_takeOver 28 = .ok (.return_, 1) := by decide +kernel
end
section
theorem dX1_init_0 : decode cX1_init 0 = .ok (.aload_n 0, 1) := by decide +kernel
theorem dX1_init_1 : decode cX1_init 1 = .ok (.invokespecial 3, 3) := by decide +kernel
theorem dX1_init_4 : decode cX1_init 4 = .ok (.aload_n 0, 1) := by decide +kernel
theorem dX1_init_5 : decode cX1_init 5 = .ok (.bipush 7, 2) := by decide +kernel
theorem dX1_init_7 : decode cX1_init 7 = .ok (.anewarray 11, 3) := by decide +kernel
theorem dX1_init_10 : decode cX1_init 10 = .ok (.putfield 13, 3) := by decide +kernel
theorem dX1_init_13 : decode cX1_init 13 = .ok (.aload_n 0, 1) := by decide +kernel
theorem dX1_init_14 : decode cX1_init 14 = .ok (.iconst 0, 1) := by decide +kernel
theorem dX1_init_15 : decode cX1_init 15 = .ok (.putfield 17, 3) := by decide +kernel
theorem dX1_init_18 : decode cX1_init 18 = .ok (.aload_n 0, 1) := by decide +kernel
theorem dX1_init_19 : decode cX1_init 19 = .ok (.iconst 0, 1) := by decide +kernel
theorem dX1_init_20 : decode cX1_init 20 = .ok (.putfield 21, 3) := by decide +kernel
theorem dX1_init_23 : decode cX1_init 23 = .ok (.iconst 0, 1) := by decide +kernel
theorem dX1_init_24 : decode cX1_init 24 = .ok (.istore_n 1, 1) := by decide +kernel
theorem dX1_init_25 : decode cX1_init 25 = .ok (.iload_n 1, 1) := by decide +kernel
theorem dX1_init_26 : decode cX1_init 26 = .ok (.aload_n 0, 1) := by decide +kernel
theorem dX1_init_27 : decode cX1_init 27 = .ok (.getfield 13, 3) := by decide +kernel
theorem dX1_init_30 : decode cX1_init 30 = .ok (.arraylength, 1) := by decide +kernel
theorem dX1_init_31 : decode cX1_init 31 = .ok (.if_icmp .ge 22, 3) := by decide +kernel
theorem dX1_init_34 : decode cX1_init 34 = .ok (.aload_n 0, 1) := by decide +kernel
theorem dX1_init_35 : decode cX1_init 35 = .ok (.getfield 13, 3) := by decide +kernel
theorem dX1_init_38 : decode cX1_init 38 = .ok (.iload_n 1, 1) := by decide +kernel
theorem dX1_init_39 : decode cX1_init 39 = .ok (.new 11, 3) := by decide +kernel
theorem dX1_init_42 : decode cX1_init 42 = .ok (.dup, 1) := by decide +kernel
theorem dX1_init_43 : decode cX1_init 43 = .ok (.invokespecial 24, 3) := by decide +kernel
theorem dX1_init_46 : decode cX1_init 46 = .ok (.aastore, 1) := by decide +kernel
theorem dX1_init_47 : decode cX1_init 47 = .ok (.iinc 1 1, 3) := by decide +kernel
theorem dX1_init_50 : decode cX1_init 50 = .ok (.goto (-25), 3) := by decide +kernel
theorem dX1_init_53 : decode cX1_init 53 = .ok (.return_, 1) := by decide +kernel
theorem dX1_slot_0 : decode cX1_slot 0 = .ok (.iload_n 1, 1) := by decide +kernel
theorem dX1_slot_1 : decode cX1_slot 1 = .ok (.ifCond .lt 21, 3) := by decide +kernel
theorem dX1_slot_4 : decode cX1_slot 4 = .ok (.iload_n 1, 1) := by decide +kernel
theorem dX1_slot_5 : decode cX1_slot 5 = .ok (.aload_n 0, 1) := by decide +kernel
theorem dX1_slot_6 : decode cX1_slot 6 = .ok (.getfield 13, 3) := by decide +kernel
theorem dX1_slot_9 : decode cX1_slot 9 = .ok (.arraylength, 1) := by decide +kernel
theorem dX1_slot_10 : decode cX1_slot 10 = .ok (.if_icmp .ge 12, 3) := by decide +kernel
theorem dX1_slot_13 : decode cX1_slot 13 = .ok (.aload_n 0, 1) := by decide +kernel
theorem dX1_slot_14 : decode cX1_slot 14 = .ok (.getfield 13, 3) := by decide +kernel
theorem dX1_slot_17 : decode cX1_slot 17 = .ok (.iload_n 1, 1) := by decide +kernel
theorem dX1_slot_18 : decode cX1_slot 18 = .ok (.aaload, 1) := by decide +kernel
theorem dX1_slot_19 : decode cX1_slot 19 = .ok (.goto 4, 3) := by decide +kernel
theorem dX1_slot_22 : decode cX1_slot 22 = .ok (.aconst_null, 1) := by decide +kernel
theorem dX1_slot_23 : decode cX1_slot 23 = .ok (.areturn, 1) := by decide +kernel
theorem dX1_draft_0 : decode cX1_draft 0 = .ok (.aload_n 0, 1) := by decide +kernel
theorem dX1_draft_1 : decode cX1_draft 1 = .ok (.aload_n 0, 1) := by decide +kernel
theorem dX1_draft_2 : decode cX1_draft 2 = .ok (.getfield 17, 3) := by decide +kernel
theorem dX1_draft_5 : decode cX1_draft 5 = .ok (.invokevirtual 25, 3) := by decide +kernel
theorem dX1_draft_8 : decode cX1_draft 8 = .ok (.astore_n 2, 1) := by decide +kernel
theorem dX1_draft_9 : decode cX1_draft 9 = .ok (.aload_n 2, 1) := by decide +kernel
theorem dX1_draft_10 : decode cX1_draft 10 = .ok (.ifnull 8, 3) := by decide +kernel
theorem dX1_draft_13 : decode cX1_draft 13 = .ok (.aload_n 2, 1) := by decide +kernel
theorem dX1_draft_14 : decode cX1_draft 14 = .ok (.aload_n 1, 1) := by decide +kernel
theorem dX1_draft_15 : decode cX1_draft 15 = .ok (.invokevirtual 29, 3) := by decide +kernel
theorem dX1_draft_18 : decode cX1_draft 18 = .ok (.return_, 1) := by decide +kernel
theorem dX1_keep_0 : decode cX1_keep 0 = .ok (.iload_n 1, 1) := by decide +kernel
theorem dX1_keep_1 : decode cX1_keep 1 = .ok (.ifCond .lt 31, 3) := by decide +kernel
theorem dX1_keep_4 : decode cX1_keep 4 = .ok (.aload_n 0, 1) := by decide +kernel
theorem dX1_keep_5 : decode cX1_keep 5 = .ok (.aload_n 0, 1) := by decide +kernel
theorem dX1_keep_6 : decode cX1_keep 6 = .ok (.getfield 17, 3) := by decide +kernel
theorem dX1_keep_9 : decode cX1_keep 9 = .ok (.iconst 1, 1) := by decide +kernel
theorem dX1_keep_10 : decode cX1_keep 10 = .ok (.iadd, 1) := by decide +kernel
theorem dX1_keep_11 : decode cX1_keep 11 = .ok (.bipush 7, 2) := by decide +kernel
theorem dX1_keep_13 : decode cX1_keep 13 = .ok (.irem, 1) := by decide +kernel
theorem dX1_keep_14 : decode cX1_keep 14 = .ok (.putfield 17, 3) := by decide +kernel
theorem dX1_keep_17 : decode cX1_keep 17 = .ok (.aload_n 0, 1) := by decide +kernel
theorem dX1_keep_18 : decode cX1_keep 18 = .ok (.aload_n 0, 1) := by decide +kernel
theorem dX1_keep_19 : decode cX1_keep 19 = .ok (.getfield 21, 3) := by decide +kernel
theorem dX1_keep_22 : decode cX1_keep 22 = .ok (.iconst 1, 1) := by decide +kernel
theorem dX1_keep_23 : decode cX1_keep 23 = .ok (.iadd, 1) := by decide +kernel
theorem dX1_keep_24 : decode cX1_keep 24 = .ok (.bipush 6, 2) := by decide +kernel
theorem dX1_keep_26 : decode cX1_keep 26 = .ok (.invokestatic 33, 3) := by decide +kernel
theorem dX1_keep_29 : decode cX1_keep 29 = .ok (.putfield 21, 3) := by decide +kernel
theorem dX1_keep_32 : decode cX1_keep 32 = .ok (.iload_n 1, 1) := by decide +kernel
theorem dX1_keep_33 : decode cX1_keep 33 = .ok (.ireturn, 1) := by decide +kernel
theorem dX1_bringBack_0 : decode cX1_bringBack 0 = .ok (.aload_n 0, 1) := by decide +kernel
theorem dX1_bringBack_1 : decode cX1_bringBack 1 = .ok (.getfield 17, 3) := by decide +kernel
theorem dX1_bringBack_4 : decode cX1_bringBack 4 = .ok (.bipush 7, 2) := by decide +kernel
theorem dX1_bringBack_6 : decode cX1_bringBack 6 = .ok (.iadd, 1) := by decide +kernel
theorem dX1_bringBack_7 : decode cX1_bringBack 7 = .ok (.iconst 1, 1) := by decide +kernel
theorem dX1_bringBack_8 : decode cX1_bringBack 8 = .ok (.isub, 1) := by decide +kernel
theorem dX1_bringBack_9 : decode cX1_bringBack 9 = .ok (.bipush 7, 2) := by decide +kernel
theorem dX1_bringBack_11 : decode cX1_bringBack 11 = .ok (.irem, 1) := by decide +kernel
theorem dX1_bringBack_12 : decode cX1_bringBack 12 = .ok (.istore_n 2, 1) := by decide +kernel
theorem dX1_bringBack_13 : decode cX1_bringBack 13 = .ok (.aload_n 0, 1) := by decide +kernel
theorem dX1_bringBack_14 : decode cX1_bringBack 14 = .ok (.iload_n 2, 1) := by decide +kernel
theorem dX1_bringBack_15 : decode cX1_bringBack 15 = .ok (.invokevirtual 25, 3) := by decide +kernel
theorem dX1_bringBack_18 : decode cX1_bringBack 18 = .ok (.astore_n 3, 1) := by decide +kernel
theorem dX1_bringBack_19 : decode cX1_bringBack 19 = .ok (.aload_n 0, 1) := by decide +kernel
theorem dX1_bringBack_20 : decode cX1_bringBack 20 = .ok (.getfield 21, 3) := by decide +kernel
theorem dX1_bringBack_23 : decode cX1_bringBack 23 = .ok (.ifCond .eq 7, 3) := by decide +kernel
theorem dX1_bringBack_26 : decode cX1_bringBack 26 = .ok (.aload_n 3, 1) := by decide +kernel
theorem dX1_bringBack_27 : decode cX1_bringBack 27 = .ok (.ifnonnull 6, 3) := by decide +kernel
theorem dX1_bringBack_30 : decode cX1_bringBack 30 = .ok (.bipush (-3), 2) := by decide +kernel
theorem dX1_bringBack_32 : decode cX1_bringBack 32 = .ok (.ireturn, 1) := by decide +kernel
theorem dX1_bringBack_33 : decode cX1_bringBack 33 = .ok (.aload_n 1, 1) := by decide +kernel
theorem dX1_bringBack_34 : decode cX1_bringBack 34 = .ok (.aload_n 3, 1) := by decide +kernel
theorem dX1_bringBack_35 : decode cX1_bringBack 35 = .ok (.invokevirtual 29, 3) := by decide +kernel
theorem dX1_bringBack_38 : decode cX1_bringBack 38 = .ok (.aload_n 0, 1) := by decide +kernel
theorem dX1_bringBack_39 : decode cX1_bringBack 39 = .ok (.iload_n 2, 1) := by decide +kernel
theorem dX1_bringBack_40 : decode cX1_bringBack 40 = .ok (.putfield 17, 3) := by decide +kernel
theorem dX1_bringBack_43 : decode cX1_bringBack 43 = .ok (.aload_n 0, 1) := by decide +kernel
theorem dX1_bringBack_44 : decode cX1_bringBack 44 = .ok (.dup, 1) := by decide +kernel
theorem dX1_bringBack_45 : decode cX1_bringBack 45 = .ok (.getfield 21, 3) := by decide +kernel
theorem dX1_bringBack_48 : decode cX1_bringBack 48 = .ok (.iconst 1, 1) := by decide +kernel
theorem dX1_bringBack_49 : decode cX1_bringBack 49 = .ok (.isub, 1) := by decide +kernel
theorem dX1_bringBack_50 : decode cX1_bringBack 50 = .ok (.putfield 21, 3) := by decide +kernel
theorem dX1_bringBack_53 : decode cX1_bringBack 53 = .ok (.aload_n 0, 1) := by decide +kernel
theorem dX1_bringBack_54 : decode cX1_bringBack 54 = .ok (.getfield 21, 3) := by decide +kernel
theorem dX1_bringBack_57 : decode cX1_bringBack 57 = .ok (.ireturn, 1) := by decide +kernel
theorem dX3_init_0 : decode cX3_init 0 = .ok (.aload_n 0, 1) := by decide +kernel
theorem dX3_init_1 : decode cX3_init 1 = .ok (.invokespecial 3, 3) := by decide +kernel
theorem dX3_init_4 : decode cX3_init 4 = .ok (.aload_n 0, 1) := by decide +kernel
theorem dX3_init_5 : decode cX3_init 5 = .ok (.new 9, 3) := by decide +kernel
theorem dX3_init_8 : decode cX3_init 8 = .ok (.dup, 1) := by decide +kernel
theorem dX3_init_9 : decode cX3_init 9 = .ok (.bipush 80, 2) := by decide +kernel
theorem dX3_init_11 : decode cX3_init 11 = .ok (.invokespecial 11, 3) := by decide +kernel
theorem dX3_init_14 : decode cX3_init 14 = .ok (.putfield 14, 3) := by decide +kernel
theorem dX3_init_17 : decode cX3_init 17 = .ok (.aload_n 0, 1) := by decide +kernel
theorem dX3_init_18 : decode cX3_init 18 = .ok (.new 9, 3) := by decide +kernel
theorem dX3_init_21 : decode cX3_init 21 = .ok (.dup, 1) := by decide +kernel
theorem dX3_init_22 : decode cX3_init 22 = .ok (.bipush 40, 2) := by decide +kernel
theorem dX3_init_24 : decode cX3_init 24 = .ok (.invokespecial 11, 3) := by decide +kernel
theorem dX3_init_27 : decode cX3_init 27 = .ok (.putfield 20, 3) := by decide +kernel
theorem dX3_init_30 : decode cX3_init 30 = .ok (.aload_n 0, 1) := by decide +kernel
theorem dX3_init_31 : decode cX3_init 31 = .ok (.new 9, 3) := by decide +kernel
theorem dX3_init_34 : decode cX3_init 34 = .ok (.dup, 1) := by decide +kernel
theorem dX3_init_35 : decode cX3_init 35 = .ok (.bipush 40, 2) := by decide +kernel
theorem dX3_init_37 : decode cX3_init 37 = .ok (.invokespecial 11, 3) := by decide +kernel
theorem dX3_init_40 : decode cX3_init 40 = .ok (.putfield 23, 3) := by decide +kernel
theorem dX3_init_43 : decode cX3_init 43 = .ok (.aload_n 0, 1) := by decide +kernel
theorem dX3_init_44 : decode cX3_init 44 = .ok (.new 9, 3) := by decide +kernel
theorem dX3_init_47 : decode cX3_init 47 = .ok (.dup, 1) := by decide +kernel
theorem dX3_init_48 : decode cX3_init 48 = .ok (.bipush 40, 2) := by decide +kernel
theorem dX3_init_50 : decode cX3_init 50 = .ok (.invokespecial 11, 3) := by decide +kernel
theorem dX3_init_53 : decode cX3_init 53 = .ok (.putfield 26, 3) := by decide +kernel
theorem dX3_init_56 : decode cX3_init 56 = .ok (.aload_n 0, 1) := by decide +kernel
theorem dX3_init_57 : decode cX3_init 57 = .ok (.iconst 0, 1) := by decide +kernel
theorem dX3_init_58 : decode cX3_init 58 = .ok (.putfield 29, 3) := by decide +kernel
theorem dX3_init_61 : decode cX3_init 61 = .ok (.return_, 1) := by decide +kernel
theorem dX3_append_0 : decode cX3_append 0 = .ok (.iload_n 1, 1) := by decide +kernel
theorem dX3_append_1 : decode cX3_append 1 = .ok (.bipush 33, 2) := by decide +kernel
theorem dX3_append_3 : decode cX3_append 3 = .ok (.if_icmp .lt 9, 3) := by decide +kernel
theorem dX3_append_6 : decode cX3_append 6 = .ok (.iload_n 1, 1) := by decide +kernel
theorem dX3_append_7 : decode cX3_append 7 = .ok (.bipush 126, 2) := by decide +kernel
theorem dX3_append_9 : decode cX3_append 9 = .ok (.if_icmp .le 6, 3) := by decide +kernel
theorem dX3_append_12 : decode cX3_append 12 = .ok (.bipush (-2), 2) := by decide +kernel
theorem dX3_append_14 : decode cX3_append 14 = .ok (.ireturn, 1) := by decide +kernel
theorem dX3_append_15 : decode cX3_append 15 = .ok (.aload_n 0, 1) := by decide +kernel
theorem dX3_append_16 : decode cX3_append 16 = .ok (.getfield 29, 3) := by decide +kernel
theorem dX3_append_19 : decode cX3_append 19 = .ok (.bipush 80, 2) := by decide +kernel
theorem dX3_append_21 : decode cX3_append 21 = .ok (.if_icmp .lt 6, 3) := by decide +kernel
theorem dX3_append_24 : decode cX3_append 24 = .ok (.bipush (-4), 2) := by decide +kernel
theorem dX3_append_26 : decode cX3_append 26 = .ok (.ireturn, 1) := by decide +kernel
theorem dX3_append_27 : decode cX3_append 27 = .ok (.aload_n 0, 1) := by decide +kernel
theorem dX3_append_28 : decode cX3_append 28 = .ok (.getfield 14, 3) := by decide +kernel
theorem dX3_append_31 : decode cX3_append 31 = .ok (.aload_n 0, 1) := by decide +kernel
theorem dX3_append_32 : decode cX3_append 32 = .ok (.getfield 29, 3) := by decide +kernel
theorem dX3_append_35 : decode cX3_append 35 = .ok (.iload_n 1, 1) := by decide +kernel
theorem dX3_append_36 : decode cX3_append 36 = .ok (.invokevirtual 33, 3) := by decide +kernel
theorem dX3_append_39 : decode cX3_append 39 = .ok (.aload_n 0, 1) := by decide +kernel
theorem dX3_append_40 : decode cX3_append 40 = .ok (.dup, 1) := by decide +kernel
theorem dX3_append_41 : decode cX3_append 41 = .ok (.getfield 29, 3) := by decide +kernel
theorem dX3_append_44 : decode cX3_append 44 = .ok (.iconst 1, 1) := by decide +kernel
theorem dX3_append_45 : decode cX3_append 45 = .ok (.iadd, 1) := by decide +kernel
theorem dX3_append_46 : decode cX3_append 46 = .ok (.putfield 29, 3) := by decide +kernel
theorem dX3_append_49 : decode cX3_append 49 = .ok (.aload_n 0, 1) := by decide +kernel
theorem dX3_append_50 : decode cX3_append 50 = .ok (.getfield 29, 3) := by decide +kernel
theorem dX3_append_53 : decode cX3_append 53 = .ok (.ireturn, 1) := by decide +kernel
theorem dX3_empty_0 : decode cX3_empty 0 = .ok (.aload_n 0, 1) := by decide +kernel
theorem dX3_empty_1 : decode cX3_empty 1 = .ok (.getfield 29, 3) := by decide +kernel
theorem dX3_empty_4 : decode cX3_empty 4 = .ok (.istore_n 1, 1) := by decide +kernel
theorem dX3_empty_5 : decode cX3_empty 5 = .ok (.aload_n 0, 1) := by decide +kernel
theorem dX3_empty_6 : decode cX3_empty 6 = .ok (.iconst 0, 1) := by decide +kernel
theorem dX3_empty_7 : decode cX3_empty 7 = .ok (.putfield 29, 3) := by decide +kernel
theorem dX3_empty_10 : decode cX3_empty 10 = .ok (.iload_n 1, 1) := by decide +kernel
theorem dX3_empty_11 : decode cX3_empty 11 = .ok (.ireturn, 1) := by decide +kernel
theorem dX3_firstError_0 : decode cX3_firstError 0 = .ok (.iconst 0, 1) := by decide +kernel
theorem dX3_firstError_1 : decode cX3_firstError 1 = .ok (.istore_n 1, 1) := by decide +kernel
theorem dX3_firstError_2 : decode cX3_firstError 2 = .ok (.iconst 0, 1) := by decide +kernel
theorem dX3_firstError_3 : decode cX3_firstError 3 = .ok (.istore_n 2, 1) := by decide +kernel
theorem dX3_firstError_4 : decode cX3_firstError 4 = .ok (.iload_n 2, 1) := by decide +kernel
theorem dX3_firstError_5 : decode cX3_firstError 5 = .ok (.aload_n 0, 1) := by decide +kernel
theorem dX3_firstError_6 : decode cX3_firstError 6 = .ok (.getfield 29, 3) := by decide +kernel
theorem dX3_firstError_9 : decode cX3_firstError 9 = .ok (.if_icmp .ge 29, 3) := by decide +kernel
theorem dX3_firstError_12 : decode cX3_firstError 12 = .ok (.iload_n 1, 1) := by decide +kernel
theorem dX3_firstError_13 : decode cX3_firstError 13 = .ok (.aload_n 0, 1) := by decide +kernel
theorem dX3_firstError_14 : decode cX3_firstError 14 = .ok (.getfield 14, 3) := by decide +kernel
theorem dX3_firstError_17 : decode cX3_firstError 17 = .ok (.iload_n 2, 1) := by decide +kernel
theorem dX3_firstError_18 : decode cX3_firstError 18 = .ok (.invokevirtual 37, 3) := by decide +kernel
theorem dX3_firstError_21 : decode cX3_firstError 21 = .ok (.invokestatic 41, 3) := by decide +kernel
theorem dX3_firstError_24 : decode cX3_firstError 24 = .ok (.istore_n 1, 1) := by decide +kernel
theorem dX3_firstError_25 : decode cX3_firstError 25 = .ok (.iload_n 1, 1) := by decide +kernel
theorem dX3_firstError_26 : decode cX3_firstError 26 = .ok (.iconst (-1), 1) := by decide +kernel
theorem dX3_firstError_27 : decode cX3_firstError 27 = .ok (.if_icmp .ne 5, 3) := by decide +kernel
theorem dX3_firstError_30 : decode cX3_firstError 30 = .ok (.iload_n 2, 1) := by decide +kernel
theorem dX3_firstError_31 : decode cX3_firstError 31 = .ok (.ireturn, 1) := by decide +kernel
theorem dX3_firstError_32 : decode cX3_firstError 32 = .ok (.iinc 2 1, 3) := by decide +kernel
theorem dX3_firstError_35 : decode cX3_firstError 35 = .ok (.goto (-31), 3) := by decide +kernel
theorem dX3_firstError_38 : decode cX3_firstError 38 = .ok (.iload_n 1, 1) := by decide +kernel
theorem dX3_firstError_39 : decode cX3_firstError 39 = .ok (.iconst 1, 1) := by decide +kernel
theorem dX3_firstError_40 : decode cX3_firstError 40 = .ok (.if_icmp .eq 9, 3) := by decide +kernel
theorem dX3_firstError_43 : decode cX3_firstError 43 = .ok (.iload_n 1, 1) := by decide +kernel
theorem dX3_firstError_44 : decode cX3_firstError 44 = .ok (.bipush 20, 2) := by decide +kernel
theorem dX3_firstError_46 : decode cX3_firstError 46 = .ok (.if_icmp .le 7, 3) := by decide +kernel
theorem dX3_firstError_49 : decode cX3_firstError 49 = .ok (.iconst 1, 1) := by decide +kernel
theorem dX3_firstError_50 : decode cX3_firstError 50 = .ok (.goto 4, 3) := by decide +kernel
theorem dX3_firstError_53 : decode cX3_firstError 53 = .ok (.iconst 0, 1) := by decide +kernel
theorem dX3_firstError_54 : decode cX3_firstError 54 = .ok (.istore_n 2, 1) := by decide +kernel
theorem dX3_firstError_55 : decode cX3_firstError 55 = .ok (.iload_n 2, 1) := by decide +kernel
theorem dX3_firstError_56 : decode cX3_firstError 56 = .ok (.ifCond .eq 8, 3) := by decide +kernel
theorem dX3_firstError_59 : decode cX3_firstError 59 = .ok (.bipush (-6), 2) := by decide +kernel
theorem dX3_firstError_61 : decode cX3_firstError 61 = .ok (.goto 7, 3) := by decide +kernel
theorem dX3_firstError_64 : decode cX3_firstError 64 = .ok (.aload_n 0, 1) := by decide +kernel
theorem dX3_firstError_65 : decode cX3_firstError 65 = .ok (.getfield 29, 3) := by decide +kernel
theorem dX3_firstError_68 : decode cX3_firstError 68 = .ok (.ireturn, 1) := by decide +kernel
theorem dX3_placeBehind_0 : decode cX3_placeBehind 0 = .ok (.iload_n 0, 1) := by decide +kernel
theorem dX3_placeBehind_1 : decode cX3_placeBehind 1 = .ok (.ifCond .ne 8, 3) := by decide +kernel
theorem dX3_placeBehind_4 : decode cX3_placeBehind 4 = .ok (.iload_n 1, 1) := by decide +kernel
theorem dX3_placeBehind_5 : decode cX3_placeBehind 5 = .ok (.invokestatic 45, 3) := by decide +kernel
theorem dX3_placeBehind_8 : decode cX3_placeBehind 8 = .ok (.ireturn, 1) := by decide +kernel
theorem dX3_placeBehind_9 : decode cX3_placeBehind 9 = .ok (.iload_n 0, 1) := by decide +kernel
theorem dX3_placeBehind_10 : decode cX3_placeBehind 10 = .ok (.iconst 1, 1) := by decide +kernel
theorem dX3_placeBehind_11 : decode cX3_placeBehind 11 = .ok (.if_icmp .ne 15, 3) := by decide +kernel
theorem dX3_placeBehind_14 : decode cX3_placeBehind 14 = .ok (.iload_n 1, 1) := by decide +kernel
theorem dX3_placeBehind_15 : decode cX3_placeBehind 15 = .ok (.bipush 59, 2) := by decide +kernel
theorem dX3_placeBehind_17 : decode cX3_placeBehind 17 = .ok (.if_icmp .ne 7, 3) := by decide +kernel
theorem dX3_placeBehind_20 : decode cX3_placeBehind 20 = .ok (.iconst 0, 1) := by decide +kernel
theorem dX3_placeBehind_21 : decode cX3_placeBehind 21 = .ok (.goto 4, 3) := by decide +kernel
theorem dX3_placeBehind_24 : decode cX3_placeBehind 24 = .ok (.iconst (-1), 1) := by decide +kernel
theorem dX3_placeBehind_25 : decode cX3_placeBehind 25 = .ok (.ireturn, 1) := by decide +kernel
theorem dX3_placeBehind_26 : decode cX3_placeBehind 26 = .ok (.iload_n 0, 1) := by decide +kernel
theorem dX3_placeBehind_27 : decode cX3_placeBehind 27 = .ok (.bipush 20, 2) := by decide +kernel
theorem dX3_placeBehind_29 : decode cX3_placeBehind 29 = .ok (.if_icmp .ge 8, 3) := by decide +kernel
theorem dX3_placeBehind_32 : decode cX3_placeBehind 32 = .ok (.bipush 10, 2) := by decide +kernel
theorem dX3_placeBehind_34 : decode cX3_placeBehind 34 = .ok (.goto 5, 3) := by decide +kernel
theorem dX3_placeBehind_37 : decode cX3_placeBehind 37 = .ok (.bipush 20, 2) := by decide +kernel
theorem dX3_placeBehind_39 : decode cX3_placeBehind 39 = .ok (.istore_n 2, 1) := by decide +kernel
theorem dX3_placeBehind_40 : decode cX3_placeBehind 40 = .ok (.iload_n 1, 1) := by decide +kernel
theorem dX3_placeBehind_41 : decode cX3_placeBehind 41 = .ok (.invokestatic 48, 3) := by decide +kernel
theorem dX3_placeBehind_44 : decode cX3_placeBehind 44 = .ok (.ifCond .eq 18, 3) := by decide +kernel
theorem dX3_placeBehind_47 : decode cX3_placeBehind 47 = .ok (.iload_n 0, 1) := by decide +kernel
theorem dX3_placeBehind_48 : decode cX3_placeBehind 48 = .ok (.iload_n 2, 1) := by decide +kernel
theorem dX3_placeBehind_49 : decode cX3_placeBehind 49 = .ok (.iconst 5, 1) := by decide +kernel
theorem dX3_placeBehind_50 : decode cX3_placeBehind 50 = .ok (.iadd, 1) := by decide +kernel
theorem dX3_placeBehind_51 : decode cX3_placeBehind 51 = .ok (.if_icmp .ge 9, 3) := by decide +kernel
theorem dX3_placeBehind_54 : decode cX3_placeBehind 54 = .ok (.iload_n 0, 1) := by decide +kernel
theorem dX3_placeBehind_55 : decode cX3_placeBehind 55 = .ok (.iconst 1, 1) := by decide +kernel
theorem dX3_placeBehind_56 : decode cX3_placeBehind 56 = .ok (.iadd, 1) := by decide +kernel
theorem dX3_placeBehind_57 : decode cX3_placeBehind 57 = .ok (.goto 4, 3) := by decide +kernel
theorem dX3_placeBehind_60 : decode cX3_placeBehind 60 = .ok (.iconst (-1), 1) := by decide +kernel
theorem dX3_placeBehind_61 : decode cX3_placeBehind 61 = .ok (.ireturn, 1) := by decide +kernel
theorem dX3_placeBehind_62 : decode cX3_placeBehind 62 = .ok (.iload_n 0, 1) := by decide +kernel
theorem dX3_placeBehind_63 : decode cX3_placeBehind 63 = .ok (.iload_n 2, 1) := by decide +kernel
theorem dX3_placeBehind_64 : decode cX3_placeBehind 64 = .ok (.if_icmp .ne 5, 3) := by decide +kernel
theorem dX3_placeBehind_67 : decode cX3_placeBehind 67 = .ok (.iconst (-1), 1) := by decide +kernel
theorem dX3_placeBehind_68 : decode cX3_placeBehind 68 = .ok (.ireturn, 1) := by decide +kernel
theorem dX3_placeBehind_69 : decode cX3_placeBehind 69 = .ok (.iload_n 2, 1) := by decide +kernel
theorem dX3_placeBehind_70 : decode cX3_placeBehind 70 = .ok (.bipush 10, 2) := by decide +kernel
theorem dX3_placeBehind_72 : decode cX3_placeBehind 72 = .ok (.if_icmp .ne 16, 3) := by decide +kernel
theorem dX3_placeBehind_75 : decode cX3_placeBehind 75 = .ok (.iload_n 1, 1) := by decide +kernel
theorem dX3_placeBehind_76 : decode cX3_placeBehind 76 = .ok (.bipush 61, 2) := by decide +kernel
theorem dX3_placeBehind_78 : decode cX3_placeBehind 78 = .ok (.if_icmp .ne 8, 3) := by decide +kernel
theorem dX3_placeBehind_81 : decode cX3_placeBehind 81 = .ok (.bipush 20, 2) := by decide +kernel
theorem dX3_placeBehind_83 : decode cX3_placeBehind 83 = .ok (.goto 4, 3) := by decide +kernel
theorem dX3_placeBehind_86 : decode cX3_placeBehind 86 = .ok (.iconst (-1), 1) := by decide +kernel
theorem dX3_placeBehind_87 : decode cX3_placeBehind 87 = .ok (.ireturn, 1) := by decide +kernel
theorem dX3_placeBehind_88 : decode cX3_placeBehind 88 = .ok (.iload_n 1, 1) := by decide +kernel
theorem dX3_placeBehind_89 : decode cX3_placeBehind 89 = .ok (.bipush 59, 2) := by decide +kernel
theorem dX3_placeBehind_91 : decode cX3_placeBehind 91 = .ok (.if_icmp .ne 7, 3) := by decide +kernel
theorem dX3_placeBehind_94 : decode cX3_placeBehind 94 = .ok (.iconst 0, 1) := by decide +kernel
theorem dX3_placeBehind_95 : decode cX3_placeBehind 95 = .ok (.goto 4, 3) := by decide +kernel
theorem dX3_placeBehind_98 : decode cX3_placeBehind 98 = .ok (.iconst (-1), 1) := by decide +kernel
theorem dX3_placeBehind_99 : decode cX3_placeBehind 99 = .ok (.ireturn, 1) := by decide +kernel
theorem dX3_placeBehindLetter_0 : decode cX3_placeBehindLetter 0 = .ok (.iload_n 0, 1) := by decide +kernel
theorem dX3_placeBehindLetter_1 : decode cX3_placeBehindLetter 1 = .ok (.lookupswitch 59 #[(98, 57), (102, 57), (115, 54), (119, 51), (120, 57)], 51) := by decide +kernel
theorem dX3_placeBehindLetter_52 : decode cX3_placeBehindLetter 52 = .ok (.bipush 10, 2) := by decide +kernel
theorem dX3_placeBehindLetter_54 : decode cX3_placeBehindLetter 54 = .ok (.ireturn, 1) := by decide +kernel
theorem dX3_placeBehindLetter_55 : decode cX3_placeBehindLetter 55 = .ok (.bipush 20, 2) := by decide +kernel
theorem dX3_placeBehindLetter_57 : decode cX3_placeBehindLetter 57 = .ok (.ireturn, 1) := by decide +kernel
theorem dX3_placeBehindLetter_58 : decode cX3_placeBehindLetter 58 = .ok (.iconst 1, 1) := by decide +kernel
theorem dX3_placeBehindLetter_59 : decode cX3_placeBehindLetter 59 = .ok (.ireturn, 1) := by decide +kernel
theorem dX3_placeBehindLetter_60 : decode cX3_placeBehindLetter 60 = .ok (.iconst (-1), 1) := by decide +kernel
theorem dX3_placeBehindLetter_61 : decode cX3_placeBehindLetter 61 = .ok (.ireturn, 1) := by decide +kernel
theorem dX3_isDigit_0 : decode cX3_isDigit 0 = .ok (.iload_n 0, 1) := by decide +kernel
theorem dX3_isDigit_1 : decode cX3_isDigit 1 = .ok (.bipush 48, 2) := by decide +kernel
theorem dX3_isDigit_3 : decode cX3_isDigit 3 = .ok (.if_icmp .lt 13, 3) := by decide +kernel
theorem dX3_isDigit_6 : decode cX3_isDigit 6 = .ok (.iload_n 0, 1) := by decide +kernel
theorem dX3_isDigit_7 : decode cX3_isDigit 7 = .ok (.bipush 57, 2) := by decide +kernel
theorem dX3_isDigit_9 : decode cX3_isDigit 9 = .ok (.if_icmp .gt 7, 3) := by decide +kernel
theorem dX3_isDigit_12 : decode cX3_isDigit 12 = .ok (.iconst 1, 1) := by decide +kernel
theorem dX3_isDigit_13 : decode cX3_isDigit 13 = .ok (.goto 4, 3) := by decide +kernel
theorem dX3_isDigit_16 : decode cX3_isDigit 16 = .ok (.iconst 0, 1) := by decide +kernel
theorem dX3_isDigit_17 : decode cX3_isDigit 17 = .ok (.ireturn, 1) := by decide +kernel
theorem dX3_split_0 : decode cX3_split 0 = .ok (.iconst 0, 1) := by decide +kernel
theorem dX3_split_1 : decode cX3_split 1 = .ok (.istore_n 1, 1) := by decide +kernel
theorem dX3_split_2 : decode cX3_split 2 = .ok (.iconst 0, 1) := by decide +kernel
theorem dX3_split_3 : decode cX3_split 3 = .ok (.istore_n 2, 1) := by decide +kernel
theorem dX3_split_4 : decode cX3_split 4 = .ok (.iconst 0, 1) := by decide +kernel
theorem dX3_split_5 : decode cX3_split 5 = .ok (.istore_n 3, 1) := by decide +kernel
theorem dX3_split_6 : decode cX3_split 6 = .ok (.iload_n 3, 1) := by decide +kernel
theorem dX3_split_7 : decode cX3_split 7 = .ok (.aload_n 0, 1) := by decide +kernel
theorem dX3_split_8 : decode cX3_split 8 = .ok (.getfield 29, 3) := by decide +kernel
theorem dX3_split_11 : decode cX3_split 11 = .ok (.if_icmp .ge 97, 3) := by decide +kernel
theorem dX3_split_14 : decode cX3_split 14 = .ok (.aload_n 0, 1) := by decide +kernel
theorem dX3_split_15 : decode cX3_split 15 = .ok (.getfield 14, 3) := by decide +kernel
theorem dX3_split_18 : decode cX3_split 18 = .ok (.iload_n 3, 1) := by decide +kernel
theorem dX3_split_19 : decode cX3_split 19 = .ok (.invokevirtual 37, 3) := by decide +kernel
theorem dX3_split_22 : decode cX3_split 22 = .ok (.istore 4, 2) := by decide +kernel
theorem dX3_split_24 : decode cX3_split 24 = .ok (.iload 4, 2) := by decide +kernel
theorem dX3_split_26 : decode cX3_split 26 = .ok (.invokestatic 48, 3) := by decide +kernel
theorem dX3_split_29 : decode cX3_split 29 = .ok (.ifCond .eq 28, 3) := by decide +kernel
theorem dX3_split_32 : decode cX3_split 32 = .ok (.bipush 10, 2) := by decide +kernel
theorem dX3_split_34 : decode cX3_split 34 = .ok (.iload_n 2, 1) := by decide +kernel
theorem dX3_split_35 : decode cX3_split 35 = .ok (.imul, 1) := by decide +kernel
theorem dX3_split_36 : decode cX3_split 36 = .ok (.iload 4, 2) := by decide +kernel
theorem dX3_split_38 : decode cX3_split 38 = .ok (.iadd, 1) := by decide +kernel
theorem dX3_split_39 : decode cX3_split 39 = .ok (.bipush 48, 2) := by decide +kernel
theorem dX3_split_41 : decode cX3_split 41 = .ok (.isub, 1) := by decide +kernel
theorem dX3_split_42 : decode cX3_split 42 = .ok (.istore_n 2, 1) := by decide +kernel
theorem dX3_split_43 : decode cX3_split 43 = .ok (.aload_n 0, 1) := by decide +kernel
theorem dX3_split_44 : decode cX3_split 44 = .ok (.getfield 26, 3) := by decide +kernel
theorem dX3_split_47 : decode cX3_split 47 = .ok (.iload_n 1, 1) := by decide +kernel
theorem dX3_split_48 : decode cX3_split 48 = .ok (.iconst 1, 1) := by decide +kernel
theorem dX3_split_49 : decode cX3_split 49 = .ok (.isub, 1) := by decide +kernel
theorem dX3_split_50 : decode cX3_split 50 = .ok (.iload_n 2, 1) := by decide +kernel
theorem dX3_split_51 : decode cX3_split 51 = .ok (.invokevirtual 33, 3) := by decide +kernel
theorem dX3_split_54 : decode cX3_split 54 = .ok (.goto 48, 3) := by decide +kernel
theorem dX3_split_57 : decode cX3_split 57 = .ok (.iload 4, 2) := by decide +kernel
theorem dX3_split_59 : decode cX3_split 59 = .ok (.bipush 61, 2) := by decide +kernel
theorem dX3_split_61 : decode cX3_split 61 = .ok (.if_icmp .ne 19, 3) := by decide +kernel
theorem dX3_split_64 : decode cX3_split 64 = .ok (.aload_n 0, 1) := by decide +kernel
theorem dX3_split_65 : decode cX3_split 65 = .ok (.getfield 23, 3) := by decide +kernel
theorem dX3_split_68 : decode cX3_split 68 = .ok (.iload_n 1, 1) := by decide +kernel
theorem dX3_split_69 : decode cX3_split 69 = .ok (.iconst 1, 1) := by decide +kernel
theorem dX3_split_70 : decode cX3_split 70 = .ok (.isub, 1) := by decide +kernel
theorem dX3_split_71 : decode cX3_split 71 = .ok (.iload_n 2, 1) := by decide +kernel
theorem dX3_split_72 : decode cX3_split 72 = .ok (.invokevirtual 33, 3) := by decide +kernel
theorem dX3_split_75 : decode cX3_split 75 = .ok (.iconst 0, 1) := by decide +kernel
theorem dX3_split_76 : decode cX3_split 76 = .ok (.istore_n 2, 1) := by decide +kernel
theorem dX3_split_77 : decode cX3_split 77 = .ok (.goto 25, 3) := by decide +kernel
theorem dX3_split_80 : decode cX3_split 80 = .ok (.iload 4, 2) := by decide +kernel
theorem dX3_split_82 : decode cX3_split 82 = .ok (.bipush 59, 2) := by decide +kernel
theorem dX3_split_84 : decode cX3_split 84 = .ok (.if_icmp .eq 18, 3) := by decide +kernel
theorem dX3_split_87 : decode cX3_split 87 = .ok (.aload_n 0, 1) := by decide +kernel
theorem dX3_split_88 : decode cX3_split 88 = .ok (.getfield 20, 3) := by decide +kernel
theorem dX3_split_91 : decode cX3_split 91 = .ok (.iload_n 1, 1) := by decide +kernel
theorem dX3_split_92 : decode cX3_split 92 = .ok (.iload 4, 2) := by decide +kernel
theorem dX3_split_94 : decode cX3_split 94 = .ok (.invokevirtual 33, 3) := by decide +kernel
theorem dX3_split_97 : decode cX3_split 97 = .ok (.iinc 1 1, 3) := by decide +kernel
theorem dX3_split_100 : decode cX3_split 100 = .ok (.iconst 0, 1) := by decide +kernel
theorem dX3_split_101 : decode cX3_split 101 = .ok (.istore_n 2, 1) := by decide +kernel
theorem dX3_split_102 : decode cX3_split 102 = .ok (.iinc 3 1, 3) := by decide +kernel
theorem dX3_split_105 : decode cX3_split 105 = .ok (.goto (-99), 3) := by decide +kernel
theorem dX3_split_108 : decode cX3_split 108 = .ok (.iload_n 1, 1) := by decide +kernel
theorem dX3_split_109 : decode cX3_split 109 = .ok (.ireturn, 1) := by decide +kernel
theorem dX3_letter_0 : decode cX3_letter 0 = .ok (.aload_n 0, 1) := by decide +kernel
theorem dX3_letter_1 : decode cX3_letter 1 = .ok (.getfield 20, 3) := by decide +kernel
theorem dX3_letter_4 : decode cX3_letter 4 = .ok (.iload_n 1, 1) := by decide +kernel
theorem dX3_letter_5 : decode cX3_letter 5 = .ok (.invokevirtual 37, 3) := by decide +kernel
theorem dX3_letter_8 : decode cX3_letter 8 = .ok (.ireturn, 1) := by decide +kernel
theorem dX3_sector_0 : decode cX3_sector 0 = .ok (.aload_n 0, 1) := by decide +kernel
theorem dX3_sector_1 : decode cX3_sector 1 = .ok (.getfield 23, 3) := by decide +kernel
theorem dX3_sector_4 : decode cX3_sector 4 = .ok (.iload_n 1, 1) := by decide +kernel
theorem dX3_sector_5 : decode cX3_sector 5 = .ok (.invokevirtual 37, 3) := by decide +kernel
theorem dX3_sector_8 : decode cX3_sector 8 = .ok (.ireturn, 1) := by decide +kernel
theorem dX3_number_0 : decode cX3_number 0 = .ok (.aload_n 0, 1) := by decide +kernel
theorem dX3_number_1 : decode cX3_number 1 = .ok (.getfield 26, 3) := by decide +kernel
theorem dX3_number_4 : decode cX3_number 4 = .ok (.iload_n 1, 1) := by decide +kernel
theorem dX3_number_5 : decode cX3_number 5 = .ok (.invokevirtual 37, 3) := by decide +kernel
theorem dX3_number_8 : decode cX3_number 8 = .ok (.ireturn, 1) := by decide +kernel
theorem dX4_init_0 : decode cX4_init 0 = .ok (.aload_n 0, 1) := by decide +kernel
theorem dX4_init_1 : decode cX4_init 1 = .ok (.invokespecial 3, 3) := by decide +kernel
theorem dX4_init_4 : decode cX4_init 4 = .ok (.aload_n 0, 1) := by decide +kernel
theorem dX4_init_5 : decode cX4_init 5 = .ok (.new 9, 3) := by decide +kernel
theorem dX4_init_8 : decode cX4_init 8 = .ok (.dup, 1) := by decide +kernel
theorem dX4_init_9 : decode cX4_init 9 = .ok (.invokespecial 11, 3) := by decide +kernel
theorem dX4_init_12 : decode cX4_init 12 = .ok (.putfield 12, 3) := by decide +kernel
theorem dX4_init_15 : decode cX4_init 15 = .ok (.aload_n 0, 1) := by decide +kernel
theorem dX4_init_16 : decode cX4_init 16 = .ok (.new 9, 3) := by decide +kernel
theorem dX4_init_19 : decode cX4_init 19 = .ok (.dup, 1) := by decide +kernel
theorem dX4_init_20 : decode cX4_init 20 = .ok (.invokespecial 11, 3) := by decide +kernel
theorem dX4_init_23 : decode cX4_init 23 = .ok (.putfield 16, 3) := by decide +kernel
theorem dX4_init_26 : decode cX4_init 26 = .ok (.aload_n 0, 1) := by decide +kernel
theorem dX4_init_27 : decode cX4_init 27 = .ok (.new 19, 3) := by decide +kernel
theorem dX4_init_30 : decode cX4_init 30 = .ok (.dup, 1) := by decide +kernel
theorem dX4_init_31 : decode cX4_init 31 = .ok (.invokespecial 21, 3) := by decide +kernel
theorem dX4_init_34 : decode cX4_init 34 = .ok (.putfield 22, 3) := by decide +kernel
theorem dX4_init_37 : decode cX4_init 37 = .ok (.aload_n 0, 1) := by decide +kernel
theorem dX4_init_38 : decode cX4_init 38 = .ok (.new 26, 3) := by decide +kernel
theorem dX4_init_41 : decode cX4_init 41 = .ok (.dup, 1) := by decide +kernel
theorem dX4_init_42 : decode cX4_init 42 = .ok (.invokespecial 28, 3) := by decide +kernel
theorem dX4_init_45 : decode cX4_init 45 = .ok (.putfield 29, 3) := by decide +kernel
theorem dX4_init_48 : decode cX4_init 48 = .ok (.return_, 1) := by decide +kernel
theorem dX4_format_0 : decode cX4_format 0 = .ok (.aload_n 0, 1) := by decide +kernel
theorem dX4_format_1 : decode cX4_format 1 = .ok (.getfield 22, 3) := by decide +kernel
theorem dX4_format_4 : decode cX4_format 4 = .ok (.aload_n 0, 1) := by decide +kernel
theorem dX4_format_5 : decode cX4_format 5 = .ok (.getfield 12, 3) := by decide +kernel
theorem dX4_format_8 : decode cX4_format 8 = .ok (.invokevirtual 33, 3) := by decide +kernel
theorem dX4_format_11 : decode cX4_format 11 = .ok (.aload_n 0, 1) := by decide +kernel
theorem dX4_format_12 : decode cX4_format 12 = .ok (.getfield 22, 3) := by decide +kernel
theorem dX4_format_15 : decode cX4_format 15 = .ok (.aload_n 0, 1) := by decide +kernel
theorem dX4_format_16 : decode cX4_format 16 = .ok (.getfield 12, 3) := by decide +kernel
theorem dX4_format_19 : decode cX4_format 19 = .ok (.iload_n 1, 1) := by decide +kernel
theorem dX4_format_20 : decode cX4_format 20 = .ok (.invokevirtual 37, 3) := by decide +kernel
theorem dX4_format_23 : decode cX4_format 23 = .ok (.invokevirtual 41, 3) := by decide +kernel
theorem dX4_format_26 : decode cX4_format 26 = .ok (.ireturn, 1) := by decide +kernel
theorem dX4_addKey_0 : decode cX4_addKey 0 = .ok (.aload_n 0, 1) := by decide +kernel
theorem dX4_addKey_1 : decode cX4_addKey 1 = .ok (.getfield 22, 3) := by decide +kernel
theorem dX4_addKey_4 : decode cX4_addKey 4 = .ok (.aload_n 0, 1) := by decide +kernel
theorem dX4_addKey_5 : decode cX4_addKey 5 = .ok (.getfield 12, 3) := by decide +kernel
theorem dX4_addKey_8 : decode cX4_addKey 8 = .ok (.invokevirtual 33, 3) := by decide +kernel
theorem dX4_addKey_11 : decode cX4_addKey 11 = .ok (.aload_n 0, 1) := by decide +kernel
theorem dX4_addKey_12 : decode cX4_addKey 12 = .ok (.getfield 22, 3) := by decide +kernel
theorem dX4_addKey_15 : decode cX4_addKey 15 = .ok (.aload_n 0, 1) := by decide +kernel
theorem dX4_addKey_16 : decode cX4_addKey 16 = .ok (.getfield 12, 3) := by decide +kernel
theorem dX4_addKey_19 : decode cX4_addKey 19 = .ok (.iload_n 1, 1) := by decide +kernel
theorem dX4_addKey_20 : decode cX4_addKey 20 = .ok (.iload_n 2, 1) := by decide +kernel
theorem dX4_addKey_21 : decode cX4_addKey 21 = .ok (.invokevirtual 44, 3) := by decide +kernel
theorem dX4_addKey_24 : decode cX4_addKey 24 = .ok (.invokevirtual 41, 3) := by decide +kernel
theorem dX4_addKey_27 : decode cX4_addKey 27 = .ok (.ireturn, 1) := by decide +kernel
theorem dX4_removeKey_0 : decode cX4_removeKey 0 = .ok (.aload_n 0, 1) := by decide +kernel
theorem dX4_removeKey_1 : decode cX4_removeKey 1 = .ok (.getfield 22, 3) := by decide +kernel
theorem dX4_removeKey_4 : decode cX4_removeKey 4 = .ok (.aload_n 0, 1) := by decide +kernel
theorem dX4_removeKey_5 : decode cX4_removeKey 5 = .ok (.getfield 12, 3) := by decide +kernel
theorem dX4_removeKey_8 : decode cX4_removeKey 8 = .ok (.invokevirtual 33, 3) := by decide +kernel
theorem dX4_removeKey_11 : decode cX4_removeKey 11 = .ok (.aload_n 0, 1) := by decide +kernel
theorem dX4_removeKey_12 : decode cX4_removeKey 12 = .ok (.getfield 22, 3) := by decide +kernel
theorem dX4_removeKey_15 : decode cX4_removeKey 15 = .ok (.aload_n 0, 1) := by decide +kernel
theorem dX4_removeKey_16 : decode cX4_removeKey 16 = .ok (.getfield 12, 3) := by decide +kernel
theorem dX4_removeKey_19 : decode cX4_removeKey 19 = .ok (.iload_n 1, 1) := by decide +kernel
theorem dX4_removeKey_20 : decode cX4_removeKey 20 = .ok (.invokevirtual 48, 3) := by decide +kernel
theorem dX4_removeKey_23 : decode cX4_removeKey 23 = .ok (.invokevirtual 41, 3) := by decide +kernel
theorem dX4_removeKey_26 : decode cX4_removeKey 26 = .ok (.ireturn, 1) := by decide +kernel
theorem dX4_secretOf_0 : decode cX4_secretOf 0 = .ok (.aload_n 0, 1) := by decide +kernel
theorem dX4_secretOf_1 : decode cX4_secretOf 1 = .ok (.getfield 12, 3) := by decide +kernel
theorem dX4_secretOf_4 : decode cX4_secretOf 4 = .ok (.iload_n 1, 1) := by decide +kernel
theorem dX4_secretOf_5 : decode cX4_secretOf 5 = .ok (.invokevirtual 51, 3) := by decide +kernel
theorem dX4_secretOf_8 : decode cX4_secretOf 8 = .ok (.ifCond .eq 14, 3) := by decide +kernel
theorem dX4_secretOf_11 : decode cX4_secretOf 11 = .ok (.aload_n 0, 1) := by decide +kernel
theorem dX4_secretOf_12 : decode cX4_secretOf 12 = .ok (.getfield 12, 3) := by decide +kernel
theorem dX4_secretOf_15 : decode cX4_secretOf 15 = .ok (.iload_n 1, 1) := by decide +kernel
theorem dX4_secretOf_16 : decode cX4_secretOf 16 = .ok (.invokevirtual 55, 3) := by decide +kernel
theorem dX4_secretOf_19 : decode cX4_secretOf 19 = .ok (.goto 4, 3) := by decide +kernel
theorem dX4_secretOf_22 : decode cX4_secretOf 22 = .ok (.iconst (-1), 1) := by decide +kernel
theorem dX4_secretOf_23 : decode cX4_secretOf 23 = .ok (.ireturn, 1) := by decide +kernel
theorem dX4_setZone_0 : decode cX4_setZone 0 = .ok (.aload_n 0, 1) := by decide +kernel
theorem dX4_setZone_1 : decode cX4_setZone 1 = .ok (.getfield 22, 3) := by decide +kernel
theorem dX4_setZone_4 : decode cX4_setZone 4 = .ok (.aload_n 0, 1) := by decide +kernel
theorem dX4_setZone_5 : decode cX4_setZone 5 = .ok (.getfield 12, 3) := by decide +kernel
theorem dX4_setZone_8 : decode cX4_setZone 8 = .ok (.invokevirtual 33, 3) := by decide +kernel
theorem dX4_setZone_11 : decode cX4_setZone 11 = .ok (.aload_n 0, 1) := by decide +kernel
theorem dX4_setZone_12 : decode cX4_setZone 12 = .ok (.getfield 22, 3) := by decide +kernel
theorem dX4_setZone_15 : decode cX4_setZone 15 = .ok (.aload_n 0, 1) := by decide +kernel
theorem dX4_setZone_16 : decode cX4_setZone 16 = .ok (.getfield 12, 3) := by decide +kernel
theorem dX4_setZone_19 : decode cX4_setZone 19 = .ok (.iload_n 1, 1) := by decide +kernel
theorem dX4_setZone_20 : decode cX4_setZone 20 = .ok (.invokevirtual 58, 3) := by decide +kernel
theorem dX4_setZone_23 : decode cX4_setZone 23 = .ok (.invokevirtual 41, 3) := by decide +kernel
theorem dX4_setZone_26 : decode cX4_setZone 26 = .ok (.ireturn, 1) := by decide +kernel
theorem dX4_setJournal_0 : decode cX4_setJournal 0 = .ok (.aload_n 0, 1) := by decide +kernel
theorem dX4_setJournal_1 : decode cX4_setJournal 1 = .ok (.getfield 22, 3) := by decide +kernel
theorem dX4_setJournal_4 : decode cX4_setJournal 4 = .ok (.aload_n 0, 1) := by decide +kernel
theorem dX4_setJournal_5 : decode cX4_setJournal 5 = .ok (.getfield 12, 3) := by decide +kernel
theorem dX4_setJournal_8 : decode cX4_setJournal 8 = .ok (.invokevirtual 33, 3) := by decide +kernel
theorem dX4_setJournal_11 : decode cX4_setJournal 11 = .ok (.aload_n 0, 1) := by decide +kernel
theorem dX4_setJournal_12 : decode cX4_setJournal 12 = .ok (.getfield 22, 3) := by decide +kernel
theorem dX4_setJournal_15 : decode cX4_setJournal 15 = .ok (.aload_n 0, 1) := by decide +kernel
theorem dX4_setJournal_16 : decode cX4_setJournal 16 = .ok (.getfield 12, 3) := by decide +kernel
theorem dX4_setJournal_19 : decode cX4_setJournal 19 = .ok (.iload_n 1, 1) := by decide +kernel
theorem dX4_setJournal_20 : decode cX4_setJournal 20 = .ok (.invokevirtual 61, 3) := by decide +kernel
theorem dX4_setJournal_23 : decode cX4_setJournal 23 = .ok (.invokevirtual 41, 3) := by decide +kernel
theorem dX4_setJournal_26 : decode cX4_setJournal 26 = .ok (.ireturn, 1) := by decide +kernel
theorem dX4_start_0 : decode cX4_start 0 = .ok (.aload_n 0, 1) := by decide +kernel
theorem dX4_start_1 : decode cX4_start 1 = .ok (.getfield 22, 3) := by decide +kernel
theorem dX4_start_4 : decode cX4_start 4 = .ok (.aload_n 0, 1) := by decide +kernel
theorem dX4_start_5 : decode cX4_start 5 = .ok (.getfield 12, 3) := by decide +kernel
theorem dX4_start_8 : decode cX4_start 8 = .ok (.invokevirtual 33, 3) := by decide +kernel
theorem dX4_start_11 : decode cX4_start 11 = .ok (.aload_n 0, 1) := by decide +kernel
theorem dX4_start_12 : decode cX4_start 12 = .ok (.getfield 22, 3) := by decide +kernel
theorem dX4_start_15 : decode cX4_start 15 = .ok (.aload_n 0, 1) := by decide +kernel
theorem dX4_start_16 : decode cX4_start 16 = .ok (.getfield 12, 3) := by decide +kernel
theorem dX4_start_19 : decode cX4_start 19 = .ok (.iload_n 1, 1) := by decide +kernel
theorem dX4_start_20 : decode cX4_start 20 = .ok (.invokevirtual 64, 3) := by decide +kernel
theorem dX4_start_23 : decode cX4_start 23 = .ok (.invokevirtual 41, 3) := by decide +kernel
theorem dX4_start_26 : decode cX4_start 26 = .ok (.ireturn, 1) := by decide +kernel
theorem dX4_steps_0 : decode cX4_steps 0 = .ok (.aload_n 0, 1) := by decide +kernel
theorem dX4_steps_1 : decode cX4_steps 1 = .ok (.getfield 22, 3) := by decide +kernel
theorem dX4_steps_4 : decode cX4_steps 4 = .ok (.aload_n 0, 1) := by decide +kernel
theorem dX4_steps_5 : decode cX4_steps 5 = .ok (.getfield 12, 3) := by decide +kernel
theorem dX4_steps_8 : decode cX4_steps 8 = .ok (.invokevirtual 33, 3) := by decide +kernel
theorem dX4_steps_11 : decode cX4_steps 11 = .ok (.aload_n 0, 1) := by decide +kernel
theorem dX4_steps_12 : decode cX4_steps 12 = .ok (.getfield 22, 3) := by decide +kernel
theorem dX4_steps_15 : decode cX4_steps 15 = .ok (.aload_n 0, 1) := by decide +kernel
theorem dX4_steps_16 : decode cX4_steps 16 = .ok (.getfield 12, 3) := by decide +kernel
theorem dX4_steps_19 : decode cX4_steps 19 = .ok (.iload_n 1, 1) := by decide +kernel
theorem dX4_steps_20 : decode cX4_steps 20 = .ok (.invokevirtual 67, 3) := by decide +kernel
theorem dX4_steps_23 : decode cX4_steps 23 = .ok (.invokevirtual 41, 3) := by decide +kernel
theorem dX4_steps_26 : decode cX4_steps 26 = .ok (.ireturn, 1) := by decide +kernel
theorem dX4_turnBack_0 : decode cX4_turnBack 0 = .ok (.aload_n 0, 1) := by decide +kernel
theorem dX4_turnBack_1 : decode cX4_turnBack 1 = .ok (.getfield 22, 3) := by decide +kernel
theorem dX4_turnBack_4 : decode cX4_turnBack 4 = .ok (.aload_n 0, 1) := by decide +kernel
theorem dX4_turnBack_5 : decode cX4_turnBack 5 = .ok (.getfield 12, 3) := by decide +kernel
theorem dX4_turnBack_8 : decode cX4_turnBack 8 = .ok (.invokevirtual 33, 3) := by decide +kernel
theorem dX4_turnBack_11 : decode cX4_turnBack 11 = .ok (.aload_n 0, 1) := by decide +kernel
theorem dX4_turnBack_12 : decode cX4_turnBack 12 = .ok (.getfield 22, 3) := by decide +kernel
theorem dX4_turnBack_15 : decode cX4_turnBack 15 = .ok (.aload_n 0, 1) := by decide +kernel
theorem dX4_turnBack_16 : decode cX4_turnBack 16 = .ok (.getfield 12, 3) := by decide +kernel
theorem dX4_turnBack_19 : decode cX4_turnBack 19 = .ok (.invokevirtual 70, 3) := by decide +kernel
theorem dX4_turnBack_22 : decode cX4_turnBack 22 = .ok (.invokevirtual 41, 3) := by decide +kernel
theorem dX4_turnBack_25 : decode cX4_turnBack 25 = .ok (.ireturn, 1) := by decide +kernel
theorem dX4_write_0 : decode cX4_write 0 = .ok (.aload_n 0, 1) := by decide +kernel
theorem dX4_write_1 : decode cX4_write 1 = .ok (.getfield 22, 3) := by decide +kernel
theorem dX4_write_4 : decode cX4_write 4 = .ok (.aload_n 0, 1) := by decide +kernel
theorem dX4_write_5 : decode cX4_write 5 = .ok (.getfield 12, 3) := by decide +kernel
theorem dX4_write_8 : decode cX4_write 8 = .ok (.invokevirtual 33, 3) := by decide +kernel
theorem dX4_write_11 : decode cX4_write 11 = .ok (.aload_n 0, 1) := by decide +kernel
theorem dX4_write_12 : decode cX4_write 12 = .ok (.getfield 22, 3) := by decide +kernel
theorem dX4_write_15 : decode cX4_write 15 = .ok (.aload_n 0, 1) := by decide +kernel
theorem dX4_write_16 : decode cX4_write 16 = .ok (.getfield 12, 3) := by decide +kernel
theorem dX4_write_19 : decode cX4_write 19 = .ok (.iload_n 1, 1) := by decide +kernel
theorem dX4_write_20 : decode cX4_write 20 = .ok (.iload_n 2, 1) := by decide +kernel
theorem dX4_write_21 : decode cX4_write 21 = .ok (.invokevirtual 74, 3) := by decide +kernel
theorem dX4_write_24 : decode cX4_write 24 = .ok (.invokevirtual 41, 3) := by decide +kernel
theorem dX4_write_27 : decode cX4_write 27 = .ok (.ireturn, 1) := by decide +kernel
theorem dX4_flush_0 : decode cX4_flush 0 = .ok (.aload_n 0, 1) := by decide +kernel
theorem dX4_flush_1 : decode cX4_flush 1 = .ok (.getfield 22, 3) := by decide +kernel
theorem dX4_flush_4 : decode cX4_flush 4 = .ok (.aload_n 0, 1) := by decide +kernel
theorem dX4_flush_5 : decode cX4_flush 5 = .ok (.getfield 12, 3) := by decide +kernel
theorem dX4_flush_8 : decode cX4_flush 8 = .ok (.invokevirtual 33, 3) := by decide +kernel
theorem dX4_flush_11 : decode cX4_flush 11 = .ok (.aload_n 0, 1) := by decide +kernel
theorem dX4_flush_12 : decode cX4_flush 12 = .ok (.getfield 22, 3) := by decide +kernel
theorem dX4_flush_15 : decode cX4_flush 15 = .ok (.aload_n 0, 1) := by decide +kernel
theorem dX4_flush_16 : decode cX4_flush 16 = .ok (.getfield 12, 3) := by decide +kernel
theorem dX4_flush_19 : decode cX4_flush 19 = .ok (.invokevirtual 77, 3) := by decide +kernel
theorem dX4_flush_22 : decode cX4_flush 22 = .ok (.invokevirtual 41, 3) := by decide +kernel
theorem dX4_flush_25 : decode cX4_flush 25 = .ok (.ireturn, 1) := by decide +kernel
theorem dX4_fail_0 : decode cX4_fail 0 = .ok (.aload_n 0, 1) := by decide +kernel
theorem dX4_fail_1 : decode cX4_fail 1 = .ok (.getfield 22, 3) := by decide +kernel
theorem dX4_fail_4 : decode cX4_fail 4 = .ok (.aload_n 0, 1) := by decide +kernel
theorem dX4_fail_5 : decode cX4_fail 5 = .ok (.getfield 12, 3) := by decide +kernel
theorem dX4_fail_8 : decode cX4_fail 8 = .ok (.invokevirtual 33, 3) := by decide +kernel
theorem dX4_fail_11 : decode cX4_fail 11 = .ok (.aload_n 0, 1) := by decide +kernel
theorem dX4_fail_12 : decode cX4_fail 12 = .ok (.getfield 22, 3) := by decide +kernel
theorem dX4_fail_15 : decode cX4_fail 15 = .ok (.aload_n 0, 1) := by decide +kernel
theorem dX4_fail_16 : decode cX4_fail 16 = .ok (.getfield 12, 3) := by decide +kernel
theorem dX4_fail_19 : decode cX4_fail 19 = .ok (.invokevirtual 80, 3) := by decide +kernel
theorem dX4_fail_22 : decode cX4_fail 22 = .ok (.invokevirtual 41, 3) := by decide +kernel
theorem dX4_fail_25 : decode cX4_fail 25 = .ok (.ireturn, 1) := by decide +kernel
theorem dX4_count_0 : decode cX4_count 0 = .ok (.iload_n 1, 1) := by decide +kernel
theorem dX4_count_1 : decode cX4_count 1 = .ok (.ifCond .lt 9, 3) := by decide +kernel
theorem dX4_count_4 : decode cX4_count 4 = .ok (.iload_n 1, 1) := by decide +kernel
theorem dX4_count_5 : decode cX4_count 5 = .ok (.bipush 13, 2) := by decide +kernel
theorem dX4_count_7 : decode cX4_count 7 = .ok (.if_icmp .lt 6, 3) := by decide +kernel
theorem dX4_count_10 : decode cX4_count 10 = .ok (.bipush (-2), 2) := by decide +kernel
theorem dX4_count_12 : decode cX4_count 12 = .ok (.ireturn, 1) := by decide +kernel
theorem dX4_count_13 : decode cX4_count 13 = .ok (.iload_n 1, 1) := by decide +kernel
theorem dX4_count_14 : decode cX4_count 14 = .ok (.iconst 2, 1) := by decide +kernel
theorem dX4_count_15 : decode cX4_count 15 = .ok (.if_icmp .lt 19, 3) := by decide +kernel
theorem dX4_count_18 : decode cX4_count 18 = .ok (.iload_n 1, 1) := by decide +kernel
theorem dX4_count_19 : decode cX4_count 19 = .ok (.iconst 4, 1) := by decide +kernel
theorem dX4_count_20 : decode cX4_count 20 = .ok (.if_icmp .gt 14, 3) := by decide +kernel
theorem dX4_count_23 : decode cX4_count 23 = .ok (.aload_n 0, 1) := by decide +kernel
theorem dX4_count_24 : decode cX4_count 24 = .ok (.getfield 12, 3) := by decide +kernel
theorem dX4_count_27 : decode cX4_count 27 = .ok (.iload_n 1, 1) := by decide +kernel
theorem dX4_count_28 : decode cX4_count 28 = .ok (.invokevirtual 83, 3) := by decide +kernel
theorem dX4_count_31 : decode cX4_count 31 = .ok (.goto 11, 3) := by decide +kernel
theorem dX4_count_34 : decode cX4_count 34 = .ok (.aload_n 0, 1) := by decide +kernel
theorem dX4_count_35 : decode cX4_count 35 = .ok (.getfield 12, 3) := by decide +kernel
theorem dX4_count_38 : decode cX4_count 38 = .ok (.iload_n 1, 1) := by decide +kernel
theorem dX4_count_39 : decode cX4_count 39 = .ok (.invokevirtual 86, 3) := by decide +kernel
theorem dX4_count_42 : decode cX4_count 42 = .ok (.ireturn, 1) := by decide +kernel
theorem dX4_read_0 : decode cX4_read 0 = .ok (.aload_n 0, 1) := by decide +kernel
theorem dX4_read_1 : decode cX4_read 1 = .ok (.getfield 12, 3) := by decide +kernel
theorem dX4_read_4 : decode cX4_read 4 = .ok (.iload_n 1, 1) := by decide +kernel
theorem dX4_read_5 : decode cX4_read 5 = .ok (.invokevirtual 89, 3) := by decide +kernel
theorem dX4_read_8 : decode cX4_read 8 = .ok (.ifCond .eq 14, 3) := by decide +kernel
theorem dX4_read_11 : decode cX4_read 11 = .ok (.aload_n 0, 1) := by decide +kernel
theorem dX4_read_12 : decode cX4_read 12 = .ok (.getfield 12, 3) := by decide +kernel
theorem dX4_read_15 : decode cX4_read 15 = .ok (.iload_n 1, 1) := by decide +kernel
theorem dX4_read_16 : decode cX4_read 16 = .ok (.invokevirtual 92, 3) := by decide +kernel
theorem dX4_read_19 : decode cX4_read 19 = .ok (.goto 4, 3) := by decide +kernel
theorem dX4_read_22 : decode cX4_read 22 = .ok (.iconst (-1), 1) := by decide +kernel
theorem dX4_read_23 : decode cX4_read 23 = .ok (.ireturn, 1) := by decide +kernel
theorem dX4_stored_0 : decode cX4_stored 0 = .ok (.aload_n 0, 1) := by decide +kernel
theorem dX4_stored_1 : decode cX4_stored 1 = .ok (.getfield 12, 3) := by decide +kernel
theorem dX4_stored_4 : decode cX4_stored 4 = .ok (.iload_n 1, 1) := by decide +kernel
theorem dX4_stored_5 : decode cX4_stored 5 = .ok (.invokevirtual 89, 3) := by decide +kernel
theorem dX4_stored_8 : decode cX4_stored 8 = .ok (.ifCond .eq 14, 3) := by decide +kernel
theorem dX4_stored_11 : decode cX4_stored 11 = .ok (.aload_n 0, 1) := by decide +kernel
theorem dX4_stored_12 : decode cX4_stored 12 = .ok (.getfield 12, 3) := by decide +kernel
theorem dX4_stored_15 : decode cX4_stored 15 = .ok (.iload_n 1, 1) := by decide +kernel
theorem dX4_stored_16 : decode cX4_stored 16 = .ok (.invokevirtual 95, 3) := by decide +kernel
theorem dX4_stored_19 : decode cX4_stored 19 = .ok (.goto 4, 3) := by decide +kernel
theorem dX4_stored_22 : decode cX4_stored 22 = .ok (.iconst (-1), 1) := by decide +kernel
theorem dX4_stored_23 : decode cX4_stored 23 = .ok (.ireturn, 1) := by decide +kernel
theorem dX4_keyOf_0 : decode cX4_keyOf 0 = .ok (.aload_n 0, 1) := by decide +kernel
theorem dX4_keyOf_1 : decode cX4_keyOf 1 = .ok (.getfield 12, 3) := by decide +kernel
theorem dX4_keyOf_4 : decode cX4_keyOf 4 = .ok (.iload_n 1, 1) := by decide +kernel
theorem dX4_keyOf_5 : decode cX4_keyOf 5 = .ok (.invokevirtual 89, 3) := by decide +kernel
theorem dX4_keyOf_8 : decode cX4_keyOf 8 = .ok (.ifCond .eq 14, 3) := by decide +kernel
theorem dX4_keyOf_11 : decode cX4_keyOf 11 = .ok (.aload_n 0, 1) := by decide +kernel
theorem dX4_keyOf_12 : decode cX4_keyOf 12 = .ok (.getfield 12, 3) := by decide +kernel
theorem dX4_keyOf_15 : decode cX4_keyOf 15 = .ok (.iload_n 1, 1) := by decide +kernel
theorem dX4_keyOf_16 : decode cX4_keyOf 16 = .ok (.invokevirtual 98, 3) := by decide +kernel
theorem dX4_keyOf_19 : decode cX4_keyOf 19 = .ok (.goto 4, 3) := by decide +kernel
theorem dX4_keyOf_22 : decode cX4_keyOf 22 = .ok (.iconst (-1), 1) := by decide +kernel
theorem dX4_keyOf_23 : decode cX4_keyOf 23 = .ok (.ireturn, 1) := by decide +kernel
theorem dX4_journal_0 : decode cX4_journal 0 = .ok (.aload_n 0, 1) := by decide +kernel
theorem dX4_journal_1 : decode cX4_journal 1 = .ok (.getfield 12, 3) := by decide +kernel
theorem dX4_journal_4 : decode cX4_journal 4 = .ok (.iload_n 1, 1) := by decide +kernel
theorem dX4_journal_5 : decode cX4_journal 5 = .ok (.invokevirtual 89, 3) := by decide +kernel
theorem dX4_journal_8 : decode cX4_journal 8 = .ok (.ifCond .eq 17, 3) := by decide +kernel
theorem dX4_journal_11 : decode cX4_journal 11 = .ok (.aload_n 0, 1) := by decide +kernel
theorem dX4_journal_12 : decode cX4_journal 12 = .ok (.getfield 12, 3) := by decide +kernel
theorem dX4_journal_15 : decode cX4_journal 15 = .ok (.iload_n 1, 1) := by decide +kernel
theorem dX4_journal_16 : decode cX4_journal 16 = .ok (.invokevirtual 101, 3) := by decide +kernel
theorem dX4_journal_19 : decode cX4_journal 19 = .ok (.invokestatic 104, 3) := by decide +kernel
theorem dX4_journal_22 : decode cX4_journal 22 = .ok (.goto 4, 3) := by decide +kernel
theorem dX4_journal_25 : decode cX4_journal 25 = .ok (.iconst (-1), 1) := by decide +kernel
theorem dX4_journal_26 : decode cX4_journal 26 = .ok (.ireturn, 1) := by decide +kernel
theorem dX4_cached_0 : decode cX4_cached 0 = .ok (.aload_n 0, 1) := by decide +kernel
theorem dX4_cached_1 : decode cX4_cached 1 = .ok (.getfield 12, 3) := by decide +kernel
theorem dX4_cached_4 : decode cX4_cached 4 = .ok (.iload_n 1, 1) := by decide +kernel
theorem dX4_cached_5 : decode cX4_cached 5 = .ok (.invokevirtual 89, 3) := by decide +kernel
theorem dX4_cached_8 : decode cX4_cached 8 = .ok (.ifCond .eq 17, 3) := by decide +kernel
theorem dX4_cached_11 : decode cX4_cached 11 = .ok (.aload_n 0, 1) := by decide +kernel
theorem dX4_cached_12 : decode cX4_cached 12 = .ok (.getfield 12, 3) := by decide +kernel
theorem dX4_cached_15 : decode cX4_cached 15 = .ok (.iload_n 1, 1) := by decide +kernel
theorem dX4_cached_16 : decode cX4_cached 16 = .ok (.invokevirtual 107, 3) := by decide +kernel
theorem dX4_cached_19 : decode cX4_cached 19 = .ok (.invokestatic 104, 3) := by decide +kernel
theorem dX4_cached_22 : decode cX4_cached 22 = .ok (.goto 4, 3) := by decide +kernel
theorem dX4_cached_25 : decode cX4_cached 25 = .ok (.iconst (-1), 1) := by decide +kernel
theorem dX4_cached_26 : decode cX4_cached 26 = .ok (.ireturn, 1) := by decide +kernel
theorem dX4_zoneStart_0 : decode cX4_zoneStart 0 = .ok (.aload_n 0, 1) := by decide +kernel
theorem dX4_zoneStart_1 : decode cX4_zoneStart 1 = .ok (.getfield 12, 3) := by decide +kernel
theorem dX4_zoneStart_4 : decode cX4_zoneStart 4 = .ok (.invokevirtual 110, 3) := by decide +kernel
theorem dX4_zoneStart_7 : decode cX4_zoneStart 7 = .ok (.ifCond .eq 13, 3) := by decide +kernel
theorem dX4_zoneStart_10 : decode cX4_zoneStart 10 = .ok (.aload_n 0, 1) := by decide +kernel
theorem dX4_zoneStart_11 : decode cX4_zoneStart 11 = .ok (.getfield 12, 3) := by decide +kernel
theorem dX4_zoneStart_14 : decode cX4_zoneStart 14 = .ok (.invokevirtual 114, 3) := by decide +kernel
theorem dX4_zoneStart_17 : decode cX4_zoneStart 17 = .ok (.goto 5, 3) := by decide +kernel
theorem dX4_zoneStart_20 : decode cX4_zoneStart 20 = .ok (.bipush (-3), 2) := by decide +kernel
theorem dX4_zoneStart_22 : decode cX4_zoneStart 22 = .ok (.ireturn, 1) := by decide +kernel
theorem dX4_damaged_0 : decode cX4_damaged 0 = .ok (.aload_n 0, 1) := by decide +kernel
theorem dX4_damaged_1 : decode cX4_damaged 1 = .ok (.getfield 12, 3) := by decide +kernel
theorem dX4_damaged_4 : decode cX4_damaged 4 = .ok (.invokevirtual 117, 3) := by decide +kernel
theorem dX4_damaged_7 : decode cX4_damaged 7 = .ok (.ireturn, 1) := by decide +kernel
theorem dX4_firstDamaged_0 : decode cX4_firstDamaged 0 = .ok (.aload_n 0, 1) := by decide +kernel
theorem dX4_firstDamaged_1 : decode cX4_firstDamaged 1 = .ok (.getfield 12, 3) := by decide +kernel
theorem dX4_firstDamaged_4 : decode cX4_firstDamaged 4 = .ok (.invokevirtual 120, 3) := by decide +kernel
theorem dX4_firstDamaged_7 : decode cX4_firstDamaged 7 = .ok (.invokestatic 104, 3) := by decide +kernel
theorem dX4_firstDamaged_10 : decode cX4_firstDamaged 10 = .ok (.ireturn, 1) := by decide +kernel
theorem dX4_stepsLeft_0 : decode cX4_stepsLeft 0 = .ok (.aload_n 0, 1) := by decide +kernel
theorem dX4_stepsLeft_1 : decode cX4_stepsLeft 1 = .ok (.getfield 12, 3) := by decide +kernel
theorem dX4_stepsLeft_4 : decode cX4_stepsLeft 4 = .ok (.invokevirtual 110, 3) := by decide +kernel
theorem dX4_stepsLeft_7 : decode cX4_stepsLeft 7 = .ok (.ifCond .eq 13, 3) := by decide +kernel
theorem dX4_stepsLeft_10 : decode cX4_stepsLeft 10 = .ok (.aload_n 0, 1) := by decide +kernel
theorem dX4_stepsLeft_11 : decode cX4_stepsLeft 11 = .ok (.getfield 12, 3) := by decide +kernel
theorem dX4_stepsLeft_14 : decode cX4_stepsLeft 14 = .ok (.invokevirtual 123, 3) := by decide +kernel
theorem dX4_stepsLeft_17 : decode cX4_stepsLeft 17 = .ok (.goto 5, 3) := by decide +kernel
theorem dX4_stepsLeft_20 : decode cX4_stepsLeft 20 = .ok (.bipush (-3), 2) := by decide +kernel
theorem dX4_stepsLeft_22 : decode cX4_stepsLeft 22 = .ok (.ireturn, 1) := by decide +kernel
theorem dX4_ifFailed_0 : decode cX4_ifFailed 0 = .ok (.iload_n 1, 1) := by decide +kernel
theorem dX4_ifFailed_1 : decode cX4_ifFailed 1 = .ok (.ifCond .lt 10, 3) := by decide +kernel
theorem dX4_ifFailed_4 : decode cX4_ifFailed 4 = .ok (.iload_n 1, 1) := by decide +kernel
theorem dX4_ifFailed_5 : decode cX4_ifFailed 5 = .ok (.sipush 999, 3) := by decide +kernel
theorem dX4_ifFailed_8 : decode cX4_ifFailed 8 = .ok (.if_icmp .le 6, 3) := by decide +kernel
theorem dX4_ifFailed_11 : decode cX4_ifFailed 11 = .ok (.bipush (-2), 2) := by decide +kernel
theorem dX4_ifFailed_13 : decode cX4_ifFailed 13 = .ok (.ireturn, 1) := by decide +kernel
theorem dX4_ifFailed_14 : decode cX4_ifFailed 14 = .ok (.aload_n 0, 1) := by decide +kernel
theorem dX4_ifFailed_15 : decode cX4_ifFailed 15 = .ok (.getfield 16, 3) := by decide +kernel
theorem dX4_ifFailed_18 : decode cX4_ifFailed 18 = .ok (.aload_n 0, 1) := by decide +kernel
theorem dX4_ifFailed_19 : decode cX4_ifFailed 19 = .ok (.getfield 12, 3) := by decide +kernel
theorem dX4_ifFailed_22 : decode cX4_ifFailed 22 = .ok (.invokevirtual 126, 3) := by decide +kernel
theorem dX4_ifFailed_25 : decode cX4_ifFailed 25 = .ok (.iconst 0, 1) := by decide +kernel
theorem dX4_ifFailed_26 : decode cX4_ifFailed 26 = .ok (.istore_n 2, 1) := by decide +kernel
theorem dX4_ifFailed_27 : decode cX4_ifFailed 27 = .ok (.iload_n 2, 1) := by decide +kernel
theorem dX4_ifFailed_28 : decode cX4_ifFailed 28 = .ok (.iload_n 1, 1) := by decide +kernel
theorem dX4_ifFailed_29 : decode cX4_ifFailed 29 = .ok (.if_icmp .ge 26, 3) := by decide +kernel
theorem dX4_ifFailed_32 : decode cX4_ifFailed 32 = .ok (.aload_n 0, 1) := by decide +kernel
theorem dX4_ifFailed_33 : decode cX4_ifFailed 33 = .ok (.getfield 16, 3) := by decide +kernel
theorem dX4_ifFailed_36 : decode cX4_ifFailed 36 = .ok (.invokevirtual 110, 3) := by decide +kernel
theorem dX4_ifFailed_39 : decode cX4_ifFailed 39 = .ok (.ifCond .eq 16, 3) := by decide +kernel
theorem dX4_ifFailed_42 : decode cX4_ifFailed 42 = .ok (.aload_n 0, 1) := by decide +kernel
theorem dX4_ifFailed_43 : decode cX4_ifFailed 43 = .ok (.getfield 16, 3) := by decide +kernel
theorem dX4_ifFailed_46 : decode cX4_ifFailed 46 = .ok (.invokevirtual 129, 3) := by decide +kernel
theorem dX4_ifFailed_49 : decode cX4_ifFailed 49 = .ok (.iinc 2 1, 3) := by decide +kernel
theorem dX4_ifFailed_52 : decode cX4_ifFailed 52 = .ok (.goto (-25), 3) := by decide +kernel
theorem dX4_ifFailed_55 : decode cX4_ifFailed 55 = .ok (.aload_n 0, 1) := by decide +kernel
theorem dX4_ifFailed_56 : decode cX4_ifFailed 56 = .ok (.getfield 16, 3) := by decide +kernel
theorem dX4_ifFailed_59 : decode cX4_ifFailed 59 = .ok (.invokevirtual 132, 3) := by decide +kernel
theorem dX4_ifFailed_62 : decode cX4_ifFailed 62 = .ok (.ireturn, 1) := by decide +kernel
theorem dX4_worstTime_0 : decode cX4_worstTime 0 = .ok (.aload_n 0, 1) := by decide +kernel
theorem dX4_worstTime_1 : decode cX4_worstTime 1 = .ok (.getfield 16, 3) := by decide +kernel
theorem dX4_worstTime_4 : decode cX4_worstTime 4 = .ok (.aload_n 0, 1) := by decide +kernel
theorem dX4_worstTime_5 : decode cX4_worstTime 5 = .ok (.getfield 12, 3) := by decide +kernel
theorem dX4_worstTime_8 : decode cX4_worstTime 8 = .ok (.invokevirtual 126, 3) := by decide +kernel
theorem dX4_worstTime_11 : decode cX4_worstTime 11 = .ok (.iconst 0, 1) := by decide +kernel
theorem dX4_worstTime_12 : decode cX4_worstTime 12 = .ok (.istore_n 1, 1) := by decide +kernel
theorem dX4_worstTime_13 : decode cX4_worstTime 13 = .ok (.aload_n 0, 1) := by decide +kernel
theorem dX4_worstTime_14 : decode cX4_worstTime 14 = .ok (.getfield 16, 3) := by decide +kernel
theorem dX4_worstTime_17 : decode cX4_worstTime 17 = .ok (.invokevirtual 132, 3) := by decide +kernel
theorem dX4_worstTime_20 : decode cX4_worstTime 20 = .ok (.istore_n 2, 1) := by decide +kernel
theorem dX4_worstTime_21 : decode cX4_worstTime 21 = .ok (.iconst 1, 1) := by decide +kernel
theorem dX4_worstTime_22 : decode cX4_worstTime 22 = .ok (.istore_n 3, 1) := by decide +kernel
theorem dX4_worstTime_23 : decode cX4_worstTime 23 = .ok (.iload_n 3, 1) := by decide +kernel
theorem dX4_worstTime_24 : decode cX4_worstTime 24 = .ok (.bipush 99, 2) := by decide +kernel
theorem dX4_worstTime_26 : decode cX4_worstTime 26 = .ok (.if_icmp .gt 46, 3) := by decide +kernel
theorem dX4_worstTime_29 : decode cX4_worstTime 29 = .ok (.aload_n 0, 1) := by decide +kernel
theorem dX4_worstTime_30 : decode cX4_worstTime 30 = .ok (.getfield 16, 3) := by decide +kernel
theorem dX4_worstTime_33 : decode cX4_worstTime 33 = .ok (.invokevirtual 110, 3) := by decide +kernel
theorem dX4_worstTime_36 : decode cX4_worstTime 36 = .ok (.ifCond .eq 36, 3) := by decide +kernel
theorem dX4_worstTime_39 : decode cX4_worstTime 39 = .ok (.aload_n 0, 1) := by decide +kernel
theorem dX4_worstTime_40 : decode cX4_worstTime 40 = .ok (.getfield 16, 3) := by decide +kernel
theorem dX4_worstTime_43 : decode cX4_worstTime 43 = .ok (.invokevirtual 129, 3) := by decide +kernel
theorem dX4_worstTime_46 : decode cX4_worstTime 46 = .ok (.aload_n 0, 1) := by decide +kernel
theorem dX4_worstTime_47 : decode cX4_worstTime 47 = .ok (.getfield 16, 3) := by decide +kernel
theorem dX4_worstTime_50 : decode cX4_worstTime 50 = .ok (.invokevirtual 132, 3) := by decide +kernel
theorem dX4_worstTime_53 : decode cX4_worstTime 53 = .ok (.istore 4, 2) := by decide +kernel
theorem dX4_worstTime_55 : decode cX4_worstTime 55 = .ok (.iload 4, 2) := by decide +kernel
theorem dX4_worstTime_57 : decode cX4_worstTime 57 = .ok (.iload_n 2, 1) := by decide +kernel
theorem dX4_worstTime_58 : decode cX4_worstTime 58 = .ok (.if_icmp .le 8, 3) := by decide +kernel
theorem dX4_worstTime_61 : decode cX4_worstTime 61 = .ok (.iload 4, 2) := by decide +kernel
theorem dX4_worstTime_63 : decode cX4_worstTime 63 = .ok (.istore_n 2, 1) := by decide +kernel
theorem dX4_worstTime_64 : decode cX4_worstTime 64 = .ok (.iload_n 3, 1) := by decide +kernel
theorem dX4_worstTime_65 : decode cX4_worstTime 65 = .ok (.istore_n 1, 1) := by decide +kernel
theorem dX4_worstTime_66 : decode cX4_worstTime 66 = .ok (.iinc 3 1, 3) := by decide +kernel
theorem dX4_worstTime_69 : decode cX4_worstTime 69 = .ok (.goto (-46), 3) := by decide +kernel
theorem dX4_worstTime_72 : decode cX4_worstTime 72 = .ok (.iload_n 1, 1) := by decide +kernel
theorem dX4_worstTime_73 : decode cX4_worstTime 73 = .ok (.ireturn, 1) := by decide +kernel
theorem dX4_ifFlushed_0 : decode cX4_ifFlushed 0 = .ok (.aload_n 0, 1) := by decide +kernel
theorem dX4_ifFlushed_1 : decode cX4_ifFlushed 1 = .ok (.getfield 12, 3) := by decide +kernel
theorem dX4_ifFlushed_4 : decode cX4_ifFlushed 4 = .ok (.iload_n 1, 1) := by decide +kernel
theorem dX4_ifFlushed_5 : decode cX4_ifFlushed 5 = .ok (.invokevirtual 89, 3) := by decide +kernel
theorem dX4_ifFlushed_8 : decode cX4_ifFlushed 8 = .ok (.ifCond .eq 14, 3) := by decide +kernel
theorem dX4_ifFlushed_11 : decode cX4_ifFlushed 11 = .ok (.aload_n 0, 1) := by decide +kernel
theorem dX4_ifFlushed_12 : decode cX4_ifFlushed 12 = .ok (.getfield 12, 3) := by decide +kernel
theorem dX4_ifFlushed_15 : decode cX4_ifFlushed 15 = .ok (.iload_n 1, 1) := by decide +kernel
theorem dX4_ifFlushed_16 : decode cX4_ifFlushed 16 = .ok (.invokevirtual 135, 3) := by decide +kernel
theorem dX4_ifFlushed_19 : decode cX4_ifFlushed 19 = .ok (.goto 4, 3) := by decide +kernel
theorem dX4_ifFlushed_22 : decode cX4_ifFlushed 22 = .ok (.iconst (-1), 1) := by decide +kernel
theorem dX4_ifFlushed_23 : decode cX4_ifFlushed 23 = .ok (.ireturn, 1) := by decide +kernel
theorem dX4_type_0 : decode cX4_type 0 = .ok (.aload_n 0, 1) := by decide +kernel
theorem dX4_type_1 : decode cX4_type 1 = .ok (.getfield 29, 3) := by decide +kernel
theorem dX4_type_4 : decode cX4_type 4 = .ok (.iload_n 1, 1) := by decide +kernel
theorem dX4_type_5 : decode cX4_type 5 = .ok (.invokevirtual 138, 3) := by decide +kernel
theorem dX4_type_8 : decode cX4_type 8 = .ok (.ireturn, 1) := by decide +kernel
theorem dX4_clearText_0 : decode cX4_clearText 0 = .ok (.aload_n 0, 1) := by decide +kernel
theorem dX4_clearText_1 : decode cX4_clearText 1 = .ok (.getfield 29, 3) := by decide +kernel
theorem dX4_clearText_4 : decode cX4_clearText 4 = .ok (.invokevirtual 141, 3) := by decide +kernel
theorem dX4_clearText_7 : decode cX4_clearText 7 = .ok (.ireturn, 1) := by decide +kernel
theorem dX4_syntaxError_0 : decode cX4_syntaxError 0 = .ok (.aload_n 0, 1) := by decide +kernel
theorem dX4_syntaxError_1 : decode cX4_syntaxError 1 = .ok (.getfield 29, 3) := by decide +kernel
theorem dX4_syntaxError_4 : decode cX4_syntaxError 4 = .ok (.invokevirtual 144, 3) := by decide +kernel
theorem dX4_syntaxError_7 : decode cX4_syntaxError 7 = .ok (.ireturn, 1) := by decide +kernel
theorem dX4_carryOut_0 : decode cX4_carryOut 0 = .ok (.aload_n 0, 1) := by decide +kernel
theorem dX4_carryOut_1 : decode cX4_carryOut 1 = .ok (.getfield 29, 3) := by decide +kernel
theorem dX4_carryOut_4 : decode cX4_carryOut 4 = .ok (.invokevirtual 144, 3) := by decide +kernel
theorem dX4_carryOut_7 : decode cX4_carryOut 7 = .ok (.bipush (-6), 2) := by decide +kernel
theorem dX4_carryOut_9 : decode cX4_carryOut 9 = .ok (.if_icmp .eq 6, 3) := by decide +kernel
theorem dX4_carryOut_12 : decode cX4_carryOut 12 = .ok (.bipush (-5), 2) := by decide +kernel
theorem dX4_carryOut_14 : decode cX4_carryOut 14 = .ok (.ireturn, 1) := by decide +kernel
theorem dX4_carryOut_15 : decode cX4_carryOut 15 = .ok (.aload_n 0, 1) := by decide +kernel
theorem dX4_carryOut_16 : decode cX4_carryOut 16 = .ok (.getfield 22, 3) := by decide +kernel
theorem dX4_carryOut_19 : decode cX4_carryOut 19 = .ok (.aload_n 0, 1) := by decide +kernel
theorem dX4_carryOut_20 : decode cX4_carryOut 20 = .ok (.getfield 12, 3) := by decide +kernel
theorem dX4_carryOut_23 : decode cX4_carryOut 23 = .ok (.invokevirtual 33, 3) := by decide +kernel
theorem dX4_carryOut_26 : decode cX4_carryOut 26 = .ok (.aload_n 0, 1) := by decide +kernel
theorem dX4_carryOut_27 : decode cX4_carryOut 27 = .ok (.getfield 29, 3) := by decide +kernel
theorem dX4_carryOut_30 : decode cX4_carryOut 30 = .ok (.invokevirtual 147, 3) := by decide +kernel
theorem dX4_carryOut_33 : decode cX4_carryOut 33 = .ok (.istore_n 1, 1) := by decide +kernel
theorem dX4_carryOut_34 : decode cX4_carryOut 34 = .ok (.iconst 0, 1) := by decide +kernel
theorem dX4_carryOut_35 : decode cX4_carryOut 35 = .ok (.istore_n 2, 1) := by decide +kernel
theorem dX4_carryOut_36 : decode cX4_carryOut 36 = .ok (.iload_n 2, 1) := by decide +kernel
theorem dX4_carryOut_37 : decode cX4_carryOut 37 = .ok (.iload_n 1, 1) := by decide +kernel
theorem dX4_carryOut_38 : decode cX4_carryOut 38 = .ok (.if_icmp .ge 43, 3) := by decide +kernel
theorem dX4_carryOut_41 : decode cX4_carryOut 41 = .ok (.aload_n 0, 1) := by decide +kernel
theorem dX4_carryOut_42 : decode cX4_carryOut 42 = .ok (.getfield 12, 3) := by decide +kernel
theorem dX4_carryOut_45 : decode cX4_carryOut 45 = .ok (.aload_n 0, 1) := by decide +kernel
theorem dX4_carryOut_46 : decode cX4_carryOut 46 = .ok (.getfield 29, 3) := by decide +kernel
theorem dX4_carryOut_49 : decode cX4_carryOut 49 = .ok (.iload_n 2, 1) := by decide +kernel
theorem dX4_carryOut_50 : decode cX4_carryOut 50 = .ok (.invokevirtual 150, 3) := by decide +kernel
theorem dX4_carryOut_53 : decode cX4_carryOut 53 = .ok (.aload_n 0, 1) := by decide +kernel
theorem dX4_carryOut_54 : decode cX4_carryOut 54 = .ok (.getfield 29, 3) := by decide +kernel
theorem dX4_carryOut_57 : decode cX4_carryOut 57 = .ok (.iload_n 2, 1) := by decide +kernel
theorem dX4_carryOut_58 : decode cX4_carryOut 58 = .ok (.invokevirtual 153, 3) := by decide +kernel
theorem dX4_carryOut_61 : decode cX4_carryOut 61 = .ok (.aload_n 0, 1) := by decide +kernel
theorem dX4_carryOut_62 : decode cX4_carryOut 62 = .ok (.getfield 29, 3) := by decide +kernel
theorem dX4_carryOut_65 : decode cX4_carryOut 65 = .ok (.iload_n 2, 1) := by decide +kernel
theorem dX4_carryOut_66 : decode cX4_carryOut 66 = .ok (.invokevirtual 156, 3) := by decide +kernel
theorem dX4_carryOut_69 : decode cX4_carryOut 69 = .ok (.invokevirtual 157, 3) := by decide +kernel
theorem dX4_carryOut_72 : decode cX4_carryOut 72 = .ok (.ifCond .lt 9, 3) := by decide +kernel
theorem dX4_carryOut_75 : decode cX4_carryOut 75 = .ok (.iinc 2 1, 3) := by decide +kernel
theorem dX4_carryOut_78 : decode cX4_carryOut 78 = .ok (.goto (-42), 3) := by decide +kernel
theorem dX4_carryOut_81 : decode cX4_carryOut 81 = .ok (.aload_n 0, 1) := by decide +kernel
theorem dX4_carryOut_82 : decode cX4_carryOut 82 = .ok (.getfield 29, 3) := by decide +kernel
theorem dX4_carryOut_85 : decode cX4_carryOut 85 = .ok (.invokevirtual 141, 3) := by decide +kernel
theorem dX4_carryOut_88 : decode cX4_carryOut 88 = .ok (.pop, 1) := by decide +kernel
theorem dX4_carryOut_89 : decode cX4_carryOut 89 = .ok (.aload_n 0, 1) := by decide +kernel
theorem dX4_carryOut_90 : decode cX4_carryOut 90 = .ok (.getfield 22, 3) := by decide +kernel
theorem dX4_carryOut_93 : decode cX4_carryOut 93 = .ok (.iload_n 2, 1) := by decide +kernel
theorem dX4_carryOut_94 : decode cX4_carryOut 94 = .ok (.invokevirtual 41, 3) := by decide +kernel
theorem dX4_carryOut_97 : decode cX4_carryOut 97 = .ok (.ireturn, 1) := by decide +kernel
theorem dX4_undo_0 : decode cX4_undo 0 = .ok (.aload_n 0, 1) := by decide +kernel
theorem dX4_undo_1 : decode cX4_undo 1 = .ok (.getfield 22, 3) := by decide +kernel
theorem dX4_undo_4 : decode cX4_undo 4 = .ok (.aload_n 0, 1) := by decide +kernel
theorem dX4_undo_5 : decode cX4_undo 5 = .ok (.getfield 12, 3) := by decide +kernel
theorem dX4_undo_8 : decode cX4_undo 8 = .ok (.invokevirtual 161, 3) := by decide +kernel
theorem dX4_undo_11 : decode cX4_undo 11 = .ok (.ireturn, 1) := by decide +kernel
theorem dX4_digest_0 : decode cX4_digest 0 = .ok (.ldc2_w 165, 3) := by decide +kernel
theorem dX4_digest_3 : decode cX4_digest 3 = .ok (.lstore_n 1, 1) := by decide +kernel
theorem dX4_digest_4 : decode cX4_digest 4 = .ok (.iconst 0, 1) := by decide +kernel
theorem dX4_digest_5 : decode cX4_digest 5 = .ok (.istore_n 3, 1) := by decide +kernel
theorem dX4_digest_6 : decode cX4_digest 6 = .ok (.iload_n 3, 1) := by decide +kernel
theorem dX4_digest_7 : decode cX4_digest 7 = .ok (.bipush 13, 2) := by decide +kernel
theorem dX4_digest_9 : decode cX4_digest 9 = .ok (.if_icmp .ge 22, 3) := by decide +kernel
theorem dX4_digest_12 : decode cX4_digest 12 = .ok (.ldc2_w 167, 3) := by decide +kernel
theorem dX4_digest_15 : decode cX4_digest 15 = .ok (.lload_n 1, 1) := by decide +kernel
theorem dX4_digest_16 : decode cX4_digest 16 = .ok (.lmul, 1) := by decide +kernel
theorem dX4_digest_17 : decode cX4_digest 17 = .ok (.aload_n 0, 1) := by decide +kernel
theorem dX4_digest_18 : decode cX4_digest 18 = .ok (.iload_n 3, 1) := by decide +kernel
theorem dX4_digest_19 : decode cX4_digest 19 = .ok (.invokevirtual 169, 3) := by decide +kernel
theorem dX4_digest_22 : decode cX4_digest 22 = .ok (.i2l, 1) := by decide +kernel
theorem dX4_digest_23 : decode cX4_digest 23 = .ok (.ladd, 1) := by decide +kernel
theorem dX4_digest_24 : decode cX4_digest 24 = .ok (.lstore_n 1, 1) := by decide +kernel
theorem dX4_digest_25 : decode cX4_digest 25 = .ok (.iinc 3 1, 3) := by decide +kernel
theorem dX4_digest_28 : decode cX4_digest 28 = .ok (.goto (-22), 3) := by decide +kernel
theorem dX4_digest_31 : decode cX4_digest 31 = .ok (.aload_n 0, 1) := by decide +kernel
theorem dX4_digest_32 : decode cX4_digest 32 = .ok (.aload_n 0, 1) := by decide +kernel
theorem dX4_digest_33 : decode cX4_digest 33 = .ok (.lload_n 1, 1) := by decide +kernel
theorem dX4_digest_34 : decode cX4_digest 34 = .ok (.invokevirtual 172, 3) := by decide +kernel
theorem dX4_digest_37 : decode cX4_digest 37 = .ok (.invokevirtual 176, 3) := by decide +kernel
theorem dX4_digest_40 : decode cX4_digest 40 = .ok (.lstore_n 1, 1) := by decide +kernel
theorem dX4_digest_41 : decode cX4_digest 41 = .ok (.ldc2_w 167, 3) := by decide +kernel
theorem dX4_digest_44 : decode cX4_digest 44 = .ok (.lload_n 1, 1) := by decide +kernel
theorem dX4_digest_45 : decode cX4_digest 45 = .ok (.lmul, 1) := by decide +kernel
theorem dX4_digest_46 : decode cX4_digest 46 = .ok (.aload_n 0, 1) := by decide +kernel
theorem dX4_digest_47 : decode cX4_digest 47 = .ok (.invokevirtual 179, 3) := by decide +kernel
theorem dX4_digest_50 : decode cX4_digest 50 = .ok (.i2l, 1) := by decide +kernel
theorem dX4_digest_51 : decode cX4_digest 51 = .ok (.ladd, 1) := by decide +kernel
theorem dX4_digest_52 : decode cX4_digest 52 = .ok (.lstore_n 1, 1) := by decide +kernel
theorem dX4_digest_53 : decode cX4_digest 53 = .ok (.ldc2_w 167, 3) := by decide +kernel
theorem dX4_digest_56 : decode cX4_digest 56 = .ok (.lload_n 1, 1) := by decide +kernel
theorem dX4_digest_57 : decode cX4_digest 57 = .ok (.lmul, 1) := by decide +kernel
theorem dX4_digest_58 : decode cX4_digest 58 = .ok (.aload_n 0, 1) := by decide +kernel
theorem dX4_digest_59 : decode cX4_digest 59 = .ok (.invokevirtual 182, 3) := by decide +kernel
theorem dX4_digest_62 : decode cX4_digest 62 = .ok (.i2l, 1) := by decide +kernel
theorem dX4_digest_63 : decode cX4_digest 63 = .ok (.ladd, 1) := by decide +kernel
theorem dX4_digest_64 : decode cX4_digest 64 = .ok (.lstore_n 1, 1) := by decide +kernel
theorem dX4_digest_65 : decode cX4_digest 65 = .ok (.aload_n 0, 1) := by decide +kernel
theorem dX4_digest_66 : decode cX4_digest 66 = .ok (.getfield 12, 3) := by decide +kernel
theorem dX4_digest_69 : decode cX4_digest 69 = .ok (.invokevirtual 110, 3) := by decide +kernel
theorem dX4_digest_72 : decode cX4_digest 72 = .ok (.ifCond .eq 27, 3) := by decide +kernel
theorem dX4_digest_75 : decode cX4_digest 75 = .ok (.ldc2_w 167, 3) := by decide +kernel
theorem dX4_digest_78 : decode cX4_digest 78 = .ok (.lload_n 1, 1) := by decide +kernel
theorem dX4_digest_79 : decode cX4_digest 79 = .ok (.lmul, 1) := by decide +kernel
theorem dX4_digest_80 : decode cX4_digest 80 = .ok (.aload_n 0, 1) := by decide +kernel
theorem dX4_digest_81 : decode cX4_digest 81 = .ok (.invokevirtual 185, 3) := by decide +kernel
theorem dX4_digest_84 : decode cX4_digest 84 = .ok (.i2l, 1) := by decide +kernel
theorem dX4_digest_85 : decode cX4_digest 85 = .ok (.ladd, 1) := by decide +kernel
theorem dX4_digest_86 : decode cX4_digest 86 = .ok (.lstore_n 1, 1) := by decide +kernel
theorem dX4_digest_87 : decode cX4_digest 87 = .ok (.ldc2_w 167, 3) := by decide +kernel
theorem dX4_digest_90 : decode cX4_digest 90 = .ok (.lload_n 1, 1) := by decide +kernel
theorem dX4_digest_91 : decode cX4_digest 91 = .ok (.lmul, 1) := by decide +kernel
theorem dX4_digest_92 : decode cX4_digest 92 = .ok (.aload_n 0, 1) := by decide +kernel
theorem dX4_digest_93 : decode cX4_digest 93 = .ok (.invokevirtual 188, 3) := by decide +kernel
theorem dX4_digest_96 : decode cX4_digest 96 = .ok (.i2l, 1) := by decide +kernel
theorem dX4_digest_97 : decode cX4_digest 97 = .ok (.ladd, 1) := by decide +kernel
theorem dX4_digest_98 : decode cX4_digest 98 = .ok (.lstore_n 1, 1) := by decide +kernel
theorem dX4_digest_99 : decode cX4_digest 99 = .ok (.lload_n 1, 1) := by decide +kernel
theorem dX4_digest_100 : decode cX4_digest 100 = .ok (.lreturn, 1) := by decide +kernel
theorem dX4_withKeys_0 : decode cX4_withKeys 0 = .ok (.lload_n 1, 1) := by decide +kernel
theorem dX4_withKeys_1 : decode cX4_withKeys 1 = .ok (.lstore_n 3, 1) := by decide +kernel
theorem dX4_withKeys_2 : decode cX4_withKeys 2 = .ok (.iconst 1, 1) := by decide +kernel
theorem dX4_withKeys_3 : decode cX4_withKeys 3 = .ok (.istore 5, 2) := by decide +kernel
theorem dX4_withKeys_5 : decode cX4_withKeys 5 = .ok (.iload 5, 2) := by decide +kernel
theorem dX4_withKeys_7 : decode cX4_withKeys 7 = .ok (.bipush 99, 2) := by decide +kernel
theorem dX4_withKeys_9 : decode cX4_withKeys 9 = .ok (.if_icmp .gt 45, 3) := by decide +kernel
theorem dX4_withKeys_12 : decode cX4_withKeys 12 = .ok (.aload_n 0, 1) := by decide +kernel
theorem dX4_withKeys_13 : decode cX4_withKeys 13 = .ok (.getfield 12, 3) := by decide +kernel
theorem dX4_withKeys_16 : decode cX4_withKeys 16 = .ok (.iload 5, 2) := by decide +kernel
theorem dX4_withKeys_18 : decode cX4_withKeys 18 = .ok (.invokevirtual 51, 3) := by decide +kernel
theorem dX4_withKeys_21 : decode cX4_withKeys 21 = .ok (.ifCond .eq 27, 3) := by decide +kernel
theorem dX4_withKeys_24 : decode cX4_withKeys 24 = .ok (.ldc2_w 167, 3) := by decide +kernel
theorem dX4_withKeys_27 : decode cX4_withKeys 27 = .ok (.lload_n 3, 1) := by decide +kernel
theorem dX4_withKeys_28 : decode cX4_withKeys 28 = .ok (.lmul, 1) := by decide +kernel
theorem dX4_withKeys_29 : decode cX4_withKeys 29 = .ok (.iload 5, 2) := by decide +kernel
theorem dX4_withKeys_31 : decode cX4_withKeys 31 = .ok (.i2l, 1) := by decide +kernel
theorem dX4_withKeys_32 : decode cX4_withKeys 32 = .ok (.ladd, 1) := by decide +kernel
theorem dX4_withKeys_33 : decode cX4_withKeys 33 = .ok (.lstore_n 3, 1) := by decide +kernel
theorem dX4_withKeys_34 : decode cX4_withKeys 34 = .ok (.ldc2_w 167, 3) := by decide +kernel
theorem dX4_withKeys_37 : decode cX4_withKeys 37 = .ok (.lload_n 3, 1) := by decide +kernel
theorem dX4_withKeys_38 : decode cX4_withKeys 38 = .ok (.lmul, 1) := by decide +kernel
theorem dX4_withKeys_39 : decode cX4_withKeys 39 = .ok (.aload_n 0, 1) := by decide +kernel
theorem dX4_withKeys_40 : decode cX4_withKeys 40 = .ok (.iload 5, 2) := by decide +kernel
theorem dX4_withKeys_42 : decode cX4_withKeys 42 = .ok (.invokevirtual 191, 3) := by decide +kernel
theorem dX4_withKeys_45 : decode cX4_withKeys 45 = .ok (.i2l, 1) := by decide +kernel
theorem dX4_withKeys_46 : decode cX4_withKeys 46 = .ok (.ladd, 1) := by decide +kernel
theorem dX4_withKeys_47 : decode cX4_withKeys 47 = .ok (.lstore_n 3, 1) := by decide +kernel
theorem dX4_withKeys_48 : decode cX4_withKeys 48 = .ok (.iinc 5 1, 3) := by decide +kernel
theorem dX4_withKeys_51 : decode cX4_withKeys 51 = .ok (.goto (-46), 3) := by decide +kernel
theorem dX4_withKeys_54 : decode cX4_withKeys 54 = .ok (.lload_n 3, 1) := by decide +kernel
theorem dX4_withKeys_55 : decode cX4_withKeys 55 = .ok (.lreturn, 1) := by decide +kernel
theorem dX4_withSectors_0 : decode cX4_withSectors 0 = .ok (.lload_n 1, 1) := by decide +kernel
theorem dX4_withSectors_1 : decode cX4_withSectors 1 = .ok (.lstore_n 3, 1) := by decide +kernel
theorem dX4_withSectors_2 : decode cX4_withSectors 2 = .ok (.iconst 0, 1) := by decide +kernel
theorem dX4_withSectors_3 : decode cX4_withSectors 3 = .ok (.istore 5, 2) := by decide +kernel
theorem dX4_withSectors_5 : decode cX4_withSectors 5 = .ok (.iload 5, 2) := by decide +kernel
theorem dX4_withSectors_7 : decode cX4_withSectors 7 = .ok (.bipush 64, 2) := by decide +kernel
theorem dX4_withSectors_9 : decode cX4_withSectors 9 = .ok (.if_icmp .ge 91, 3) := by decide +kernel
theorem dX4_withSectors_12 : decode cX4_withSectors 12 = .ok (.aload_n 0, 1) := by decide +kernel
theorem dX4_withSectors_13 : decode cX4_withSectors 13 = .ok (.getfield 12, 3) := by decide +kernel
theorem dX4_withSectors_16 : decode cX4_withSectors 16 = .ok (.iload 5, 2) := by decide +kernel
theorem dX4_withSectors_18 : decode cX4_withSectors 18 = .ok (.invokevirtual 89, 3) := by decide +kernel
theorem dX4_withSectors_21 : decode cX4_withSectors 21 = .ok (.ifCond .eq 79, 3) := by decide +kernel
theorem dX4_withSectors_24 : decode cX4_withSectors 24 = .ok (.ldc2_w 167, 3) := by decide +kernel
theorem dX4_withSectors_27 : decode cX4_withSectors 27 = .ok (.lload_n 3, 1) := by decide +kernel
theorem dX4_withSectors_28 : decode cX4_withSectors 28 = .ok (.lmul, 1) := by decide +kernel
theorem dX4_withSectors_29 : decode cX4_withSectors 29 = .ok (.aload_n 0, 1) := by decide +kernel
theorem dX4_withSectors_30 : decode cX4_withSectors 30 = .ok (.iload 5, 2) := by decide +kernel
theorem dX4_withSectors_32 : decode cX4_withSectors 32 = .ok (.invokevirtual 194, 3) := by decide +kernel
theorem dX4_withSectors_35 : decode cX4_withSectors 35 = .ok (.i2l, 1) := by decide +kernel
theorem dX4_withSectors_36 : decode cX4_withSectors 36 = .ok (.ladd, 1) := by decide +kernel
theorem dX4_withSectors_37 : decode cX4_withSectors 37 = .ok (.lstore_n 3, 1) := by decide +kernel
theorem dX4_withSectors_38 : decode cX4_withSectors 38 = .ok (.ldc2_w 167, 3) := by decide +kernel
theorem dX4_withSectors_41 : decode cX4_withSectors 41 = .ok (.lload_n 3, 1) := by decide +kernel
theorem dX4_withSectors_42 : decode cX4_withSectors 42 = .ok (.lmul, 1) := by decide +kernel
theorem dX4_withSectors_43 : decode cX4_withSectors 43 = .ok (.aload_n 0, 1) := by decide +kernel
theorem dX4_withSectors_44 : decode cX4_withSectors 44 = .ok (.iload 5, 2) := by decide +kernel
theorem dX4_withSectors_46 : decode cX4_withSectors 46 = .ok (.invokevirtual 197, 3) := by decide +kernel
theorem dX4_withSectors_49 : decode cX4_withSectors 49 = .ok (.i2l, 1) := by decide +kernel
theorem dX4_withSectors_50 : decode cX4_withSectors 50 = .ok (.ladd, 1) := by decide +kernel
theorem dX4_withSectors_51 : decode cX4_withSectors 51 = .ok (.lstore_n 3, 1) := by decide +kernel
theorem dX4_withSectors_52 : decode cX4_withSectors 52 = .ok (.ldc2_w 167, 3) := by decide +kernel
theorem dX4_withSectors_55 : decode cX4_withSectors 55 = .ok (.lload_n 3, 1) := by decide +kernel
theorem dX4_withSectors_56 : decode cX4_withSectors 56 = .ok (.lmul, 1) := by decide +kernel
theorem dX4_withSectors_57 : decode cX4_withSectors 57 = .ok (.aload_n 0, 1) := by decide +kernel
theorem dX4_withSectors_58 : decode cX4_withSectors 58 = .ok (.iload 5, 2) := by decide +kernel
theorem dX4_withSectors_60 : decode cX4_withSectors 60 = .ok (.invokevirtual 200, 3) := by decide +kernel
theorem dX4_withSectors_63 : decode cX4_withSectors 63 = .ok (.i2l, 1) := by decide +kernel
theorem dX4_withSectors_64 : decode cX4_withSectors 64 = .ok (.ladd, 1) := by decide +kernel
theorem dX4_withSectors_65 : decode cX4_withSectors 65 = .ok (.lstore_n 3, 1) := by decide +kernel
theorem dX4_withSectors_66 : decode cX4_withSectors 66 = .ok (.ldc2_w 167, 3) := by decide +kernel
theorem dX4_withSectors_69 : decode cX4_withSectors 69 = .ok (.lload_n 3, 1) := by decide +kernel
theorem dX4_withSectors_70 : decode cX4_withSectors 70 = .ok (.lmul, 1) := by decide +kernel
theorem dX4_withSectors_71 : decode cX4_withSectors 71 = .ok (.aload_n 0, 1) := by decide +kernel
theorem dX4_withSectors_72 : decode cX4_withSectors 72 = .ok (.iload 5, 2) := by decide +kernel
theorem dX4_withSectors_74 : decode cX4_withSectors 74 = .ok (.invokevirtual 203, 3) := by decide +kernel
theorem dX4_withSectors_77 : decode cX4_withSectors 77 = .ok (.i2l, 1) := by decide +kernel
theorem dX4_withSectors_78 : decode cX4_withSectors 78 = .ok (.ladd, 1) := by decide +kernel
theorem dX4_withSectors_79 : decode cX4_withSectors 79 = .ok (.lstore_n 3, 1) := by decide +kernel
theorem dX4_withSectors_80 : decode cX4_withSectors 80 = .ok (.ldc2_w 167, 3) := by decide +kernel
theorem dX4_withSectors_83 : decode cX4_withSectors 83 = .ok (.lload_n 3, 1) := by decide +kernel
theorem dX4_withSectors_84 : decode cX4_withSectors 84 = .ok (.lmul, 1) := by decide +kernel
theorem dX4_withSectors_85 : decode cX4_withSectors 85 = .ok (.aload_n 0, 1) := by decide +kernel
theorem dX4_withSectors_86 : decode cX4_withSectors 86 = .ok (.iload 5, 2) := by decide +kernel
theorem dX4_withSectors_88 : decode cX4_withSectors 88 = .ok (.invokevirtual 206, 3) := by decide +kernel
theorem dX4_withSectors_91 : decode cX4_withSectors 91 = .ok (.i2l, 1) := by decide +kernel
theorem dX4_withSectors_92 : decode cX4_withSectors 92 = .ok (.ladd, 1) := by decide +kernel
theorem dX4_withSectors_93 : decode cX4_withSectors 93 = .ok (.lstore_n 3, 1) := by decide +kernel
theorem dX4_withSectors_94 : decode cX4_withSectors 94 = .ok (.iinc 5 1, 3) := by decide +kernel
theorem dX4_withSectors_97 : decode cX4_withSectors 97 = .ok (.goto (-92), 3) := by decide +kernel
theorem dX4_withSectors_100 : decode cX4_withSectors 100 = .ok (.lload_n 3, 1) := by decide +kernel
theorem dX4_withSectors_101 : decode cX4_withSectors 101 = .ok (.lreturn, 1) := by decide +kernel
theorem dX4_orNone_0 : decode cX4_orNone 0 = .ok (.iload_n 0, 1) := by decide +kernel
theorem dX4_orNone_1 : decode cX4_orNone 1 = .ok (.iconst (-1), 1) := by decide +kernel
theorem dX4_orNone_2 : decode cX4_orNone 2 = .ok (.if_icmp .ne 8, 3) := by decide +kernel
theorem dX4_orNone_5 : decode cX4_orNone 5 = .ok (.bipush (-6), 2) := by decide +kernel
theorem dX4_orNone_7 : decode cX4_orNone 7 = .ok (.goto 4, 3) := by decide +kernel
theorem dX4_orNone_10 : decode cX4_orNone 10 = .ok (.iload_n 0, 1) := by decide +kernel
theorem dX4_orNone_11 : decode cX4_orNone 11 = .ok (.ireturn, 1) := by decide +kernel
end
section
/-! a machine's state in the words of this claim: a memory of numbers (cell, place), a fixed layout, a judgement over them -/
abbrev dkM : Type := Nat → Nat → Int32
/-- the base address, which cells are spoken of, the classes' numbers, the numbers of the two array classes -/
abbrev dkG : Type := Nat × (Nat → Prop) × va_G × ClassId × ClassId
abbrev dkL : Type := List (Nat × Option Value)
abbrev dkT : Type := Option Value × dkM
abbrev dkE : Type := Program × Launch × Env × Room × State × MethodId × Array Value × List Frame × Method × Code
def dk_put (M : dkM) (o k : Nat) (v : Int32) : dkM := fun a b => if a = o then (if b = k then v else M a b) else M a b
/-- the kinds of the cells, in the order in which they are made: 0 Disk, 1 History, 2 Row, 3 Script, 4 DiskRekeying, 5 the model, 6 an int array, 7 the array of Disks -/
def dk_kds : List Nat := [4, 0,2,6,2,6,2,6,2,6,2,6, 0,2,6,2,6,2,6,2,6,2,6, 1,7, 0,2,6,2,6,2,6,2,6,2,6, 0,2,6,2,6,2,6,2,6,2,6, 0,2,6,2,6,2,6,2,6,2,6, 0,2,6,2,6,2,6,2,6,2,6, 0,2,6,2,6,2,6,2,6,2,6, 0,2,6,2,6,2,6,2,6,2,6, 0,2,6,2,6,2,6,2,6,2,6, 3,2,6,2,6,2,6,2,6, 5,6,6,6,6,6,6]
def dk_kd (o : Nat) : Nat := dk_kds.getD o 9
/-- the lengths of the int arrays -/
def dk_als : List Nat := [0, 0,0,64,0,64,0,64,0,64,0,100, 0,0,64,0,64,0,64,0,64,0,100, 0,0, 0,0,64,0,64,0,64,0,64,0,100, 0,0,64,0,64,0,64,0,64,0,100, 0,0,64,0,64,0,64,0,64,0,100, 0,0,64,0,64,0,64,0,64,0,100, 0,0,64,0,64,0,64,0,64,0,100, 0,0,64,0,64,0,64,0,64,0,100, 0,0,64,0,64,0,64,0,64,0,100, 0,0,80,0,40,0,40,0,40, 0,367,367,367,2202,80,64]
def dk_al (o : Nat) : Nat := dk_als.getD o 0
/-- what stands in a cell -/
def dk_cell (G : dkG) (M : dkM) (o : Nat) : va_E := match dk_kd o with
  | 0 => .inr (0, [.ref (G.1 + (o + 1)), .ref (G.1 + (o + 3)), .ref (G.1 + (o + 5)), .ref (G.1 + (o + 7)), .ref (G.1 + (o + 9)), .int (M o 5), .int (M o 6), .int (M o 7), .int (M o 8), .int (M o 9), .int (M o 10), .int (M o 11), .int (M o 12), .int (M o 13), .int (M o 14)])
  | 1 => .inr (1, [.ref (G.1 + (o + 1)), .int (M o 1), .int (M o 2)])
  | 2 => .inr (2, [.ref (G.1 + (o + 1))])
  | 3 => .inr (3, [.ref (G.1 + (o + 1)), .ref (G.1 + (o + 3)), .ref (G.1 + (o + 5)), .ref (G.1 + (o + 7)), .int (M o 4)])
  | 4 => .inr (4, [.ref (G.1 + (o + 1)), .ref (G.1 + (o + 12)), .ref (G.1 + (o + 23)), .ref (G.1 + (o + 102))])
  | 5 => .inr (5, [.ref (G.1 + (o + 1)), .ref (G.1 + (o + 2)), .ref (G.1 + (o + 3)), .ref (G.1 + (o + 4)), .int (M o 4), .ref (G.1 + (o + 5)), .int (M o 6), .ref (G.1 + (o + 6)), .int (M o 8), .int (M o 9), .int (M o 10), .int (M o 11), .int (M o 12)])
  | 6 => .inl (G.2.2.2.1, dk_al o, .inl (M o))
  | _ => .inl (G.2.2.2.2, 7, .inr (.inr (.inr (.inr (fun i => some (G.1 + (o + 1 + 11 * i)))))))
def dk_Rep (G : dkG) (M : dkM) (H : Heap) : Prop := ∀ o, G.2.1 o → va_at G.2.2.1 vwCl (G.1 + o, dk_cell G M o) H
/-- the addresses that may be written -/
def dk_A (G : dkG) : Nat → Prop := fun q => ∃ o, G.2.1 o ∧ q = G.1 + o
abbrev dk_tys (G : dkG) : List (ClassId × FieldType) := [(G.2.2.2.1, .int), (G.2.2.2.2, .object RX0)]
def dk_K (G : dkG) (U : State) : Prop := va_K G.2.2.1 vwCl (dk_tys G) U
def dk_P (G : dkG) (as : List Value) (M : dkM) : Array Value → State → Prop := fun av U => av = as.toArray ∧ dk_Rep G M U.heap ∧ dk_K G U
def dk_Q (G : dkG) (T : dkT) : Array Value → State → Outcome → State → Prop := fun _ st o t => o = .returned T.1 ∧ dk_Rep G T.2 t.heap ∧ t.heap.size = st.heap.size ∧ va_F (dk_A G) st t
/-- a method's contract -/
def dk_Con (l : Launch) (y : MethodName) (cc : ByteArray) (nL : Nat) (ret : Option FieldType) (fr lo : Nat) (G : dkG) (as : List Value) (M : dkM) (T : dkT) : Prop :=
  Met l y (.code y cc nL ret :: dk_tbl) ({ frames := fr, cells := 0, slots := 0, locals := lo }) (dk_P G as M) (dk_Q G T) 0 0 (dk_A G)
theorem dk_blind (G : dkG) (as : List Value) (M : dkM) : FrameBlind (dk_P G as M) := fun a U g mk h => ⟨h.1, h.2.1, va_K.moved (u := U) (U := U.calling g mk a) (Vm.Alike.refl U.vm) h.2.2⟩
/-! the locals -/
def dk_get : dkL → Nat → Option Value
  | [], _ => none
  | (j, w) :: t, i => bif Nat.beq j i then w else dk_get t i
def dk_has (ls : Array Slot) (nL : Nat) (lv : dkL) : Prop := ls.size = nL ∧ lv_wf ls ∧ ∀ i v, dk_get lv i = some v → ls[i]? = some (.val v)
theorem dk_get_hd (i : Nat) (w : Option Value) (lv : dkL) : dk_get ((i, w) :: lv) i = w := by simp [dk_get]
theorem dk_get_tl {i j : Nat} (h : j ≠ i) (w : Option Value) (lv : dkL) : dk_get ((j, w) :: lv) i = dk_get lv i := by
  have : Nat.beq j i = false := by
    cases hb : Nat.beq j i with
    | false => rfl
    | true => exact absurd (Nat.eq_of_beq_eq_true hb) h
  simp [dk_get, this]
def dk_chk (lv : dkL) (i : Nat) : Bool := match i with
  | 0 => true
  | j + 1 => match dk_get lv j with
    | some w => Nat.beq w.category 1
    | none => true
def dk_vals (nL : Nat) (lv : dkL) : List (Nat × Value) := (List.range nL).filterMap fun i => (dk_get lv i).map fun v => (i, v)
theorem dk_vals_in {nL : Nat} {lv : dkL} {i : Nat} {v : Value} (hi : i < nL) (h : dk_get lv i = some v) : (i, v) ∈ dk_vals nL lv :=
  List.mem_filterMap.mpr ⟨i, List.mem_range.mpr hi, by rw [h]; rfl⟩
theorem dk_vals_of {nL : Nat} {lv : dkL} {q : Nat × Value} (h : q ∈ dk_vals nL lv) : dk_get lv q.1 = some q.2 := by
  obtain ⟨i, -, h2⟩ := List.mem_filterMap.mp h
  cases hg : dk_get lv i with
  | none => rw [hg] at h2; cases h2
  | some v => rw [hg] at h2; cases h2; exact hg
theorem dk_has.lv {ls : Array Slot} {nL : Nat} {lv : dkL} (h : dk_has ls nL lv) : lv_has ls nL (dk_vals nL lv) :=
  ⟨h.1, h.2.1, fun q hq => h.2.2 _ _ (dk_vals_of hq)⟩
theorem dk_has.at {ls : Array Slot} {nL : Nat} {lv : dkL} (h : dk_has ls nL lv) {i : Nat} {v : Value} (hg : dk_get lv i = some v) : ls[i]? = some (.val v) := h.2.2 i v hg
theorem dk_has.lt {ls : Array Slot} {nL : Nat} {lv : dkL} (h : dk_has ls nL lv) {i : Nat} {v : Value} (hg : dk_get lv i = some v) : i < nL := by
  rw [← h.1]; exact (Array.getElem?_eq_some_iff.mp (h.at hg)).1
theorem dk_has.set1 {ls ls' : Array Slot} {nL i : Nat} {lv : dkL} {v : Value} (h : dk_has ls nL lv) (hc : dk_chk lv i = true)
    (h' : lv_has ls' nL ((i, v) :: (dk_vals nL lv).filter (fun q => !(q.1 == i) && !(q.1 + 1 == i && q.2.category == 2)))) : dk_has ls' nL ((i, some v) :: lv) := by
  refine ⟨h'.1, h'.2.1, fun j w hj => ?_⟩
  by_cases hji : i = j
  · subst hji
    rw [dk_get_hd] at hj
    cases hj
    exact h'.2.2 _ List.mem_cons_self
  · rw [dk_get_tl hji] at hj
    refine h'.2.2 (j, w) (List.mem_cons_of_mem _ (List.mem_filter.mpr ⟨dk_vals_in (h.lt hj) hj, ?_⟩))
    have h1 : (j == i) = false := by simp; exact fun z => hji z.symm
    have h2 : (j + 1 == i && w.category == 2) = false := by
      cases hq : (j + 1 == i) with
      | false => rfl
      | true =>
        have hq : j + 1 = i := by simpa using hq
        subst hq
        simp only [dk_chk, hj] at hc
        rw [Nat.eq_of_beq_eq_true hc]
        rfl
    rw [h1, h2]
    rfl
theorem dk_has.set2 {ls ls' : Array Slot} {nL i : Nat} {lv : dkL} {v : Value} (h : dk_has ls nL lv) (hc : dk_chk lv i = true)
    (h' : lv_has ls' nL ((i, v) :: (dk_vals nL lv).filter (fun q => !(q.1 == i) && (!(q.1 == i + 1) && !(q.1 + 1 == i && q.2.category == 2))))) : dk_has ls' nL ((i, some v) :: (i + 1, none) :: lv) := by
  refine ⟨h'.1, h'.2.1, fun j w hj => ?_⟩
  by_cases hji : i = j
  · subst hji
    rw [dk_get_hd] at hj
    cases hj
    exact h'.2.2 _ List.mem_cons_self
  · rw [dk_get_tl hji] at hj
    by_cases hj1 : i + 1 = j
    · subst hj1
      rw [dk_get_hd] at hj
      cases hj
    rw [dk_get_tl hj1] at hj
    refine h'.2.2 (j, w) (List.mem_cons_of_mem _ (List.mem_filter.mpr ⟨dk_vals_in (h.lt hj) hj, ?_⟩))
    have h1 : (j == i) = false := by simp; exact fun z => hji z.symm
    have h3 : (j == i + 1) = false := by simp; exact fun z => hj1 z.symm
    have h2 : (j + 1 == i && w.category == 2) = false := by
      cases hq : (j + 1 == i) with
      | false => rfl
      | true =>
        have hq : j + 1 = i := by simpa using hq
        subst hq
        simp only [dk_chk, hj] at hc
        rw [Nat.eq_of_beq_eq_true hc]
        rfl
    simp [h1, h2, h3]
def dk_args : Nat → List Value → dkL
  | _, [] => []
  | i, v :: vs => (i, some v) :: dk_args (if v.category = 2 then i + 2 else i + 1) vs
theorem dk_args_lv (vs : List Value) : ∀ i, ∀ q ∈ dk_args i vs, ∃ v, q.2 = some v ∧ (q.1, v) ∈ lv_args i vs := by
  induction vs with
  | nil => intro i q h; cases h
  | cons v vs ih =>
    intro i q h
    rcases List.mem_cons.mp h with rfl | h
    · exact ⟨v, rfl, List.mem_cons_self⟩
    · obtain ⟨w, h1, h2⟩ := ih _ q h
      exact ⟨w, h1, List.mem_cons_of_mem _ h2⟩
theorem dk_get_mem {lv : dkL} {i : Nat} {v : Value} (h : dk_get lv i = some v) : (i, some v) ∈ lv := by
  induction lv with
  | nil => cases h
  | cons q t ih =>
    obtain ⟨j, w⟩ := q
    by_cases hj : j = i
    · subst hj
      rw [dk_get_hd] at h
      rw [h]
      exact List.mem_cons_self
    · rw [dk_get_tl hj] at h
      exact List.mem_cons_of_mem _ (ih h)
/-! the judgement -/
def V (E : dkE) (G : dkG) (nL : Nat) (T : dkT) (M : dkM) (pc : Nat) (lv : dkL) (st : List Value) : Prop := match E with
  | (p, l, e, R, s, m, args, below, meth, c) => ∀ (H : Heap) (locs : List Loc) (ls : Array Slot), dk_Rep G M H → H.size = s.heap.size → va_S (dk_A G) s.heap H locs → dk_has ls nL lv →
    W p l e R s m args below meth c H locs 0 0 (MQ below (dk_Q G T) args s 0 0 (dk_A G)) (F0 m pc ls st)
/-- what is fixed in a method's walk -/
def dk_Cx (E : dkE) (G : dkG) (cc : ByteArray) (nL : Nat) (own : String) (ret : Option FieldType) (fr lo : Nat) : Prop := match E with
  | (p, _, _, R, s, m, args, _, meth, c) => p.tables.exec = Jvm.exec ∧ c.code = cc ∧ c.maxLocals = nL ∧ s.vm.findClass own = some m.cls ∧ (∀ w ∈ dk_tbl, w.before args s = true) ∧ meth.locks = false ∧ meth.sig.returnType = ret ∧ dk_K G s ∧ R.frames = fr ∧ R.locals = lo
theorem dk_Con.of {l : Launch} {C : String} {y : MethodName} {cc : ByteArray} {nL n : Nat} {ret : Option FieldType} {fr lo : Nat} {G : dkG} {as : List Value} {M : dkM} {T : dkT} (w : dk_mw C y cc nL ret n) (has : (lg_sl as).length ≤ nL)
    (k : ∀ E : dkE, E.2.1 = l → dk_Cx E G cc nL C ret fr lo → V E G nL T M 0 (dk_args 0 as) []) : dk_Con l y cc nL ret fr lo G as M T := by
  refine Met.ofW (cc := cc) (maxL := nL) (ret := ret) w.2.1 rfl ?_
  intro p e s m args below meth c s₁ B hml hv
  obtain ⟨rfl, hR, hK⟩ := hv
  have hts := atoms_spec (ws := Cond.code y cc nL ret :: dk_tbl) B.pre
  have hl := lv_entry as has
  rw [lg_entry_eq]
  have hC : dk_Cx (p, l, e, ({ frames := fr, cells := 0, slots := 0, locals := lo } : Room), s, m, as.toArray, below, meth, c) G cc nL C ret fr lo := ⟨B.exec, B.bytes, hml, w.1.1 ▸ findClass_of_methodNamed B.named, fun w h => hts w (List.mem_cons_of_mem _ h), B.notSynchronized, B.returns, hK, rfl, rfl⟩
  exact k _ rfl hC s.heap [] _ hR rfl va_S.rf ⟨hl.1, hl.2.1, fun i v h => by
    obtain ⟨w, h1, h2⟩ := dk_args_lv as 0 _ (dk_get_mem h)
    cases h1
    exact hl.2.2 _ h2⟩
section VR
variable {E : dkE} {G : dkG} {cc : ByteArray} {nL : Nat} {own : String} {ret : Option FieldType} {fr lo : Nat} {T : dkT} {M : dkM} {pc : Nat} {lv : dkL} {st : List Value}
theorem V.eqM {M' : dkM} (h : M = M') (k : V E G nL T M' pc lv st) : V E G nL T M pc lv st := h ▸ k
theorem V.eqT {T' : dkT} (h : T' = T) (k : V E G nL T' M pc lv st) : V E G nL T M pc lv st := h ▸ k
theorem V.top {x x' : Value} (h : x = x') (k : V E G nL T M pc lv (x' :: st)) : V E G nL T M pc lv (x :: st) := h ▸ k
/-- fewer locals are known -/
theorem V.sub {lv' : dkL} (h : ∀ q ∈ lv', q.2 = none ∨ dk_get lv q.1 = q.2) (k : V E G nL T M pc lv' st) : V E G nL T M pc lv st := by
  obtain ⟨p, l, e, R, s, m, args, below, meth, c⟩ := E
  intro H locs ls hR hz hS hl
  refine k H locs ls hR hz hS ⟨hl.1, hl.2.1, fun i v hg => ?_⟩
  rcases h _ (dk_get_mem hg) with z | z
  · cases z
  · exact hl.2.2 i v z
/-- a row that neither stores nor calls -/
theorem V.of {lv' : dkL} {st' : List Value} {pc' : Nat} (k : V E G nL T M pc' lv' st') (f : match E with
    | (p, l, e, R, s, m, args, below, meth, c) => ∀ (H : Heap) (locs : List Loc) (ls : Array Slot) (Q : State → Prop), dk_Rep G M H → dk_has ls nL lv → (∀ ls' : Array Slot, dk_has ls' nL lv' → W p l e R s m args below meth c H locs 0 0 Q (F0 m pc' ls' st')) → W p l e R s m args below meth c H locs 0 0 Q (F0 m pc ls st)) : V E G nL T M pc lv st := by
  obtain ⟨p, l, e, R, s, m, args, below, meth, c⟩ := E
  intro H locs ls hR hz hS hl
  exact f H locs ls _ hR hl (fun ls' hl' => k H locs ls' hR hz hS hl')
theorem V.iload_n (C : dk_Cx E G cc nL own ret fr lo) {k : Fin 4} {x : Int32} (d : decode cc pc = .ok (.iload_n k, 1)) (hg : dk_get lv k = some (.int x)) (kk : V E G nL T M (pc + 1) lv (.int x :: st)) : V E G nL T M pc lv st := by
  refine V.of kk ?_
  obtain ⟨p, l, e, R, s, m, args, below, meth, c⟩ := E
  exact fun H locs ls Q _ hl w => lv_iload_n C.1 C.2.1 d rfl (hl.at hg) (w ls hl)
theorem V.iload (C : dk_Cx E G cc nL own ret fr lo) {k : Nat} {x : Int32} (d : decode cc pc = .ok (.iload k, 2)) (hg : dk_get lv k = some (.int x)) (kk : V E G nL T M (pc + 2) lv (.int x :: st)) : V E G nL T M pc lv st := by
  refine V.of kk ?_
  obtain ⟨p, l, e, R, s, m, args, below, meth, c⟩ := E
  exact fun H locs ls Q _ hl w => lv_iload C.1 C.2.1 d (hl.at hg) (w ls hl)
theorem V.lload_n (C : dk_Cx E G cc nL own ret fr lo) {k : Fin 4} {x : Int64} (d : decode cc pc = .ok (.lload_n k, 1)) (hg : dk_get lv k = some (.long x)) (kk : V E G nL T M (pc + 1) lv (.long x :: st)) : V E G nL T M pc lv st := by
  refine V.of kk ?_
  obtain ⟨p, l, e, R, s, m, args, below, meth, c⟩ := E
  exact fun H locs ls Q _ hl w => lv_lload_n C.1 C.2.1 d rfl (hl.at hg) (w ls hl)
theorem V.aload_n (C : dk_Cx E G cc nL own ret fr lo) {k : Fin 4} {x : Nat} (d : decode cc pc = .ok (.aload_n k, 1)) (hg : dk_get lv k = some (.ref x)) (kk : V E G nL T M (pc + 1) lv (.ref x :: st)) : V E G nL T M pc lv st := by
  refine V.of kk ?_
  obtain ⟨p, l, e, R, s, m, args, below, meth, c⟩ := E
  exact fun H locs ls Q _ hl w => lv_aload_n C.1 C.2.1 d rfl (hl.at hg) (w ls hl)
theorem V.istore_n (C : dk_Cx E G cc nL own ret fr lo) {k : Fin 4} {x : Int32} (d : decode cc pc = .ok (.istore_n k, 1)) (hn : Nat.ble (k.val + 1) nL = true) (hc : dk_chk lv k = true) (kk : V E G nL T M (pc + 1) ((k.val, some (.int x)) :: lv) st) : V E G nL T M pc lv (.int x :: st) := by
  refine V.of kk ?_
  obtain ⟨p, l, e, R, s, m, args, below, meth, c⟩ := E
  exact fun H locs ls Q _ hl w => lv_istore_n C.1 C.2.1 d rfl hl.lv (Nat.le_of_ble_eq_true hn) rfl (fun ls' h' => w ls' (hl.set1 hc h'))
theorem V.istore (C : dk_Cx E G cc nL own ret fr lo) {k : Nat} {x : Int32} (d : decode cc pc = .ok (.istore k, 2)) (hn : Nat.ble (k + 1) nL = true) (hc : dk_chk lv k = true) (kk : V E G nL T M (pc + 2) ((k, some (.int x)) :: lv) st) : V E G nL T M pc lv (.int x :: st) := by
  refine V.of kk ?_
  obtain ⟨p, l, e, R, s, m, args, below, meth, c⟩ := E
  exact fun H locs ls Q _ hl w => lv_istore C.1 C.2.1 d hl.lv (Nat.le_of_ble_eq_true hn) rfl (fun ls' h' => w ls' (hl.set1 hc h'))
theorem V.astore_n (C : dk_Cx E G cc nL own ret fr lo) {k : Fin 4} {x : Nat} (d : decode cc pc = .ok (.astore_n k, 1)) (hn : Nat.ble (k.val + 1) nL = true) (hc : dk_chk lv k = true) (kk : V E G nL T M (pc + 1) ((k.val, some (.ref x)) :: lv) st) : V E G nL T M pc lv (.ref x :: st) := by
  refine V.of kk ?_
  obtain ⟨p, l, e, R, s, m, args, below, meth, c⟩ := E
  exact fun H locs ls Q _ hl w => lv_astore_n C.1 C.2.1 d rfl hl.lv (Nat.le_of_ble_eq_true hn) rfl (fun ls' h' => w ls' (hl.set1 hc h'))
theorem V.lstore_n (C : dk_Cx E G cc nL own ret fr lo) {k : Fin 4} {x : Int64} (d : decode cc pc = .ok (.lstore_n k, 1)) (hn : Nat.ble (k.val + 1 + 1) nL = true) (hc : dk_chk lv k = true) (kk : V E G nL T M (pc + 1) ((k.val, some (.long x)) :: (k.val + 1, none) :: lv) st) : V E G nL T M pc lv (.long x :: st) := by
  refine V.of kk ?_
  obtain ⟨p, l, e, R, s, m, args, below, meth, c⟩ := E
  exact fun H locs ls Q _ hl w => lv_lstore_n C.1 C.2.1 d rfl hl.lv (Nat.le_of_ble_eq_true hn) rfl (fun ls' h' => w ls' (hl.set2 hc h'))
theorem V.iinc (C : dk_Cx E G cc nL own ret fr lo) {k : Nat} {n : Int} {x v : Int32} (d : decode cc pc = .ok (.iinc k n, 3)) (hg : dk_get lv k = some (.int x)) (hv : x + Int32.ofInt n = v) (hc : dk_chk lv k = true) (kk : V E G nL T M (pc + 3) ((k, some (.int v)) :: lv) st) : V E G nL T M pc lv st := by
  refine V.of kk ?_
  obtain ⟨p, l, e, R, s, m, args, below, meth, c⟩ := E
  refine fun H locs ls Q _ hl w => ?_
  obtain ⟨j, hj⟩ := List.getElem?_of_mem (dk_vals_in (hl.lt hg) hg)
  exact lv_iinc C.1 C.2.1 d hl.lv hj hv (hl.lt hg) rfl (fun ls' h' => w ls' (hl.set1 hc h'))
theorem V.iconst (C : dk_Cx E G cc nL own ret fr lo) {n : Int} (v : Int32) (d : decode cc pc = .ok (.iconst n, 1)) (hv : Int32.ofInt n = v) (kk : V E G nL T M (pc + 1) lv (.int v :: st)) : V E G nL T M pc lv st := by
  refine V.of kk ?_
  obtain ⟨p, l, e, R, s, m, args, below, meth, c⟩ := E
  exact fun H locs ls Q _ hl w => lv_iconst C.1 C.2.1 d hv (w ls hl)
theorem V.bipush (C : dk_Cx E G cc nL own ret fr lo) {n : Int} (v : Int32) (d : decode cc pc = .ok (.bipush n, 2)) (hv : (Int8.ofInt n).toInt32 = v) (kk : V E G nL T M (pc + 2) lv (.int v :: st)) : V E G nL T M pc lv st := by
  refine V.of kk ?_
  obtain ⟨p, l, e, R, s, m, args, below, meth, c⟩ := E
  exact fun H locs ls Q _ hl w => lv_bipush C.1 C.2.1 d hv (w ls hl)
theorem V.sipush (C : dk_Cx E G cc nL own ret fr lo) {n : Int} (v : Int32) (d : decode cc pc = .ok (.sipush n, 3)) (hv : (Int16.ofInt n).toInt32 = v) (kk : V E G nL T M (pc + 3) lv (.int v :: st)) : V E G nL T M pc lv st := by
  refine V.of kk ?_
  obtain ⟨p, l, e, R, s, m, args, below, meth, c⟩ := E
  exact fun H locs ls Q _ hl w => lv_sipush C.1 C.2.1 d hv (w ls hl)
theorem V.ldc (C : dk_Cx E G cc nL own ret fr lo) {i : Nat} {v : Int32} (hk : Cond.constant own i v ∈ dk_tbl) (d : decode cc pc = .ok (.ldc i, 2)) (kk : V E G nL T M (pc + 2) lv (.int v :: st)) : V E G nL T M pc lv st := by
  refine V.of kk ?_
  obtain ⟨p, l, e, R, s, m, args, below, meth, c⟩ := E
  exact fun H locs ls Q _ hl w => lv_ldc C.1 C.2.1 C.2.2.2.1 (C.2.2.2.2.1 _ hk) d (w ls hl)
theorem V.ldc2 (C : dk_Cx E G cc nL own ret fr lo) {i : Nat} {v : Int64} (hk : Cond.constantLong own i v ∈ dk_tbl) (d : decode cc pc = .ok (.ldc2_w i, 3)) (kk : V E G nL T M (pc + 3) lv (.long v :: st)) : V E G nL T M pc lv st := by
  refine V.of kk ?_
  obtain ⟨p, l, e, R, s, m, args, below, meth, c⟩ := E
  exact fun H locs ls Q _ hl w => lv_ldc2 C.1 C.2.1 C.2.2.2.1 (C.2.2.2.2.1 _ hk) d (w ls hl)
theorem V.iadd (C : dk_Cx E G cc nL own ret fr lo) {x y : Int32} (d : decode cc pc = .ok (.iadd, 1)) (kk : V E G nL T M (pc + 1) lv (.int (x + y) :: st)) : V E G nL T M pc lv (.int y :: .int x :: st) := by
  refine V.of kk ?_
  obtain ⟨p, l, e, R, s, m, args, below, meth, c⟩ := E
  exact fun H locs ls Q _ hl w => lv_iadd C.1 C.2.1 d (w ls hl)
theorem V.isub (C : dk_Cx E G cc nL own ret fr lo) {x y : Int32} (d : decode cc pc = .ok (.isub, 1)) (kk : V E G nL T M (pc + 1) lv (.int (x - y) :: st)) : V E G nL T M pc lv (.int y :: .int x :: st) := by
  refine V.of kk ?_
  obtain ⟨p, l, e, R, s, m, args, below, meth, c⟩ := E
  exact fun H locs ls Q _ hl w => lv_isub C.1 C.2.1 d (w ls hl)
theorem V.imul (C : dk_Cx E G cc nL own ret fr lo) {x y : Int32} (d : decode cc pc = .ok (.imul, 1)) (kk : V E G nL T M (pc + 1) lv (.int (x * y) :: st)) : V E G nL T M pc lv (.int y :: .int x :: st) := by
  refine V.of kk ?_
  obtain ⟨p, l, e, R, s, m, args, below, meth, c⟩ := E
  exact fun H locs ls Q _ hl w => lv_imul C.1 C.2.1 d (w ls hl)
theorem V.iand (C : dk_Cx E G cc nL own ret fr lo) {x y : Int32} (d : decode cc pc = .ok (.iand, 1)) (kk : V E G nL T M (pc + 1) lv (.int (x &&& y) :: st)) : V E G nL T M pc lv (.int y :: .int x :: st) := by
  refine V.of kk ?_
  obtain ⟨p, l, e, R, s, m, args, below, meth, c⟩ := E
  exact fun H locs ls Q _ hl w => lv_iand C.1 C.2.1 d (w ls hl)
theorem V.ixor (C : dk_Cx E G cc nL own ret fr lo) {x y : Int32} (d : decode cc pc = .ok (.ixor, 1)) (kk : V E G nL T M (pc + 1) lv (.int (x ^^^ y) :: st)) : V E G nL T M pc lv (.int y :: .int x :: st) := by
  refine V.of kk ?_
  obtain ⟨p, l, e, R, s, m, args, below, meth, c⟩ := E
  exact fun H locs ls Q _ hl w => lv_ixor C.1 C.2.1 d (w ls hl)
theorem V.idiv (C : dk_Cx E G cc nL own ret fr lo) {x y : Int32} (d : decode cc pc = .ok (.idiv, 1)) (hne : ¬ y = 0) (kk : V E G nL T M (pc + 1) lv (.int (x / y) :: st)) : V E G nL T M pc lv (.int y :: .int x :: st) := by
  refine V.of kk ?_
  obtain ⟨p, l, e, R, s, m, args, below, meth, c⟩ := E
  exact fun H locs ls Q _ hl w => lv_idiv C.1 C.2.1 d hne (w ls hl)
theorem V.irem (C : dk_Cx E G cc nL own ret fr lo) {x y : Int32} (d : decode cc pc = .ok (.irem, 1)) (hne : ¬ y = 0) (kk : V E G nL T M (pc + 1) lv (.int (x - x / y * y) :: st)) : V E G nL T M pc lv (.int y :: .int x :: st) := by
  refine V.of kk ?_
  obtain ⟨p, l, e, R, s, m, args, below, meth, c⟩ := E
  exact fun H locs ls Q _ hl w => lv_irem C.1 C.2.1 d hne (w ls hl)
theorem V.ladd (C : dk_Cx E G cc nL own ret fr lo) {x y : Int64} (d : decode cc pc = .ok (.ladd, 1)) (kk : V E G nL T M (pc + 1) lv (.long (x + y) :: st)) : V E G nL T M pc lv (.long y :: .long x :: st) := by
  refine V.of kk ?_
  obtain ⟨p, l, e, R, s, m, args, below, meth, c⟩ := E
  exact fun H locs ls Q _ hl w => lv_ladd C.1 C.2.1 d (w ls hl)
theorem V.lmul (C : dk_Cx E G cc nL own ret fr lo) {x y : Int64} (d : decode cc pc = .ok (.lmul, 1)) (kk : V E G nL T M (pc + 1) lv (.long (x * y) :: st)) : V E G nL T M pc lv (.long y :: .long x :: st) := by
  refine V.of kk ?_
  obtain ⟨p, l, e, R, s, m, args, below, meth, c⟩ := E
  exact fun H locs ls Q _ hl w => lv_lmul C.1 C.2.1 d (w ls hl)
theorem V.lcmp (C : dk_Cx E G cc nL own ret fr lo) {x y : Int64} (d : decode cc pc = .ok (.lcmp, 1)) (kk : V E G nL T M (pc + 1) lv (.int (lg_cmp x y) :: st)) : V E G nL T M pc lv (.long y :: .long x :: st) := by
  refine V.of kk ?_
  obtain ⟨p, l, e, R, s, m, args, below, meth, c⟩ := E
  exact fun H locs ls Q _ hl w => W.lcmp C.1 C.2.1 d (w ls hl)
theorem V.i2l (C : dk_Cx E G cc nL own ret fr lo) {x : Int32} (d : decode cc pc = .ok (.i2l, 1)) (kk : V E G nL T M (pc + 1) lv (.long x.toInt64 :: st)) : V E G nL T M pc lv (.int x :: st) := by
  refine V.of kk ?_
  obtain ⟨p, l, e, R, s, m, args, below, meth, c⟩ := E
  exact fun H locs ls Q _ hl w => lv_i2l C.1 C.2.1 d rfl (w ls hl)
theorem V.dup (C : dk_Cx E G cc nL own ret fr lo) {v : Value} (d : decode cc pc = .ok (.dup, 1)) (hv : v.category = 1) (kk : V E G nL T M (pc + 1) lv (v :: v :: st)) : V E G nL T M pc lv (v :: st) := by
  refine V.of kk ?_
  obtain ⟨p, l, e, R, s, m, args, below, meth, c⟩ := E
  exact fun H locs ls Q _ hl w => lv_dup C.1 C.2.1 d hv (w ls hl)
theorem V.dup2 (C : dk_Cx E G cc nL own ret fr lo) {v u : Value} (d : decode cc pc = .ok (.dup2, 1)) (hv : v.category = 1) (hu : u.category = 1) (kk : V E G nL T M (pc + 1) lv (v :: u :: v :: u :: st)) : V E G nL T M pc lv (v :: u :: st) := by
  refine V.of kk ?_
  obtain ⟨p, l, e, R, s, m, args, below, meth, c⟩ := E
  exact fun H locs ls Q _ hl w => lv_dup2_11 C.1 C.2.1 d hv hu (w ls hl)
theorem V.pop (C : dk_Cx E G cc nL own ret fr lo) {v : Value} (d : decode cc pc = .ok (.pop, 1)) (hv : v.category = 1) (kk : V E G nL T M (pc + 1) lv (st)) : V E G nL T M pc lv (v :: st) := by
  refine V.of kk ?_
  obtain ⟨p, l, e, R, s, m, args, below, meth, c⟩ := E
  exact fun H locs ls Q _ hl w => lv_pop C.1 C.2.1 d hv (w ls hl)
theorem V.goto (C : dk_Cx E G cc nL own ret fr lo) {off : Int} (tgt : Nat) (d : decode cc pc = .ok (.goto off, 3)) (ht : (pc : Int) + off = (tgt : Int)) (kk : V E G nL T M tgt lv st) : V E G nL T M pc lv st := by
  refine V.of kk ?_
  obtain ⟨p, l, e, R, s, m, args, below, meth, c⟩ := E
  exact fun H locs ls Q _ hl w => lv_goto C.1 C.2.1 d ht (w ls hl)
theorem V.icmp_eq (C : dk_Cx E G cc nL own ret fr lo) {x y : Int32} {off : Int} (tgt : Nat) (d : decode cc pc = .ok (.if_icmp .eq off, 3)) (ht : (pc : Int) + off = (tgt : Int)) (kt : x = y → V E G nL T M tgt lv st) (kf : ¬ x = y → V E G nL T M (pc + 3) lv st) : V E G nL T M pc lv (.int y :: .int x :: st) := by
  obtain ⟨p, l, e, R, s, m, args, below, meth, c⟩ := E
  intro H locs ls hR hz hS hl
  exact lv_icmp_eq C.1 C.2.1 d ht (fun h => kt h H locs ls hR hz hS hl) (fun h => kf h H locs ls hR hz hS hl)
theorem V.icmp_eq_t (C : dk_Cx E G cc nL own ret fr lo) {x y : Int32} {off : Int} (tgt : Nat) (d : decode cc pc = .ok (.if_icmp .eq off, 3)) (ht : (pc : Int) + off = (tgt : Int)) (hc : x = y) (kt : V E G nL T M tgt lv st) : V E G nL T M pc lv (.int y :: .int x :: st) :=
  V.icmp_eq C tgt d ht (fun _ => kt) (fun h => by first | exact absurd hc h | exact absurd h (by simpa using hc))
theorem V.icmp_eq_f (C : dk_Cx E G cc nL own ret fr lo) {x y : Int32} {off : Int} (tgt : Nat) (d : decode cc pc = .ok (.if_icmp .eq off, 3)) (ht : (pc : Int) + off = (tgt : Int)) (hc : ¬ x = y) (kf : V E G nL T M (pc + 3) lv st) : V E G nL T M pc lv (.int y :: .int x :: st) :=
  V.icmp_eq C tgt d ht (fun h => by first | exact absurd h hc | exact absurd hc (by simpa using h)) (fun _ => kf)
theorem V.if_eq (C : dk_Cx E G cc nL own ret fr lo) {x : Int32} {off : Int} (tgt : Nat) (d : decode cc pc = .ok (.ifCond .eq off, 3)) (ht : (pc : Int) + off = (tgt : Int)) (kt : x = 0 → V E G nL T M tgt lv st) (kf : ¬ x = 0 → V E G nL T M (pc + 3) lv st) : V E G nL T M pc lv (.int x :: st) := by
  obtain ⟨p, l, e, R, s, m, args, below, meth, c⟩ := E
  intro H locs ls hR hz hS hl
  exact lv_if_eq C.1 C.2.1 d ht (fun h => kt h H locs ls hR hz hS hl) (fun h => kf h H locs ls hR hz hS hl)
theorem V.if_eq_t (C : dk_Cx E G cc nL own ret fr lo) {x : Int32} {off : Int} (tgt : Nat) (d : decode cc pc = .ok (.ifCond .eq off, 3)) (ht : (pc : Int) + off = (tgt : Int)) (hc : x = 0) (kt : V E G nL T M tgt lv st) : V E G nL T M pc lv (.int x :: st) :=
  V.if_eq C tgt d ht (fun _ => kt) (fun h => by first | exact absurd hc h | exact absurd h (by simpa using hc))
theorem V.if_eq_f (C : dk_Cx E G cc nL own ret fr lo) {x : Int32} {off : Int} (tgt : Nat) (d : decode cc pc = .ok (.ifCond .eq off, 3)) (ht : (pc : Int) + off = (tgt : Int)) (hc : ¬ x = 0) (kf : V E G nL T M (pc + 3) lv st) : V E G nL T M pc lv (.int x :: st) :=
  V.if_eq C tgt d ht (fun h => by first | exact absurd h hc | exact absurd hc (by simpa using h)) (fun _ => kf)
theorem V.icmp_ne (C : dk_Cx E G cc nL own ret fr lo) {x y : Int32} {off : Int} (tgt : Nat) (d : decode cc pc = .ok (.if_icmp .ne off, 3)) (ht : (pc : Int) + off = (tgt : Int)) (kt : ¬ x = y → V E G nL T M tgt lv st) (kf : x = y → V E G nL T M (pc + 3) lv st) : V E G nL T M pc lv (.int y :: .int x :: st) := by
  obtain ⟨p, l, e, R, s, m, args, below, meth, c⟩ := E
  intro H locs ls hR hz hS hl
  exact lv_icmp_ne C.1 C.2.1 d ht (fun h => kt h H locs ls hR hz hS hl) (fun h => kf h H locs ls hR hz hS hl)
theorem V.icmp_ne_t (C : dk_Cx E G cc nL own ret fr lo) {x y : Int32} {off : Int} (tgt : Nat) (d : decode cc pc = .ok (.if_icmp .ne off, 3)) (ht : (pc : Int) + off = (tgt : Int)) (hc : ¬ x = y) (kt : V E G nL T M tgt lv st) : V E G nL T M pc lv (.int y :: .int x :: st) :=
  V.icmp_ne C tgt d ht (fun _ => kt) (fun h => by first | exact absurd hc h | exact absurd h (by simpa using hc))
theorem V.icmp_ne_f (C : dk_Cx E G cc nL own ret fr lo) {x y : Int32} {off : Int} (tgt : Nat) (d : decode cc pc = .ok (.if_icmp .ne off, 3)) (ht : (pc : Int) + off = (tgt : Int)) (hc : x = y) (kf : V E G nL T M (pc + 3) lv st) : V E G nL T M pc lv (.int y :: .int x :: st) :=
  V.icmp_ne C tgt d ht (fun h => by first | exact absurd h hc | exact absurd hc (by simpa using h)) (fun _ => kf)
theorem V.if_ne (C : dk_Cx E G cc nL own ret fr lo) {x : Int32} {off : Int} (tgt : Nat) (d : decode cc pc = .ok (.ifCond .ne off, 3)) (ht : (pc : Int) + off = (tgt : Int)) (kt : ¬ x = 0 → V E G nL T M tgt lv st) (kf : x = 0 → V E G nL T M (pc + 3) lv st) : V E G nL T M pc lv (.int x :: st) := by
  obtain ⟨p, l, e, R, s, m, args, below, meth, c⟩ := E
  intro H locs ls hR hz hS hl
  exact lv_if_ne C.1 C.2.1 d ht (fun h => kt h H locs ls hR hz hS hl) (fun h => kf h H locs ls hR hz hS hl)
theorem V.if_ne_t (C : dk_Cx E G cc nL own ret fr lo) {x : Int32} {off : Int} (tgt : Nat) (d : decode cc pc = .ok (.ifCond .ne off, 3)) (ht : (pc : Int) + off = (tgt : Int)) (hc : ¬ x = 0) (kt : V E G nL T M tgt lv st) : V E G nL T M pc lv (.int x :: st) :=
  V.if_ne C tgt d ht (fun _ => kt) (fun h => by first | exact absurd hc h | exact absurd h (by simpa using hc))
theorem V.if_ne_f (C : dk_Cx E G cc nL own ret fr lo) {x : Int32} {off : Int} (tgt : Nat) (d : decode cc pc = .ok (.ifCond .ne off, 3)) (ht : (pc : Int) + off = (tgt : Int)) (hc : x = 0) (kf : V E G nL T M (pc + 3) lv st) : V E G nL T M pc lv (.int x :: st) :=
  V.if_ne C tgt d ht (fun h => by first | exact absurd h hc | exact absurd hc (by simpa using h)) (fun _ => kf)
theorem V.icmp_lt (C : dk_Cx E G cc nL own ret fr lo) {x y : Int32} {off : Int} (tgt : Nat) (d : decode cc pc = .ok (.if_icmp .lt off, 3)) (ht : (pc : Int) + off = (tgt : Int)) (kt : x < y → V E G nL T M tgt lv st) (kf : ¬ x < y → V E G nL T M (pc + 3) lv st) : V E G nL T M pc lv (.int y :: .int x :: st) := by
  obtain ⟨p, l, e, R, s, m, args, below, meth, c⟩ := E
  intro H locs ls hR hz hS hl
  exact lv_icmp_lt C.1 C.2.1 d ht (fun h => kt h H locs ls hR hz hS hl) (fun h => kf h H locs ls hR hz hS hl)
theorem V.icmp_lt_t (C : dk_Cx E G cc nL own ret fr lo) {x y : Int32} {off : Int} (tgt : Nat) (d : decode cc pc = .ok (.if_icmp .lt off, 3)) (ht : (pc : Int) + off = (tgt : Int)) (hc : x < y) (kt : V E G nL T M tgt lv st) : V E G nL T M pc lv (.int y :: .int x :: st) :=
  V.icmp_lt C tgt d ht (fun _ => kt) (fun h => by first | exact absurd hc h | exact absurd h (by simpa using hc))
theorem V.icmp_lt_f (C : dk_Cx E G cc nL own ret fr lo) {x y : Int32} {off : Int} (tgt : Nat) (d : decode cc pc = .ok (.if_icmp .lt off, 3)) (ht : (pc : Int) + off = (tgt : Int)) (hc : ¬ x < y) (kf : V E G nL T M (pc + 3) lv st) : V E G nL T M pc lv (.int y :: .int x :: st) :=
  V.icmp_lt C tgt d ht (fun h => by first | exact absurd h hc | exact absurd hc (by simpa using h)) (fun _ => kf)
theorem V.if_lt (C : dk_Cx E G cc nL own ret fr lo) {x : Int32} {off : Int} (tgt : Nat) (d : decode cc pc = .ok (.ifCond .lt off, 3)) (ht : (pc : Int) + off = (tgt : Int)) (kt : x < 0 → V E G nL T M tgt lv st) (kf : ¬ x < 0 → V E G nL T M (pc + 3) lv st) : V E G nL T M pc lv (.int x :: st) := by
  obtain ⟨p, l, e, R, s, m, args, below, meth, c⟩ := E
  intro H locs ls hR hz hS hl
  exact lv_if_lt C.1 C.2.1 d ht (fun h => kt h H locs ls hR hz hS hl) (fun h => kf h H locs ls hR hz hS hl)
theorem V.if_lt_t (C : dk_Cx E G cc nL own ret fr lo) {x : Int32} {off : Int} (tgt : Nat) (d : decode cc pc = .ok (.ifCond .lt off, 3)) (ht : (pc : Int) + off = (tgt : Int)) (hc : x < 0) (kt : V E G nL T M tgt lv st) : V E G nL T M pc lv (.int x :: st) :=
  V.if_lt C tgt d ht (fun _ => kt) (fun h => by first | exact absurd hc h | exact absurd h (by simpa using hc))
theorem V.if_lt_f (C : dk_Cx E G cc nL own ret fr lo) {x : Int32} {off : Int} (tgt : Nat) (d : decode cc pc = .ok (.ifCond .lt off, 3)) (ht : (pc : Int) + off = (tgt : Int)) (hc : ¬ x < 0) (kf : V E G nL T M (pc + 3) lv st) : V E G nL T M pc lv (.int x :: st) :=
  V.if_lt C tgt d ht (fun h => by first | exact absurd h hc | exact absurd hc (by simpa using h)) (fun _ => kf)
theorem V.icmp_ge (C : dk_Cx E G cc nL own ret fr lo) {x y : Int32} {off : Int} (tgt : Nat) (d : decode cc pc = .ok (.if_icmp .ge off, 3)) (ht : (pc : Int) + off = (tgt : Int)) (kt : y ≤ x → V E G nL T M tgt lv st) (kf : ¬ y ≤ x → V E G nL T M (pc + 3) lv st) : V E G nL T M pc lv (.int y :: .int x :: st) := by
  obtain ⟨p, l, e, R, s, m, args, below, meth, c⟩ := E
  intro H locs ls hR hz hS hl
  exact lv_icmp_ge C.1 C.2.1 d ht (fun h => kt h H locs ls hR hz hS hl) (fun h => kf h H locs ls hR hz hS hl)
theorem V.icmp_ge_t (C : dk_Cx E G cc nL own ret fr lo) {x y : Int32} {off : Int} (tgt : Nat) (d : decode cc pc = .ok (.if_icmp .ge off, 3)) (ht : (pc : Int) + off = (tgt : Int)) (hc : y ≤ x) (kt : V E G nL T M tgt lv st) : V E G nL T M pc lv (.int y :: .int x :: st) :=
  V.icmp_ge C tgt d ht (fun _ => kt) (fun h => by first | exact absurd hc h | exact absurd h (by simpa using hc))
theorem V.icmp_ge_f (C : dk_Cx E G cc nL own ret fr lo) {x y : Int32} {off : Int} (tgt : Nat) (d : decode cc pc = .ok (.if_icmp .ge off, 3)) (ht : (pc : Int) + off = (tgt : Int)) (hc : ¬ y ≤ x) (kf : V E G nL T M (pc + 3) lv st) : V E G nL T M pc lv (.int y :: .int x :: st) :=
  V.icmp_ge C tgt d ht (fun h => by first | exact absurd h hc | exact absurd hc (by simpa using h)) (fun _ => kf)
theorem V.if_ge (C : dk_Cx E G cc nL own ret fr lo) {x : Int32} {off : Int} (tgt : Nat) (d : decode cc pc = .ok (.ifCond .ge off, 3)) (ht : (pc : Int) + off = (tgt : Int)) (kt : 0 ≤ x → V E G nL T M tgt lv st) (kf : ¬ 0 ≤ x → V E G nL T M (pc + 3) lv st) : V E G nL T M pc lv (.int x :: st) := by
  obtain ⟨p, l, e, R, s, m, args, below, meth, c⟩ := E
  intro H locs ls hR hz hS hl
  exact lv_if_ge C.1 C.2.1 d ht (fun h => kt h H locs ls hR hz hS hl) (fun h => kf h H locs ls hR hz hS hl)
theorem V.if_ge_t (C : dk_Cx E G cc nL own ret fr lo) {x : Int32} {off : Int} (tgt : Nat) (d : decode cc pc = .ok (.ifCond .ge off, 3)) (ht : (pc : Int) + off = (tgt : Int)) (hc : 0 ≤ x) (kt : V E G nL T M tgt lv st) : V E G nL T M pc lv (.int x :: st) :=
  V.if_ge C tgt d ht (fun _ => kt) (fun h => by first | exact absurd hc h | exact absurd h (by simpa using hc))
theorem V.if_ge_f (C : dk_Cx E G cc nL own ret fr lo) {x : Int32} {off : Int} (tgt : Nat) (d : decode cc pc = .ok (.ifCond .ge off, 3)) (ht : (pc : Int) + off = (tgt : Int)) (hc : ¬ 0 ≤ x) (kf : V E G nL T M (pc + 3) lv st) : V E G nL T M pc lv (.int x :: st) :=
  V.if_ge C tgt d ht (fun h => by first | exact absurd h hc | exact absurd hc (by simpa using h)) (fun _ => kf)
theorem V.icmp_gt (C : dk_Cx E G cc nL own ret fr lo) {x y : Int32} {off : Int} (tgt : Nat) (d : decode cc pc = .ok (.if_icmp .gt off, 3)) (ht : (pc : Int) + off = (tgt : Int)) (kt : y < x → V E G nL T M tgt lv st) (kf : ¬ y < x → V E G nL T M (pc + 3) lv st) : V E G nL T M pc lv (.int y :: .int x :: st) := by
  obtain ⟨p, l, e, R, s, m, args, below, meth, c⟩ := E
  intro H locs ls hR hz hS hl
  exact lv_icmp_gt C.1 C.2.1 d ht (fun h => kt h H locs ls hR hz hS hl) (fun h => kf h H locs ls hR hz hS hl)
theorem V.icmp_gt_t (C : dk_Cx E G cc nL own ret fr lo) {x y : Int32} {off : Int} (tgt : Nat) (d : decode cc pc = .ok (.if_icmp .gt off, 3)) (ht : (pc : Int) + off = (tgt : Int)) (hc : y < x) (kt : V E G nL T M tgt lv st) : V E G nL T M pc lv (.int y :: .int x :: st) :=
  V.icmp_gt C tgt d ht (fun _ => kt) (fun h => by first | exact absurd hc h | exact absurd h (by simpa using hc))
theorem V.icmp_gt_f (C : dk_Cx E G cc nL own ret fr lo) {x y : Int32} {off : Int} (tgt : Nat) (d : decode cc pc = .ok (.if_icmp .gt off, 3)) (ht : (pc : Int) + off = (tgt : Int)) (hc : ¬ y < x) (kf : V E G nL T M (pc + 3) lv st) : V E G nL T M pc lv (.int y :: .int x :: st) :=
  V.icmp_gt C tgt d ht (fun h => by first | exact absurd h hc | exact absurd hc (by simpa using h)) (fun _ => kf)
theorem V.if_gt (C : dk_Cx E G cc nL own ret fr lo) {x : Int32} {off : Int} (tgt : Nat) (d : decode cc pc = .ok (.ifCond .gt off, 3)) (ht : (pc : Int) + off = (tgt : Int)) (kt : 0 < x → V E G nL T M tgt lv st) (kf : ¬ 0 < x → V E G nL T M (pc + 3) lv st) : V E G nL T M pc lv (.int x :: st) := by
  obtain ⟨p, l, e, R, s, m, args, below, meth, c⟩ := E
  intro H locs ls hR hz hS hl
  exact lv_if_gt C.1 C.2.1 d ht (fun h => kt h H locs ls hR hz hS hl) (fun h => kf h H locs ls hR hz hS hl)
theorem V.if_gt_t (C : dk_Cx E G cc nL own ret fr lo) {x : Int32} {off : Int} (tgt : Nat) (d : decode cc pc = .ok (.ifCond .gt off, 3)) (ht : (pc : Int) + off = (tgt : Int)) (hc : 0 < x) (kt : V E G nL T M tgt lv st) : V E G nL T M pc lv (.int x :: st) :=
  V.if_gt C tgt d ht (fun _ => kt) (fun h => by first | exact absurd hc h | exact absurd h (by simpa using hc))
theorem V.if_gt_f (C : dk_Cx E G cc nL own ret fr lo) {x : Int32} {off : Int} (tgt : Nat) (d : decode cc pc = .ok (.ifCond .gt off, 3)) (ht : (pc : Int) + off = (tgt : Int)) (hc : ¬ 0 < x) (kf : V E G nL T M (pc + 3) lv st) : V E G nL T M pc lv (.int x :: st) :=
  V.if_gt C tgt d ht (fun h => by first | exact absurd h hc | exact absurd hc (by simpa using h)) (fun _ => kf)
theorem V.icmp_le (C : dk_Cx E G cc nL own ret fr lo) {x y : Int32} {off : Int} (tgt : Nat) (d : decode cc pc = .ok (.if_icmp .le off, 3)) (ht : (pc : Int) + off = (tgt : Int)) (kt : x ≤ y → V E G nL T M tgt lv st) (kf : ¬ x ≤ y → V E G nL T M (pc + 3) lv st) : V E G nL T M pc lv (.int y :: .int x :: st) := by
  obtain ⟨p, l, e, R, s, m, args, below, meth, c⟩ := E
  intro H locs ls hR hz hS hl
  exact lv_icmp_le C.1 C.2.1 d ht (fun h => kt h H locs ls hR hz hS hl) (fun h => kf h H locs ls hR hz hS hl)
theorem V.icmp_le_t (C : dk_Cx E G cc nL own ret fr lo) {x y : Int32} {off : Int} (tgt : Nat) (d : decode cc pc = .ok (.if_icmp .le off, 3)) (ht : (pc : Int) + off = (tgt : Int)) (hc : x ≤ y) (kt : V E G nL T M tgt lv st) : V E G nL T M pc lv (.int y :: .int x :: st) :=
  V.icmp_le C tgt d ht (fun _ => kt) (fun h => by first | exact absurd hc h | exact absurd h (by simpa using hc))
theorem V.icmp_le_f (C : dk_Cx E G cc nL own ret fr lo) {x y : Int32} {off : Int} (tgt : Nat) (d : decode cc pc = .ok (.if_icmp .le off, 3)) (ht : (pc : Int) + off = (tgt : Int)) (hc : ¬ x ≤ y) (kf : V E G nL T M (pc + 3) lv st) : V E G nL T M pc lv (.int y :: .int x :: st) :=
  V.icmp_le C tgt d ht (fun h => by first | exact absurd h hc | exact absurd hc (by simpa using h)) (fun _ => kf)
theorem V.if_le (C : dk_Cx E G cc nL own ret fr lo) {x : Int32} {off : Int} (tgt : Nat) (d : decode cc pc = .ok (.ifCond .le off, 3)) (ht : (pc : Int) + off = (tgt : Int)) (kt : x ≤ 0 → V E G nL T M tgt lv st) (kf : ¬ x ≤ 0 → V E G nL T M (pc + 3) lv st) : V E G nL T M pc lv (.int x :: st) := by
  obtain ⟨p, l, e, R, s, m, args, below, meth, c⟩ := E
  intro H locs ls hR hz hS hl
  exact lv_if_le C.1 C.2.1 d ht (fun h => kt h H locs ls hR hz hS hl) (fun h => kf h H locs ls hR hz hS hl)
theorem V.if_le_t (C : dk_Cx E G cc nL own ret fr lo) {x : Int32} {off : Int} (tgt : Nat) (d : decode cc pc = .ok (.ifCond .le off, 3)) (ht : (pc : Int) + off = (tgt : Int)) (hc : x ≤ 0) (kt : V E G nL T M tgt lv st) : V E G nL T M pc lv (.int x :: st) :=
  V.if_le C tgt d ht (fun _ => kt) (fun h => by first | exact absurd hc h | exact absurd h (by simpa using hc))
theorem V.if_le_f (C : dk_Cx E G cc nL own ret fr lo) {x : Int32} {off : Int} (tgt : Nat) (d : decode cc pc = .ok (.ifCond .le off, 3)) (ht : (pc : Int) + off = (tgt : Int)) (hc : ¬ x ≤ 0) (kf : V E G nL T M (pc + 3) lv st) : V E G nL T M pc lv (.int x :: st) :=
  V.if_le C tgt d ht (fun h => by first | exact absurd h hc | exact absurd hc (by simpa using h)) (fun _ => kf)
/-! the memory -/
theorem dk_put_ne {M : dkM} {o k o' : Nat} {x : Int32} (h : o' ≠ o) : dk_put M o k x o' = M o' := by funext b; simp [dk_put, h]
theorem dk_cell_congr {G : dkG} {M M' : dkM} {o : Nat} (h : M' o = M o) : dk_cell G M' o = dk_cell G M o := by unfold dk_cell; simp only [h]
theorem dk_Rep.one {H : Heap} {o : Nat} {q : va_E} (hR : dk_Rep G M H) (hS : G.2.1 o) (h : dk_cell G M o = q) : va_P G.2.2.1 vwCl [(G.1 + o, q)] H := by
  intro k x hx
  cases k with
  | zero => cases hx; rw [← h]; exact hR o hS
  | succ k => simp at hx
theorem dk_Rep.put {H H1 : Heap} {o k : Nat} {x : Int32} (hR : dk_Rep G M H) (h1 : va_at G.2.2.1 vwCl (G.1 + o, dk_cell G (dk_put M o k x) o) H1) (oq : ∀ q : Nat, q ≠ G.1 + o → H1[q]? = H[q]?) : dk_Rep G (dk_put M o k x) H1 := by
  intro o' hS'
  by_cases h : o' = o
  · subst h; exact h1
  · rw [dk_cell_congr (dk_put_ne h)]
    exact (hR o' hS').kept (oq _ (fun z => h (by simpa using z)))
theorem V.getf (C : dk_Cx E G cc nL own ret fr lo) {o ci k N idx : Nat} {Cn : String} {Tn : u_T} {fs : List Value} {v : Value} (hS : G.2.1 o) (hcell : dk_cell G M o = .inr (ci, fs)) (hin : ∀ w ∈ u_ws Cn Tn N, w ∈ dk_tbl) (hc : vwCl[ci]? = some (Cn, Tn, N)) (hk : k < N)
    (hlink : Cond.fieldLink own idx (Tn k).1 (Tn k).2.1 (Tn k).2.2.1 ∈ dk_tbl) (hv : fs[k]? = some v) (d : decode cc pc = .ok (.getfield idx, 3)) (kk : V E G nL T M (pc + 3) lv (v :: st)) : V E G nL T M pc lv (.ref (G.1 + o) :: st) := by
  refine V.of kk ?_
  obtain ⟨p, l, e, R, s, m, args, below, meth, c⟩ := E
  exact fun H locs ls Q hR hl w => va_get (D := G.2.2.1) (ci := ci) (v := v) (C := Cn) (T := Tn) (N := N) C.1 C.2.1 C.2.2.2.2.1 hin C.2.2.2.1 C.2.2.2.2.2.2.2.1 (hR.one hS hcell) 0 rfl hc k hk (C.2.2.2.2.1 _ hlink) (fun _ h9 => h9) hv d (w ls hl)
theorem V.putf (C : dk_Cx E G cc nL own ret fr lo) {o ci k N idx : Nat} {Cn : String} {Tn : u_T} {fs : List Value} {x : Int32} {ty : FieldType} (hS : G.2.1 o) (hcell : dk_cell G M o = .inr (ci, fs)) (hcell' : dk_cell G (dk_put M o k x) o = .inr (ci, fs.set k (.int x))) (hin : ∀ w ∈ u_ws Cn Tn N, w ∈ dk_tbl) (hc : vwCl[ci]? = some (Cn, Tn, N))
    (ty0 : Nat → FieldType) (hty : ∀ k, k < N → parseFieldDescriptor (Tn k).2.2.1 = some (ty0 k)) (hnm : ∀ a, a < N → ∀ b, b < N → a ≠ b → (Tn a).2.1 ≠ (Tn b).2.1) (hk : k < N) (hl : k < fs.length)
    (hlink : Cond.fieldLink own idx (Tn k).1 (Tn k).2.1 (Tn k).2.2.1 ∈ dk_tbl) (hfin : (Tn k).2.2.2 = false) (hd : parseFieldDescriptor (Tn k).2.2.1 = some ty) (hn : narrow ty (.int x) = .int x) (hfit : fits ty (.int x) = true) (d : decode cc pc = .ok (.putfield idx, 3)) (kk : V E G nL T (dk_put M o k x) (pc + 3) lv st) : V E G nL T M pc lv (.int x :: .ref (G.1 + o) :: st) := by
  obtain ⟨p, l, e, R, s, m, args, below, meth, c⟩ := E
  intro H locs ls hR hz hSt hls
  have hts := C.2.2.2.2.1
  have hown := C.2.2.2.1
  have hK : va_K G.2.2.1 vwCl (dk_tys G) s := C.2.2.2.2.2.2.2.1
  have hap := va_apart (own := own) hts hin ty0 hty hnm hK hc
  have hP := hR.one hS hcell
  obtain ⟨r, h1, cell, q1, q2, q3, q4⟩ := hP 0 _ rfl
  have hr : r = (Cn, Tn, N) := Option.some.inj (h1.symm.trans hc)
  subst hr
  obtain ⟨hSl, hfc, kC, hkC, hkind⟩ := hK.1 ci _ hc
  obtain ⟨cf, kf, fi, f, hi, hsl⟩ := hSl k hk
  have hlay := hts _ (hin _ (u_in_lay hk))
  unfold u_lay at hlay
  rw [if_neg (by rw [hfin]; decide)] at hlay
  have hst := (u_facts hfc hkC (u_lays hts hin hk) hi).1
  have h6 := u_store hfc hkC hkind hlay hi hd hn hfit
  refine W.putK C.1 C.2.1 (f := f) ⟨hown, hts _ hlink, ⟨_, _, _, hi⟩, hst⟩ (by rw [q2]; exact h6) q1 q3 (by rw [hsl]; exact k2_hasslot (q4 k hk)) rfl rfl d fun H' e1 e2 e3 => ?_
  rw [hsl] at e1 ⊢
  refine kk H' _ ls (hR.put ?_ e3) (e2.trans hz) (hSt.put e2 e3 ⟨o, hS, rfl⟩) hls
  rw [hcell']
  exact ⟨_, hc, t_OB.to (V := updV (vp_V fs) k (.int x)) ⟨_, e1, q2, q3, t_set q4 hap hk _⟩ (fun j _ => vp_updV_set hl _ j)⟩
theorem dk_cell6 {o n : Nat} (hk : dk_kd o = 6) (hal : dk_al o = n) : dk_cell G M o = .inl (G.2.2.2.1, n, .inl (M o)) := by simp [dk_cell, hk, hal]
theorem V.iald (C : dk_Cx E G cc nL own ret fr lo) {o n : Nat} {i : Int32} (hS : G.2.1 o) (hk : dk_kd o = 6) (hal : dk_al o = n) (hin : vp_in i n) (d : decode cc pc = .ok (.iaload, 1)) (kk : V E G nL T M (pc + 1) lv (.int (M o i.toNatClampNeg) :: st)) : V E G nL T M pc lv (.int i :: .ref (G.1 + o) :: st) := by
  refine V.of kk ?_
  obtain ⟨p, l, e, R, s, m, args, below, meth, c⟩ := E
  exact fun H locs ls Q hR hl w => va_iald (D := G.2.2.1) (tys := dk_tys G) C.1 C.2.1 C.2.2.2.2.2.2.2.1 (hR.one hS (dk_cell6 hk hal)) 0 0 rfl rfl hin d (w ls hl)
theorem V.ialdN (C : dk_Cx E G cc nL own ret fr lo) {o n : Nat} {i : Int32} (j : Nat) (hS : G.2.1 o) (hk : dk_kd o = 6) (hal : dk_al o = n) (hi : i = nI j) (hj : j < n ∧ n < 2 ^ 31) (d : decode cc pc = .ok (.iaload, 1)) (kk : V E G nL T M (pc + 1) lv (.int (M o j) :: st)) : V E G nL T M pc lv (.int i :: .ref (G.1 + o) :: st) := by
  subst hi
  refine V.iald C hS hk hal (vp_in_nI hj.1 hj.2) d ?_
  rw [nI_clamp (Nat.lt_trans hj.1 hj.2)]
  exact kk
theorem V.iast (C : dk_Cx E G cc nL own ret fr lo) {o n : Nat} {i x : Int32} (hS : G.2.1 o) (hk : dk_kd o = 6) (hal : dk_al o = n) (hin : vp_in i n) (d : decode cc pc = .ok (.iastore, 1)) (kk : V E G nL T (dk_put M o i.toNatClampNeg x) (pc + 1) lv st) : V E G nL T M pc lv (.int x :: .int i :: .ref (G.1 + o) :: st) := by
  obtain ⟨p, l, e, R, s, m, args, below, meth, c⟩ := E
  intro H locs ls hR hz hSt hls
  have hK : va_K G.2.2.1 vwCl (dk_tys G) s := C.2.2.2.2.2.2.2.1
  have hP := hR.one hS (dk_cell6 hk hal)
  refine W.iast C.1 C.2.1 (hP 0 _ rfl) ((hK.2 0 _ rfl).1 n (fun j => .int (M o j))) (fun q => by cases q) (by show ¬ (i < 0 ∨ (arrV _ _ _).slots.size ≤ _); rw [arrV_size]; exact hin) rfl rfl d fun H1 e1 z oq => ?_
  refine kk H1 _ ls (hR.put ?_ oq) (z.trans hz) (hSt.put z oq ⟨o, hS, rfl⟩) hls
  rw [dk_cell6 hk hal]
  show H1[G.1 + o]? = some (vp_cell _ _)
  rw [e1]
  rw [vp_cell_i, vp_cell_i, arrV_store]
  congr 2
  funext q
  by_cases hq : q = i.toNatClampNeg
  · subst hq
    simp [updV, dk_put]
  · simp [updV, dk_put, hq]
theorem V.iastN (C : dk_Cx E G cc nL own ret fr lo) {o n : Nat} {i x : Int32} (j : Nat) (hS : G.2.1 o) (hk : dk_kd o = 6) (hal : dk_al o = n) (hi : i = nI j) (hj : j < n ∧ n < 2 ^ 31) (d : decode cc pc = .ok (.iastore, 1)) (kk : V E G nL T (dk_put M o j x) (pc + 1) lv st) : V E G nL T M pc lv (.int x :: .int i :: .ref (G.1 + o) :: st) := by
  subst hi
  refine V.iast C hS hk hal (vp_in_nI hj.1 hj.2) d ?_
  rw [nI_clamp (Nat.lt_trans hj.1 hj.2)]
  exact kk
theorem V.alen (C : dk_Cx E G cc nL own ret fr lo) {o n : Nat} (hS : G.2.1 o) (hk : dk_kd o = 6) (hal : dk_al o = n) (d : decode cc pc = .ok (.arraylength, 1)) (kk : V E G nL T M (pc + 1) lv (.int (nI n) :: st)) : V E G nL T M pc lv (.ref (G.1 + o) :: st) := by
  refine V.of kk ?_
  obtain ⟨p, l, e, R, s, m, args, below, meth, c⟩ := E
  exact fun H locs ls Q hR hl w => va_alen (D := G.2.2.1) (tys := dk_tys G) C.1 C.2.1 C.2.2.2.2.2.2.2.1 (hR.one hS (dk_cell6 hk hal)) 0 0 rfl rfl rfl d (w ls hl)
theorem dk_cell7 {o : Nat} (hk : dk_kd o = 7) : dk_cell G M o = .inl (G.2.2.2.2, 7, .inr (.inr (.inr (.inr (fun i => some (G.1 + (o + 1 + 11 * i))))))) := by simp [dk_cell, hk]
theorem V.alen7 (C : dk_Cx E G cc nL own ret fr lo) {o : Nat} (hS : G.2.1 o) (hk : dk_kd o = 7) (d : decode cc pc = .ok (.arraylength, 1)) (kk : V E G nL T M (pc + 1) lv (.int (nI 7) :: st)) : V E G nL T M pc lv (.ref (G.1 + o) :: st) := by
  refine V.of kk ?_
  obtain ⟨p, l, e, R, s, m, args, below, meth, c⟩ := E
  exact fun H locs ls Q hR hl w => va_alen (D := G.2.2.1) (tys := dk_tys G) C.1 C.2.1 C.2.2.2.2.2.2.2.1 (hR.one hS (dk_cell7 hk)) 0 1 rfl rfl rfl d (w ls hl)
theorem V.aald (C : dk_Cx E G cc nL own ret fr lo) {o j : Nat} (hS : G.2.1 o) (hk : dk_kd o = 7) (hj : j < 7) (d : decode cc pc = .ok (.aaload, 1)) (kk : V E G nL T M (pc + 1) lv (.ref (G.1 + (o + 1 + 11 * j)) :: st)) : V E G nL T M pc lv (.int (nI j) :: .ref (G.1 + o) :: st) := by
  refine V.of kk ?_
  obtain ⟨p, l, e, R, s, m, args, below, meth, c⟩ := E
  refine fun H locs ls Q hR hl w => va_aldq (D := G.2.2.1) (tys := dk_tys G) C.1 C.2.1 C.2.2.2.2.2.2.2.1 (hR.one hS (dk_cell7 hk)) 0 1 rfl rfl (vp_in_nI hj (by decide)) d ?_
  rw [nI_clamp (Nat.lt_trans hj (by decide))]
  exact w ls hl
/-! returns -/
theorem V.iret (C : dk_Cx E G cc nL own (some .int) fr lo) {x : Int32} (h : T = (some (.int x), M)) (d : decode cc pc = .ok (.ireturn, 1)) : V E G nL T M pc lv [.int x] := by
  obtain ⟨p, l, e, R, s, m, args, below, meth, c⟩ := E
  intro H locs ls hR hz hSt hls
  exact W.iret (v := x) C.1 C.2.1 C.2.2.2.2.2.2.1 (fun t ht hW => ⟨by rw [h], by rw [ht, h]; exact hR, by rw [ht]; exact hz, hSt.F ht⟩) hSt.2.2 d C.2.2.2.2.2.1
theorem V.zret (C : dk_Cx E G cc nL own (some .boolean) fr lo) {x : Int32} (h : T = (some (.int x), M)) (hx : x = 0 ∨ x = 1) (d : decode cc pc = .ok (.ireturn, 1)) : V E G nL T M pc lv [.int x] := by
  obtain ⟨p, l, e, R, s, m, args, below, meth, c⟩ := E
  intro H locs ls hR hz hSt hls
  exact W.zret (v := x) C.1 C.2.1 C.2.2.2.2.2.2.1 (by rcases hx with rfl | rfl <;> rfl) (fun t ht hW => ⟨by rw [h], by rw [ht, h]; exact hR, by rw [ht]; exact hz, hSt.F ht⟩) hSt.2.2 d C.2.2.2.2.2.1
theorem V.lret (C : dk_Cx E G cc nL own (some .long) fr lo) {x : Int64} (h : T = (some (.long x), M)) (d : decode cc pc = .ok (.lreturn, 1)) : V E G nL T M pc lv [.long x] := by
  obtain ⟨p, l, e, R, s, m, args, below, meth, c⟩ := E
  intro H locs ls hR hz hSt hls
  exact W.lret (v := x) C.1 C.2.1 C.2.2.2.2.2.2.1 (fun t ht hW => ⟨by rw [h], by rw [ht, h]; exact hR, by rw [ht]; exact hz, hSt.F ht⟩) hSt.2.2 d C.2.2.2.2.2.1
theorem V.aret (C : dk_Cx E G cc nL own (some (.object "DiskRekeying$Disk")) fr lo) {a : Nat} (h : T = (some (.ref a), M)) (d : decode cc pc = .ok (.areturn, 1)) : V E G nL T M pc lv [.ref a] := by
  obtain ⟨p, l, e, R, s, m, args, below, meth, c⟩ := E
  intro H locs ls hR hz hSt hls
  exact W.aret (v := .ref a) C.1 C.2.1 C.2.2.2.2.2.2.1 (Or.inl ⟨_, rfl⟩) (Or.inr ⟨a, rfl⟩) (fun t ht hW => ⟨by rw [h], by rw [ht, h]; exact hR, by rw [ht]; exact hz, hSt.F ht⟩) hSt.2.2 d C.2.2.2.2.2.1
theorem V.vret (C : dk_Cx E G cc nL own none fr lo) (h : T = (none, M)) (d : decode cc pc = .ok (.return_, 1)) : V E G nL T M pc lv [] := by
  obtain ⟨p, l, e, R, s, m, args, below, meth, c⟩ := E
  intro H locs ls hR hz hSt hls
  exact W.vret C.1 C.2.1 C.2.2.2.2.2.2.1 (fun t ht hW => ⟨by rw [h], by rw [ht, h]; exact hR, by rw [ht]; exact hz, hSt.F ht⟩) hSt.2.2 d C.2.2.2.2.2.1
theorem V.ifnull (C : dk_Cx E G cc nL own ret fr lo) {off : Int} {a : Nat} (d : decode cc pc = .ok (.ifnull off, 3)) (kk : V E G nL T M (pc + 3) lv st) : V E G nL T M pc lv (.ref a :: st) := by
  refine V.of kk ?_
  obtain ⟨p, l, e, R, s, m, args, below, meth, c⟩ := E
  exact fun H locs ls Q _ hl w => lv_ifnull C.1 C.2.1 d (w ls hl)
theorem V.ifnonnull (C : dk_Cx E G cc nL own ret fr lo) {off : Int} {a : Nat} (tgt : Nat) (d : decode cc pc = .ok (.ifnonnull off, 3)) (ht : (pc : Int) + off = (tgt : Int)) (kk : V E G nL T M tgt lv st) : V E G nL T M pc lv (.ref a :: st) := by
  refine V.of kk ?_
  obtain ⟨p, l, e, R, s, m, args, below, meth, c⟩ := E
  exact fun H locs ls Q _ hl w => lv_ifnonnull C.1 C.2.1 d ht (w ls hl)
/-! calls -/
theorem dk_goodIn {y : MethodName} {cc : ByteArray} {nL : Nat} {ret : Option FieldType} (hc : Cond.code y cc nL ret ∈ dk_tbl) : GoodIn dk_tbl (.code y cc nL ret :: dk_tbl) := by
  have hg := List.all_eq_true.mp dk_good
  intro w hw
  rcases List.mem_cons.mp hw with rfl | hw
  · exact ⟨hc, good_of_word (hg _ hc)⟩
  · exact ⟨hw, good_of_word (hg _ hw)⟩
theorem dk_good4 {own C : String} {idx : Nat} {y : MethodName} {ws : List Cond} (h1 : Cond.methodLink own idx y ∈ dk_tbl) (h2 : Cond.instanceMethod y ∈ dk_tbl) (h3 : Cond.selects C y y ∈ dk_tbl) (h4 : Cond.initialized C ∈ dk_tbl) (h : GoodIn dk_tbl ws) : GoodIn dk_tbl (wsV own idx C y ws) := by
  have hg := List.all_eq_true.mp dk_good
  intro w hw
  rcases List.mem_append.mp hw with hw | hw
  · simp only [List.mem_cons, List.not_mem_nil, or_false] at hw
    rcases hw with rfl | rfl | rfl | rfl
    · exact ⟨h1, good_of_word (hg _ h1)⟩
    · exact ⟨h2, good_of_word (hg _ h2)⟩
    · exact ⟨h3, good_of_word (hg _ h3)⟩
    · exact ⟨h4, good_of_word (hg _ h4)⟩
  · exact h w hw
theorem dk_good3 {own : String} {idx : Nat} {y : MethodName} {ws : List Cond} (h1 : Cond.methodLink own idx y ∈ dk_tbl) (h2 : Cond.static y ∈ dk_tbl) (h4 : Cond.initialized own ∈ dk_tbl) (h : GoodIn dk_tbl ws) : GoodIn dk_tbl (wsS own idx y ws) := by
  have hg := List.all_eq_true.mp dk_good
  intro w hw
  rcases List.mem_append.mp hw with hw | hw
  · simp only [List.mem_cons, List.not_mem_nil, or_false] at hw
    rcases hw with rfl | rfl | rfl
    · exact ⟨h1, good_of_word (hg _ h1)⟩
    · exact ⟨h2, good_of_word (hg _ h2)⟩
    · exact ⟨h4, good_of_word (hg _ h4)⟩
  · exact h w hw
theorem dk_kdC {o ci : Nat} {Cn : String} (hk : dk_kd o = ci) (hc : (vwCl[ci]?).map (fun q => q.1) = some Cn) : ∃ (r : vw_C) (fs : List Value), vwCl[ci]? = some r ∧ r.1 = Cn ∧ dk_cell G M o = .inr (ci, fs) := by
  subst hk
  have h : dk_kd o < 6 := by
    rcases Nat.lt_or_ge (dk_kd o) 6 with h | h
    · exact h
    · rw [List.getElem?_eq_none (by simpa [vwCl] using h)] at hc
      cases hc
  unfold dk_cell
  generalize dk_kd o = q at h hc ⊢
  match q, h with
  | 0, _ => exact ⟨_, _, rfl, by simpa [vwCl] using hc, rfl⟩
  | 1, _ => exact ⟨_, _, rfl, by simpa [vwCl] using hc, rfl⟩
  | 2, _ => exact ⟨_, _, rfl, by simpa [vwCl] using hc, rfl⟩
  | 3, _ => exact ⟨_, _, rfl, by simpa [vwCl] using hc, rfl⟩
  | 4, _ => exact ⟨_, _, rfl, by simpa [vwCl] using hc, rfl⟩
  | 5, _ => exact ⟨_, _, rfl, by simpa [vwCl] using hc, rfl⟩
  | k + 6, h => omega
theorem dk_wt {l : List Value} (h : Nat.ble (l.map fun v => v.category).sum 8 = true) : (l.map fun v => v.category).sum ≤ 8 := Nat.le_of_ble_eq_true h
/-- a call of an instance method by its contract -/
theorem V.callV (C : dk_Cx E G cc nL own ret fr lo) {Cn : String} {y : MethodName} {cc' : ByteArray} {nL' n : Nat} {ret' : Option FieldType} {fr' lo' idx o ci : Nat} {As : List Value} {M2 : dkM} {r : Option Value} (hc : dk_Con E.2.1 y cc' nL' ret' fr' lo' G (.ref (G.1 + o) :: As) M (r, M2))
    (w : dk_mv Cn y cc' nL' ret' n) (hl : Cond.methodLink own idx y ∈ dk_tbl) (hS : G.2.1 o) (hk : dk_kd o = ci) (hci : (vwCl[ci]?).map (fun q => q.1) = some Cn) (hrm : Nat.ble (fr' + 1) fr = true ∧ Nat.ble (8 + (nL' + 11) + lo') lo = true) (d : decode cc pc = .ok (.invokevirtual idx, 3)) (hn : As.length = n) (hw : Nat.ble (st.map fun v => v.category).sum 8 = true)
    {stk : List Value} (hs : stk = As.reverse ++ .ref (G.1 + o) :: st) (kk : V E G nL T M2 (pc + 3) lv (r.toList ++ st)) : V E G nL T M pc lv stk := by
  subst hs
  obtain ⟨p, l, e, R, s, m, args, below, meth, c⟩ := E
  intro H locs ls hR hz hSt hls
  obtain ⟨hx, hb, hml, hown, hts, hlk, hret, hK, hfr, hlo⟩ := C
  have hcw : CallW R s args own Cn idx y cc' nL' ret' (.code y cc' nL' ret' :: dk_tbl) { frames := fr', cells := 0, slots := 0, locals := lo' } 0 0 n := cwV n hts (dk_good4 hl w.2.1 w.2.2 w.1.2.2.2 (dk_goodIn w.1.2.2.1)) rfl rfl rfl ⟨w.1.1.1, w.1.1.2.1, w.1.1.2.2.1, w.1.1.2.2.2⟩ ⟨by rw [hfr]; exact Nat.le_of_ble_eq_true hrm.1, by rw [hlo]; exact Nat.le_of_ble_eq_true hrm.2⟩
  obtain ⟨rr, fs, e1, e2, e3⟩ := dk_kdC (G := G) (M := M) hk hci
  have hrec := va_recv hK (hR.one hS e3) e1 (q0 := 0) rfl
  rw [e2] at hrec
  have hrun := va_runV (p := p) (l := l) (e := e) (R := R) (s := s) (m := m) (args := args) (below := below) (meth := meth) (c := c) (H := H) (locs := locs) (cells := 0) (slots := 0) (As := As) (rest := st) (g := F0 m pc ls (As.reverse ++ .ref (G.1 + o) :: st)) ⟨hx, hb, hml, hown, hts⟩ hc hcw ⟨dk_blind _ _ _, hrec, fun U hU hW => ⟨rfl, by rw [hU]; exact hR, va_K.moved hW.alike hK⟩⟩ rfl hn hls.1 rfl (lv_room (dk_wt hw)) d ⟨Nat.zero_le _, Nat.zero_le _⟩
  intro T' hT' X
  obtain ⟨v, st₀, t, T2, L, h0, X', hL, q1, q2, ⟨hv, hR2, hz2, hF2⟩, stp⟩ := hrun T' hT' X
  cases hv
  obtain ⟨t2, a1, b1⟩ := kk T2.heap (locs ++ L) ls (by rw [q1]; exact hR2) (by rw [q1, hz2, h0]; exact hz) ⟨by rw [q1, hz2, h0]; exact hSt.1, fun q g1 g2 => by rw [q1, hF2.2 q (by rw [h0]; exact Nat.lt_of_lt_of_le g1 hSt.1) g2, h0]; exact hSt.2.1 q g1 g2, fun q hq => by
      rcases List.mem_append.mp hq with h | h
      · exact hSt.2.2 q h
      · exact hL q h⟩ hls T2 rfl X'
  exact ⟨t2, stp t2 a1, b1⟩
theorem V.callS (C : dk_Cx E G cc nL own ret fr lo) {y : MethodName} {cc' : ByteArray} {nL' n : Nat} {ret' : Option FieldType} {fr' lo' idx : Nat} {As : List Value} {M2 : dkM} {r : Option Value} (hc : dk_Con E.2.1 y cc' nL' ret' fr' lo' G As M (r, M2))
    (w : dk_ms own y cc' nL' ret' n) (hl : Cond.methodLink own idx y ∈ dk_tbl) (hrm : Nat.ble (fr' + 1) fr = true ∧ Nat.ble (8 + (nL' + 11) + lo') lo = true) (d : decode cc pc = .ok (.invokestatic idx, 3)) (hn : As.length = n) (hw : Nat.ble (st.map fun v => v.category).sum 8 = true)
    {stk : List Value} (hs : stk = As.reverse ++ st) (kk : V E G nL T M2 (pc + 3) lv (r.toList ++ st)) : V E G nL T M pc lv stk := by
  subst hs
  obtain ⟨p, l, e, R, s, m, args, below, meth, c⟩ := E
  intro H locs ls hR hz hSt hls
  obtain ⟨hx, hb, hml, hown, hts, hlk, hret, hK, hfr, hlo⟩ := C
  have hcw := cwS (R := R) (s := s) (args := args) (own := own) (index := idx) (y := y) (bytes := cc') (maxL := nL') (ret := ret') (ws := .code y cc' nL' ret' :: dk_tbl) (rm := { frames := fr', cells := 0, slots := 0, locals := lo' }) (mc := 0) (ms := 0) n hts (dk_good3 hl w.2 w.1.2.2.2 (dk_goodIn w.1.2.2.1)) rfl rfl rfl ⟨w.1.1.1, w.1.1.2.1, w.1.1.2.2.1, w.1.1.2.2.2⟩ ⟨by rw [hfr]; exact Nat.le_of_ble_eq_true hrm.1, by rw [hlo]; exact Nat.le_of_ble_eq_true hrm.2⟩
  have hrun := va_runS (p := p) (l := l) (e := e) (R := R) (s := s) (m := m) (args := args) (below := below) (meth := meth) (c := c) (H := H) (locs := locs) (cells := 0) (slots := 0) (As := As) (rest := st) (g := F0 m pc ls (As.reverse ++ st)) ⟨hx, hb, hml, hown, hts⟩ hc hcw ⟨dk_blind _ _ _, fun U hU hW => ⟨rfl, by rw [hU]; exact hR, va_K.moved hW.alike hK⟩⟩ rfl hn hls.1 rfl (lv_room (dk_wt hw)) d ⟨Nat.zero_le _, Nat.zero_le _⟩
  intro T' hT' X
  obtain ⟨v, st₀, t, T2, L, h0, X', hL, q1, q2, ⟨hv, hR2, hz2, hF2⟩, stp⟩ := hrun T' hT' X
  cases hv
  obtain ⟨t2, a1, b1⟩ := kk T2.heap (locs ++ L) ls (by rw [q1]; exact hR2) (by rw [q1, hz2, h0]; exact hz) ⟨by rw [q1, hz2, h0]; exact hSt.1, fun q g1 g2 => by rw [q1, hF2.2 q (by rw [h0]; exact Nat.lt_of_lt_of_le g1 hSt.1) g2, h0]; exact hSt.2.1 q g1 g2, fun q hq => by
      rcases List.mem_append.mp hq with h | h
      · exact hSt.2.2 q h
      · exact hL q h⟩ hls T2 rfl X'
  exact ⟨t2, stp t2 a1, b1⟩
end VR
end
section
/-! layout: a Row with its array, a Disk with its Rows -/
def dk_row (G : dkG) (o n : Nat) : Prop := dk_kd o = 2 ∧ dk_kd (o + 1) = 6 ∧ dk_al (o + 1) = n ∧ G.2.1 o ∧ G.2.1 (o + 1) ∧ n < 1024
def dk_disk (G : dkG) (d : Nat) : Prop := dk_kd d = 0 ∧ G.2.1 d ∧ dk_row G (d + 1) 64 ∧ dk_row G (d + 3) 64 ∧ dk_row G (d + 5) 64 ∧ dk_row G (d + 7) 64 ∧ dk_row G (d + 9) 100
theorem dk_disk.s {G : dkG} {d : Nat} (h : dk_disk G d) : G.2.1 d := h.2.1
theorem dk_disk.k {G : dkG} {d : Nat} (h : dk_disk G d) : dk_kd d = 0 := h.1
theorem dk_disk.r1 {G : dkG} {d : Nat} (h : dk_disk G d) : dk_row G (d + 1) 64 := h.2.2.1
theorem dk_disk.r3 {G : dkG} {d : Nat} (h : dk_disk G d) : dk_row G (d + 3) 64 := h.2.2.2.1
theorem dk_disk.r5 {G : dkG} {d : Nat} (h : dk_disk G d) : dk_row G (d + 5) 64 := h.2.2.2.2.1
theorem dk_disk.r7 {G : dkG} {d : Nat} (h : dk_disk G d) : dk_row G (d + 7) 64 := h.2.2.2.2.2.1
theorem dk_disk.r9 {G : dkG} {d : Nat} (h : dk_disk G d) : dk_row G (d + 9) 100 := h.2.2.2.2.2.2
theorem dk_row.s {G : dkG} {o n : Nat} (h : dk_row G o n) : G.2.1 o := h.2.2.2.1
theorem dk_row.k {G : dkG} {o n : Nat} (h : dk_row G o n) : dk_kd o = 2 := h.1
theorem dk_row.s1 {G : dkG} {o n : Nat} (h : dk_row G o n) : G.2.1 (o + 1) := h.2.2.2.2.1
theorem dk_row.k1 {G : dkG} {o n : Nat} (h : dk_row G o n) : dk_kd (o + 1) = 6 := h.2.1
theorem dk_row.a {G : dkG} {o n : Nat} (h : dk_row G o n) : dk_al (o + 1) = n := h.2.2.1
theorem dk_row.n {G : dkG} {o n : Nat} (h : dk_row G o n) : n < 1024 := h.2.2.2.2.2
/-- the class's cells; the model's cells -/
def dk_cls (G : dkG) : Prop := ∀ o, o < 111 → G.2.1 o
def dk_mdl (G : dkG) : Prop := ∀ o, 111 ≤ o → o < 118 → G.2.1 o
theorem dk_cls.at {G : dkG} (h : dk_cls G) (o : Nat) (ho : Nat.ble (o + 1) 111 = true) : G.2.1 o := h o (Nat.le_of_ble_eq_true ho)
theorem dk_mdl.at {G : dkG} (h : dk_mdl G) (o : Nat) (ho : (Nat.ble 111 o && Nat.ble (o + 1) 118) = true) : G.2.1 o := by
  rw [Bool.and_eq_true] at ho
  exact h o (Nat.le_of_ble_eq_true ho.1) (Nat.le_of_ble_eq_true ho.2)
theorem dk_rowAt {G : dkG} (h : dk_cls G) (o n : Nat) (hk : (Nat.beq (dk_kd o) 2 && (Nat.beq (dk_kd (o + 1)) 6 && (Nat.beq (dk_al (o + 1)) n && (Nat.ble (o + 2) 111 && Nat.ble (n + 1) 1024)))) = true) : dk_row G o n := by
  simp only [Bool.and_eq_true] at hk
  obtain ⟨h1, h2, h3, h4, h5⟩ := hk
  have h4 := Nat.le_of_ble_eq_true h4
  exact ⟨Nat.eq_of_beq_eq_true h1, Nat.eq_of_beq_eq_true h2, Nat.eq_of_beq_eq_true h3, h o (by omega), h (o + 1) (by omega), Nat.le_of_ble_eq_true h5⟩
theorem dk_diskAt {G : dkG} (h : dk_cls G) (d : Nat) (hk : (Nat.beq (dk_kd d) 0 && (Nat.beq (dk_kd (d + 1)) 2 && (Nat.beq (dk_al (d + 10)) 100 && Nat.ble (d + 11) 111))) = true) (hr : ∀ k, k ∈ [1, 3, 5, 7] → (Nat.beq (dk_kd (d + k)) 2 && (Nat.beq (dk_kd (d + k + 1)) 6 && (Nat.beq (dk_al (d + k + 1)) 64 && (Nat.ble (d + k + 2) 111 && Nat.ble (64 + 1) 1024)))) = true) (hr9 : (Nat.beq (dk_kd (d + 9)) 2 && (Nat.beq (dk_kd (d + 9 + 1)) 6 && (Nat.beq (dk_al (d + 9 + 1)) 100 && (Nat.ble (d + 9 + 2) 111 && Nat.ble (100 + 1) 1024)))) = true) : dk_disk G d := by
  simp only [Bool.and_eq_true] at hk
  have h4 := Nat.le_of_ble_eq_true hk.2.2.2
  exact ⟨Nat.eq_of_beq_eq_true hk.1, h d (by omega), dk_rowAt h _ _ (hr 1 (by decide)), dk_rowAt h _ _ (hr 3 (by decide)), dk_rowAt h _ _ (hr 5 (by decide)), dk_rowAt h _ _ (hr 7 (by decide)), dk_rowAt h _ _ hr9⟩
theorem dk_disk1 {G : dkG} (h : dk_cls G) : dk_disk G 1 := dk_diskAt h 1 (by decide) (by decide) (by decide)
theorem dk_disk12 {G : dkG} (h : dk_cls G) : dk_disk G 12 := dk_diskAt h 12 (by decide) (by decide) (by decide)
theorem dk_diskS {G : dkG} (h : dk_cls G) {j : Nat} (hj : j < 7) : dk_disk G (24 + 1 + 11 * j) := by
  match j, hj with
  | 0, _ => exact dk_diskAt h 25 (by decide) (by decide) (by decide)
  | 1, _ => exact dk_diskAt h 36 (by decide) (by decide) (by decide)
  | 2, _ => exact dk_diskAt h 47 (by decide) (by decide) (by decide)
  | 3, _ => exact dk_diskAt h 58 (by decide) (by decide) (by decide)
  | 4, _ => exact dk_diskAt h 69 (by decide) (by decide) (by decide)
  | 5, _ => exact dk_diskAt h 80 (by decide) (by decide) (by decide)
  | 6, _ => exact dk_diskAt h 91 (by decide) (by decide) (by decide)
  | k + 7, h => omega
/-! constants, small facts -/
theorem dk_inc (x : Int32) : x + Int32.ofInt 1 = x + 1 := by rw [show Int32.ofInt 1 = 1 from by decide]
theorem dk_incN (k : Nat) : nI k + Int32.ofInt 1 = nI (k + 1) := by rw [dk_inc]; exact nI_1 k
theorem dk_lt1 {x y : Int32} (h : x < y) : ¬ y ≤ x := Int32.not_le.mpr h
theorem dk_nlt {x y : Int32} (h : ¬ x < y) : y ≤ x := Int32.not_lt.mp h
theorem dk_le1 {x y : Int32} (h : y ≤ x) : ¬ x < y := Int32.not_lt.mpr h
theorem dk_nle {x y : Int32} (h : ¬ y ≤ x) : x < y := Int32.not_le.mp h
theorem dk_sn {lv : dkL} : ∀ q ∈ ([] : dkL), q.2 = none ∨ dk_get lv q.1 = q.2 := fun _ h => by cases h
theorem dk_sc {lv t : dkL} {i : Nat} {w : Option Value} (h : dk_get lv i = w) (ht : ∀ q ∈ t, q.2 = none ∨ dk_get lv q.1 = q.2) : ∀ q ∈ ((i, w) :: t : dkL), q.2 = none ∨ dk_get lv q.1 = q.2 := by
  intro q hq
  rcases List.mem_cons.mp hq with rfl | hq
  · exact Or.inr h
  · exact ht q hq
theorem dk_bool {x : Int32} (h : x = 0 ∨ x = 1) : narrow .boolean (.int x) = .int x ∧ fits .boolean (.int x) = true := by rcases h with rfl | rfl <;> exact ⟨rfl, rfl⟩
section FC
variable {G : dkG} {M : dkM}
theorem dk_cellX0 {o : Nat} (h : dk_kd o = 0) : dk_cell G M o = .inr (0, [.ref (G.1 + (o + 1)), .ref (G.1 + (o + 3)), .ref (G.1 + (o + 5)), .ref (G.1 + (o + 7)), .ref (G.1 + (o + 9)), .int (M o 5), .int (M o 6), .int (M o 7), .int (M o 8), .int (M o 9), .int (M o 10), .int (M o 11), .int (M o 12), .int (M o 13), .int (M o 14)]) := by simp [dk_cell, h]
theorem dk_cellX2 {o : Nat} (h : dk_kd o = 2) : dk_cell G M o = .inr (2, [.ref (G.1 + (o + 1))]) := by simp [dk_cell, h]
theorem dk_cellX1 : dk_cell G M 23 = .inr (1, [.ref (G.1 + 24), .int (M 23 1), .int (M 23 2)]) := rfl
theorem dk_cellX3 : dk_cell G M 102 = .inr (3, [.ref (G.1 + 103), .ref (G.1 + 105), .ref (G.1 + 107), .ref (G.1 + 109), .int (M 102 4)]) := rfl
theorem dk_cellX4 : dk_cell G M 0 = .inr (4, [.ref (G.1 + 1), .ref (G.1 + 12), .ref (G.1 + 23), .ref (G.1 + 102)]) := rfl
theorem dk_cellX5 : dk_cell G M 111 = .inr (5, [.ref (G.1 + 112), .ref (G.1 + 113), .ref (G.1 + 114), .ref (G.1 + 115), .int (M 111 4), .ref (G.1 + 116), .int (M 111 6), .ref (G.1 + 117), .int (M 111 8), .int (M 111 9), .int (M 111 10), .int (M 111 11), .int (M 111 12)]) := rfl
end FC
section FR
variable {E : dkE} {G : dkG} {cc : ByteArray} {nL : Nat} {own : String} {ret : Option FieldType} {fr lo : Nat} {T : dkT} {M : dkM} {pc : Nat} {lv : dkL} {st : List Value}
theorem V.callV0i (C : dk_Cx E G cc nL own ret fr lo) {Cn : String} {y : MethodName} {cc' : ByteArray} {nL' : Nat} {ret' : Option FieldType} {fr' lo' idx o ci : Nat} {x : Int32} {M2 : dkM} (hc : dk_Con E.2.1 y cc' nL' ret' fr' lo' G [.ref (G.1 + o)] M (some (.int x), M2)) (w : dk_mv Cn y cc' nL' ret' 0) (hl : Cond.methodLink own idx y ∈ dk_tbl) (hS : G.2.1 o) (hk : dk_kd o = ci) (hci : (vwCl[ci]?).map (fun q => q.1) = some Cn) (hrm : Nat.ble (fr' + 1) fr = true ∧ Nat.ble (8 + (nL' + 11) + lo') lo = true) (d : decode cc pc = .ok (.invokevirtual idx, 3)) (hw : Nat.ble (st.map fun v => v.category).sum 8 = true)
    (kk : V E G nL T M2 (pc + 3) lv (.int x :: st)) : V E G nL T M pc lv (.ref (G.1 + o) :: st) :=
  V.callV C (As := []) (r := some (.int x)) hc w hl hS hk hci hrm d rfl hw rfl kk
theorem V.callV0l (C : dk_Cx E G cc nL own ret fr lo) {Cn : String} {y : MethodName} {cc' : ByteArray} {nL' : Nat} {ret' : Option FieldType} {fr' lo' idx o ci : Nat} {x : Int64} {M2 : dkM} (hc : dk_Con E.2.1 y cc' nL' ret' fr' lo' G [.ref (G.1 + o)] M (some (.long x), M2)) (w : dk_mv Cn y cc' nL' ret' 0) (hl : Cond.methodLink own idx y ∈ dk_tbl) (hS : G.2.1 o) (hk : dk_kd o = ci) (hci : (vwCl[ci]?).map (fun q => q.1) = some Cn) (hrm : Nat.ble (fr' + 1) fr = true ∧ Nat.ble (8 + (nL' + 11) + lo') lo = true) (d : decode cc pc = .ok (.invokevirtual idx, 3)) (hw : Nat.ble (st.map fun v => v.category).sum 8 = true)
    (kk : V E G nL T M2 (pc + 3) lv (.long x :: st)) : V E G nL T M pc lv (.ref (G.1 + o) :: st) :=
  V.callV C (As := []) (r := some (.long x)) hc w hl hS hk hci hrm d rfl hw rfl kk
theorem V.callV0a (C : dk_Cx E G cc nL own ret fr lo) {Cn : String} {y : MethodName} {cc' : ByteArray} {nL' : Nat} {ret' : Option FieldType} {fr' lo' idx o ci : Nat} {x : Nat} {M2 : dkM} (hc : dk_Con E.2.1 y cc' nL' ret' fr' lo' G [.ref (G.1 + o)] M (some (.ref x), M2)) (w : dk_mv Cn y cc' nL' ret' 0) (hl : Cond.methodLink own idx y ∈ dk_tbl) (hS : G.2.1 o) (hk : dk_kd o = ci) (hci : (vwCl[ci]?).map (fun q => q.1) = some Cn) (hrm : Nat.ble (fr' + 1) fr = true ∧ Nat.ble (8 + (nL' + 11) + lo') lo = true) (d : decode cc pc = .ok (.invokevirtual idx, 3)) (hw : Nat.ble (st.map fun v => v.category).sum 8 = true)
    (kk : V E G nL T M2 (pc + 3) lv (.ref x :: st)) : V E G nL T M pc lv (.ref (G.1 + o) :: st) :=
  V.callV C (As := []) (r := some (.ref x)) hc w hl hS hk hci hrm d rfl hw rfl kk
theorem V.callV0v (C : dk_Cx E G cc nL own ret fr lo) {Cn : String} {y : MethodName} {cc' : ByteArray} {nL' : Nat} {ret' : Option FieldType} {fr' lo' idx o ci : Nat} {M2 : dkM} (hc : dk_Con E.2.1 y cc' nL' ret' fr' lo' G [.ref (G.1 + o)] M (none, M2)) (w : dk_mv Cn y cc' nL' ret' 0) (hl : Cond.methodLink own idx y ∈ dk_tbl) (hS : G.2.1 o) (hk : dk_kd o = ci) (hci : (vwCl[ci]?).map (fun q => q.1) = some Cn) (hrm : Nat.ble (fr' + 1) fr = true ∧ Nat.ble (8 + (nL' + 11) + lo') lo = true) (d : decode cc pc = .ok (.invokevirtual idx, 3)) (hw : Nat.ble (st.map fun v => v.category).sum 8 = true)
    (kk : V E G nL T M2 (pc + 3) lv (st)) : V E G nL T M pc lv (.ref (G.1 + o) :: st) :=
  V.callV C (As := []) (r := none) hc w hl hS hk hci hrm d rfl hw rfl kk
theorem V.callV1i (C : dk_Cx E G cc nL own ret fr lo) {Cn : String} {y : MethodName} {cc' : ByteArray} {nL' : Nat} {ret' : Option FieldType} {fr' lo' idx o ci : Nat} {a0 : Value} {x : Int32} {M2 : dkM} (hc : dk_Con E.2.1 y cc' nL' ret' fr' lo' G [.ref (G.1 + o), a0] M (some (.int x), M2)) (w : dk_mv Cn y cc' nL' ret' 1) (hl : Cond.methodLink own idx y ∈ dk_tbl) (hS : G.2.1 o) (hk : dk_kd o = ci) (hci : (vwCl[ci]?).map (fun q => q.1) = some Cn) (hrm : Nat.ble (fr' + 1) fr = true ∧ Nat.ble (8 + (nL' + 11) + lo') lo = true) (d : decode cc pc = .ok (.invokevirtual idx, 3)) (hw : Nat.ble (st.map fun v => v.category).sum 8 = true)
    (kk : V E G nL T M2 (pc + 3) lv (.int x :: st)) : V E G nL T M pc lv (a0 :: .ref (G.1 + o) :: st) :=
  V.callV C (As := [a0]) (r := some (.int x)) hc w hl hS hk hci hrm d rfl hw rfl kk
theorem V.callV1l (C : dk_Cx E G cc nL own ret fr lo) {Cn : String} {y : MethodName} {cc' : ByteArray} {nL' : Nat} {ret' : Option FieldType} {fr' lo' idx o ci : Nat} {a0 : Value} {x : Int64} {M2 : dkM} (hc : dk_Con E.2.1 y cc' nL' ret' fr' lo' G [.ref (G.1 + o), a0] M (some (.long x), M2)) (w : dk_mv Cn y cc' nL' ret' 1) (hl : Cond.methodLink own idx y ∈ dk_tbl) (hS : G.2.1 o) (hk : dk_kd o = ci) (hci : (vwCl[ci]?).map (fun q => q.1) = some Cn) (hrm : Nat.ble (fr' + 1) fr = true ∧ Nat.ble (8 + (nL' + 11) + lo') lo = true) (d : decode cc pc = .ok (.invokevirtual idx, 3)) (hw : Nat.ble (st.map fun v => v.category).sum 8 = true)
    (kk : V E G nL T M2 (pc + 3) lv (.long x :: st)) : V E G nL T M pc lv (a0 :: .ref (G.1 + o) :: st) :=
  V.callV C (As := [a0]) (r := some (.long x)) hc w hl hS hk hci hrm d rfl hw rfl kk
theorem V.callV1a (C : dk_Cx E G cc nL own ret fr lo) {Cn : String} {y : MethodName} {cc' : ByteArray} {nL' : Nat} {ret' : Option FieldType} {fr' lo' idx o ci : Nat} {a0 : Value} {x : Nat} {M2 : dkM} (hc : dk_Con E.2.1 y cc' nL' ret' fr' lo' G [.ref (G.1 + o), a0] M (some (.ref x), M2)) (w : dk_mv Cn y cc' nL' ret' 1) (hl : Cond.methodLink own idx y ∈ dk_tbl) (hS : G.2.1 o) (hk : dk_kd o = ci) (hci : (vwCl[ci]?).map (fun q => q.1) = some Cn) (hrm : Nat.ble (fr' + 1) fr = true ∧ Nat.ble (8 + (nL' + 11) + lo') lo = true) (d : decode cc pc = .ok (.invokevirtual idx, 3)) (hw : Nat.ble (st.map fun v => v.category).sum 8 = true)
    (kk : V E G nL T M2 (pc + 3) lv (.ref x :: st)) : V E G nL T M pc lv (a0 :: .ref (G.1 + o) :: st) :=
  V.callV C (As := [a0]) (r := some (.ref x)) hc w hl hS hk hci hrm d rfl hw rfl kk
theorem V.callV1v (C : dk_Cx E G cc nL own ret fr lo) {Cn : String} {y : MethodName} {cc' : ByteArray} {nL' : Nat} {ret' : Option FieldType} {fr' lo' idx o ci : Nat} {a0 : Value} {M2 : dkM} (hc : dk_Con E.2.1 y cc' nL' ret' fr' lo' G [.ref (G.1 + o), a0] M (none, M2)) (w : dk_mv Cn y cc' nL' ret' 1) (hl : Cond.methodLink own idx y ∈ dk_tbl) (hS : G.2.1 o) (hk : dk_kd o = ci) (hci : (vwCl[ci]?).map (fun q => q.1) = some Cn) (hrm : Nat.ble (fr' + 1) fr = true ∧ Nat.ble (8 + (nL' + 11) + lo') lo = true) (d : decode cc pc = .ok (.invokevirtual idx, 3)) (hw : Nat.ble (st.map fun v => v.category).sum 8 = true)
    (kk : V E G nL T M2 (pc + 3) lv (st)) : V E G nL T M pc lv (a0 :: .ref (G.1 + o) :: st) :=
  V.callV C (As := [a0]) (r := none) hc w hl hS hk hci hrm d rfl hw rfl kk
theorem V.callV2i (C : dk_Cx E G cc nL own ret fr lo) {Cn : String} {y : MethodName} {cc' : ByteArray} {nL' : Nat} {ret' : Option FieldType} {fr' lo' idx o ci : Nat} {a0 a1 : Value} {x : Int32} {M2 : dkM} (hc : dk_Con E.2.1 y cc' nL' ret' fr' lo' G [.ref (G.1 + o), a0, a1] M (some (.int x), M2)) (w : dk_mv Cn y cc' nL' ret' 2) (hl : Cond.methodLink own idx y ∈ dk_tbl) (hS : G.2.1 o) (hk : dk_kd o = ci) (hci : (vwCl[ci]?).map (fun q => q.1) = some Cn) (hrm : Nat.ble (fr' + 1) fr = true ∧ Nat.ble (8 + (nL' + 11) + lo') lo = true) (d : decode cc pc = .ok (.invokevirtual idx, 3)) (hw : Nat.ble (st.map fun v => v.category).sum 8 = true)
    (kk : V E G nL T M2 (pc + 3) lv (.int x :: st)) : V E G nL T M pc lv (a1 :: a0 :: .ref (G.1 + o) :: st) :=
  V.callV C (As := [a0, a1]) (r := some (.int x)) hc w hl hS hk hci hrm d rfl hw rfl kk
theorem V.callV2l (C : dk_Cx E G cc nL own ret fr lo) {Cn : String} {y : MethodName} {cc' : ByteArray} {nL' : Nat} {ret' : Option FieldType} {fr' lo' idx o ci : Nat} {a0 a1 : Value} {x : Int64} {M2 : dkM} (hc : dk_Con E.2.1 y cc' nL' ret' fr' lo' G [.ref (G.1 + o), a0, a1] M (some (.long x), M2)) (w : dk_mv Cn y cc' nL' ret' 2) (hl : Cond.methodLink own idx y ∈ dk_tbl) (hS : G.2.1 o) (hk : dk_kd o = ci) (hci : (vwCl[ci]?).map (fun q => q.1) = some Cn) (hrm : Nat.ble (fr' + 1) fr = true ∧ Nat.ble (8 + (nL' + 11) + lo') lo = true) (d : decode cc pc = .ok (.invokevirtual idx, 3)) (hw : Nat.ble (st.map fun v => v.category).sum 8 = true)
    (kk : V E G nL T M2 (pc + 3) lv (.long x :: st)) : V E G nL T M pc lv (a1 :: a0 :: .ref (G.1 + o) :: st) :=
  V.callV C (As := [a0, a1]) (r := some (.long x)) hc w hl hS hk hci hrm d rfl hw rfl kk
theorem V.callV2a (C : dk_Cx E G cc nL own ret fr lo) {Cn : String} {y : MethodName} {cc' : ByteArray} {nL' : Nat} {ret' : Option FieldType} {fr' lo' idx o ci : Nat} {a0 a1 : Value} {x : Nat} {M2 : dkM} (hc : dk_Con E.2.1 y cc' nL' ret' fr' lo' G [.ref (G.1 + o), a0, a1] M (some (.ref x), M2)) (w : dk_mv Cn y cc' nL' ret' 2) (hl : Cond.methodLink own idx y ∈ dk_tbl) (hS : G.2.1 o) (hk : dk_kd o = ci) (hci : (vwCl[ci]?).map (fun q => q.1) = some Cn) (hrm : Nat.ble (fr' + 1) fr = true ∧ Nat.ble (8 + (nL' + 11) + lo') lo = true) (d : decode cc pc = .ok (.invokevirtual idx, 3)) (hw : Nat.ble (st.map fun v => v.category).sum 8 = true)
    (kk : V E G nL T M2 (pc + 3) lv (.ref x :: st)) : V E G nL T M pc lv (a1 :: a0 :: .ref (G.1 + o) :: st) :=
  V.callV C (As := [a0, a1]) (r := some (.ref x)) hc w hl hS hk hci hrm d rfl hw rfl kk
theorem V.callV2v (C : dk_Cx E G cc nL own ret fr lo) {Cn : String} {y : MethodName} {cc' : ByteArray} {nL' : Nat} {ret' : Option FieldType} {fr' lo' idx o ci : Nat} {a0 a1 : Value} {M2 : dkM} (hc : dk_Con E.2.1 y cc' nL' ret' fr' lo' G [.ref (G.1 + o), a0, a1] M (none, M2)) (w : dk_mv Cn y cc' nL' ret' 2) (hl : Cond.methodLink own idx y ∈ dk_tbl) (hS : G.2.1 o) (hk : dk_kd o = ci) (hci : (vwCl[ci]?).map (fun q => q.1) = some Cn) (hrm : Nat.ble (fr' + 1) fr = true ∧ Nat.ble (8 + (nL' + 11) + lo') lo = true) (d : decode cc pc = .ok (.invokevirtual idx, 3)) (hw : Nat.ble (st.map fun v => v.category).sum 8 = true)
    (kk : V E G nL T M2 (pc + 3) lv (st)) : V E G nL T M pc lv (a1 :: a0 :: .ref (G.1 + o) :: st) :=
  V.callV C (As := [a0, a1]) (r := none) hc w hl hS hk hci hrm d rfl hw rfl kk
theorem V.callV3i (C : dk_Cx E G cc nL own ret fr lo) {Cn : String} {y : MethodName} {cc' : ByteArray} {nL' : Nat} {ret' : Option FieldType} {fr' lo' idx o ci : Nat} {a0 a1 a2 : Value} {x : Int32} {M2 : dkM} (hc : dk_Con E.2.1 y cc' nL' ret' fr' lo' G [.ref (G.1 + o), a0, a1, a2] M (some (.int x), M2)) (w : dk_mv Cn y cc' nL' ret' 3) (hl : Cond.methodLink own idx y ∈ dk_tbl) (hS : G.2.1 o) (hk : dk_kd o = ci) (hci : (vwCl[ci]?).map (fun q => q.1) = some Cn) (hrm : Nat.ble (fr' + 1) fr = true ∧ Nat.ble (8 + (nL' + 11) + lo') lo = true) (d : decode cc pc = .ok (.invokevirtual idx, 3)) (hw : Nat.ble (st.map fun v => v.category).sum 8 = true)
    (kk : V E G nL T M2 (pc + 3) lv (.int x :: st)) : V E G nL T M pc lv (a2 :: a1 :: a0 :: .ref (G.1 + o) :: st) :=
  V.callV C (As := [a0, a1, a2]) (r := some (.int x)) hc w hl hS hk hci hrm d rfl hw rfl kk
theorem V.callV3l (C : dk_Cx E G cc nL own ret fr lo) {Cn : String} {y : MethodName} {cc' : ByteArray} {nL' : Nat} {ret' : Option FieldType} {fr' lo' idx o ci : Nat} {a0 a1 a2 : Value} {x : Int64} {M2 : dkM} (hc : dk_Con E.2.1 y cc' nL' ret' fr' lo' G [.ref (G.1 + o), a0, a1, a2] M (some (.long x), M2)) (w : dk_mv Cn y cc' nL' ret' 3) (hl : Cond.methodLink own idx y ∈ dk_tbl) (hS : G.2.1 o) (hk : dk_kd o = ci) (hci : (vwCl[ci]?).map (fun q => q.1) = some Cn) (hrm : Nat.ble (fr' + 1) fr = true ∧ Nat.ble (8 + (nL' + 11) + lo') lo = true) (d : decode cc pc = .ok (.invokevirtual idx, 3)) (hw : Nat.ble (st.map fun v => v.category).sum 8 = true)
    (kk : V E G nL T M2 (pc + 3) lv (.long x :: st)) : V E G nL T M pc lv (a2 :: a1 :: a0 :: .ref (G.1 + o) :: st) :=
  V.callV C (As := [a0, a1, a2]) (r := some (.long x)) hc w hl hS hk hci hrm d rfl hw rfl kk
theorem V.callV3a (C : dk_Cx E G cc nL own ret fr lo) {Cn : String} {y : MethodName} {cc' : ByteArray} {nL' : Nat} {ret' : Option FieldType} {fr' lo' idx o ci : Nat} {a0 a1 a2 : Value} {x : Nat} {M2 : dkM} (hc : dk_Con E.2.1 y cc' nL' ret' fr' lo' G [.ref (G.1 + o), a0, a1, a2] M (some (.ref x), M2)) (w : dk_mv Cn y cc' nL' ret' 3) (hl : Cond.methodLink own idx y ∈ dk_tbl) (hS : G.2.1 o) (hk : dk_kd o = ci) (hci : (vwCl[ci]?).map (fun q => q.1) = some Cn) (hrm : Nat.ble (fr' + 1) fr = true ∧ Nat.ble (8 + (nL' + 11) + lo') lo = true) (d : decode cc pc = .ok (.invokevirtual idx, 3)) (hw : Nat.ble (st.map fun v => v.category).sum 8 = true)
    (kk : V E G nL T M2 (pc + 3) lv (.ref x :: st)) : V E G nL T M pc lv (a2 :: a1 :: a0 :: .ref (G.1 + o) :: st) :=
  V.callV C (As := [a0, a1, a2]) (r := some (.ref x)) hc w hl hS hk hci hrm d rfl hw rfl kk
theorem V.callV3v (C : dk_Cx E G cc nL own ret fr lo) {Cn : String} {y : MethodName} {cc' : ByteArray} {nL' : Nat} {ret' : Option FieldType} {fr' lo' idx o ci : Nat} {a0 a1 a2 : Value} {M2 : dkM} (hc : dk_Con E.2.1 y cc' nL' ret' fr' lo' G [.ref (G.1 + o), a0, a1, a2] M (none, M2)) (w : dk_mv Cn y cc' nL' ret' 3) (hl : Cond.methodLink own idx y ∈ dk_tbl) (hS : G.2.1 o) (hk : dk_kd o = ci) (hci : (vwCl[ci]?).map (fun q => q.1) = some Cn) (hrm : Nat.ble (fr' + 1) fr = true ∧ Nat.ble (8 + (nL' + 11) + lo') lo = true) (d : decode cc pc = .ok (.invokevirtual idx, 3)) (hw : Nat.ble (st.map fun v => v.category).sum 8 = true)
    (kk : V E G nL T M2 (pc + 3) lv (st)) : V E G nL T M pc lv (a2 :: a1 :: a0 :: .ref (G.1 + o) :: st) :=
  V.callV C (As := [a0, a1, a2]) (r := none) hc w hl hS hk hci hrm d rfl hw rfl kk
theorem V.callS0i (C : dk_Cx E G cc nL own ret fr lo) {y : MethodName} {cc' : ByteArray} {nL' : Nat} {ret' : Option FieldType} {fr' lo' idx : Nat} {x : Int32} {M2 : dkM} (hc : dk_Con E.2.1 y cc' nL' ret' fr' lo' G [] M (some (.int x), M2)) (w : dk_ms own y cc' nL' ret' 0) (hl : Cond.methodLink own idx y ∈ dk_tbl) (hrm : Nat.ble (fr' + 1) fr = true ∧ Nat.ble (8 + (nL' + 11) + lo') lo = true) (d : decode cc pc = .ok (.invokestatic idx, 3)) (hw : Nat.ble (st.map fun v => v.category).sum 8 = true)
    (kk : V E G nL T M2 (pc + 3) lv (.int x :: st)) : V E G nL T M pc lv (st) :=
  V.callS C (As := []) (r := some (.int x)) hc w hl hrm d rfl hw rfl kk
theorem V.callS0l (C : dk_Cx E G cc nL own ret fr lo) {y : MethodName} {cc' : ByteArray} {nL' : Nat} {ret' : Option FieldType} {fr' lo' idx : Nat} {x : Int64} {M2 : dkM} (hc : dk_Con E.2.1 y cc' nL' ret' fr' lo' G [] M (some (.long x), M2)) (w : dk_ms own y cc' nL' ret' 0) (hl : Cond.methodLink own idx y ∈ dk_tbl) (hrm : Nat.ble (fr' + 1) fr = true ∧ Nat.ble (8 + (nL' + 11) + lo') lo = true) (d : decode cc pc = .ok (.invokestatic idx, 3)) (hw : Nat.ble (st.map fun v => v.category).sum 8 = true)
    (kk : V E G nL T M2 (pc + 3) lv (.long x :: st)) : V E G nL T M pc lv (st) :=
  V.callS C (As := []) (r := some (.long x)) hc w hl hrm d rfl hw rfl kk
theorem V.callS0a (C : dk_Cx E G cc nL own ret fr lo) {y : MethodName} {cc' : ByteArray} {nL' : Nat} {ret' : Option FieldType} {fr' lo' idx : Nat} {x : Nat} {M2 : dkM} (hc : dk_Con E.2.1 y cc' nL' ret' fr' lo' G [] M (some (.ref x), M2)) (w : dk_ms own y cc' nL' ret' 0) (hl : Cond.methodLink own idx y ∈ dk_tbl) (hrm : Nat.ble (fr' + 1) fr = true ∧ Nat.ble (8 + (nL' + 11) + lo') lo = true) (d : decode cc pc = .ok (.invokestatic idx, 3)) (hw : Nat.ble (st.map fun v => v.category).sum 8 = true)
    (kk : V E G nL T M2 (pc + 3) lv (.ref x :: st)) : V E G nL T M pc lv (st) :=
  V.callS C (As := []) (r := some (.ref x)) hc w hl hrm d rfl hw rfl kk
theorem V.callS0v (C : dk_Cx E G cc nL own ret fr lo) {y : MethodName} {cc' : ByteArray} {nL' : Nat} {ret' : Option FieldType} {fr' lo' idx : Nat} {M2 : dkM} (hc : dk_Con E.2.1 y cc' nL' ret' fr' lo' G [] M (none, M2)) (w : dk_ms own y cc' nL' ret' 0) (hl : Cond.methodLink own idx y ∈ dk_tbl) (hrm : Nat.ble (fr' + 1) fr = true ∧ Nat.ble (8 + (nL' + 11) + lo') lo = true) (d : decode cc pc = .ok (.invokestatic idx, 3)) (hw : Nat.ble (st.map fun v => v.category).sum 8 = true)
    (kk : V E G nL T M2 (pc + 3) lv (st)) : V E G nL T M pc lv (st) :=
  V.callS C (As := []) (r := none) hc w hl hrm d rfl hw rfl kk
theorem V.callS1i (C : dk_Cx E G cc nL own ret fr lo) {y : MethodName} {cc' : ByteArray} {nL' : Nat} {ret' : Option FieldType} {fr' lo' idx : Nat} {a0 : Value} {x : Int32} {M2 : dkM} (hc : dk_Con E.2.1 y cc' nL' ret' fr' lo' G [a0] M (some (.int x), M2)) (w : dk_ms own y cc' nL' ret' 1) (hl : Cond.methodLink own idx y ∈ dk_tbl) (hrm : Nat.ble (fr' + 1) fr = true ∧ Nat.ble (8 + (nL' + 11) + lo') lo = true) (d : decode cc pc = .ok (.invokestatic idx, 3)) (hw : Nat.ble (st.map fun v => v.category).sum 8 = true)
    (kk : V E G nL T M2 (pc + 3) lv (.int x :: st)) : V E G nL T M pc lv (a0 :: st) :=
  V.callS C (As := [a0]) (r := some (.int x)) hc w hl hrm d rfl hw rfl kk
theorem V.callS1l (C : dk_Cx E G cc nL own ret fr lo) {y : MethodName} {cc' : ByteArray} {nL' : Nat} {ret' : Option FieldType} {fr' lo' idx : Nat} {a0 : Value} {x : Int64} {M2 : dkM} (hc : dk_Con E.2.1 y cc' nL' ret' fr' lo' G [a0] M (some (.long x), M2)) (w : dk_ms own y cc' nL' ret' 1) (hl : Cond.methodLink own idx y ∈ dk_tbl) (hrm : Nat.ble (fr' + 1) fr = true ∧ Nat.ble (8 + (nL' + 11) + lo') lo = true) (d : decode cc pc = .ok (.invokestatic idx, 3)) (hw : Nat.ble (st.map fun v => v.category).sum 8 = true)
    (kk : V E G nL T M2 (pc + 3) lv (.long x :: st)) : V E G nL T M pc lv (a0 :: st) :=
  V.callS C (As := [a0]) (r := some (.long x)) hc w hl hrm d rfl hw rfl kk
theorem V.callS1a (C : dk_Cx E G cc nL own ret fr lo) {y : MethodName} {cc' : ByteArray} {nL' : Nat} {ret' : Option FieldType} {fr' lo' idx : Nat} {a0 : Value} {x : Nat} {M2 : dkM} (hc : dk_Con E.2.1 y cc' nL' ret' fr' lo' G [a0] M (some (.ref x), M2)) (w : dk_ms own y cc' nL' ret' 1) (hl : Cond.methodLink own idx y ∈ dk_tbl) (hrm : Nat.ble (fr' + 1) fr = true ∧ Nat.ble (8 + (nL' + 11) + lo') lo = true) (d : decode cc pc = .ok (.invokestatic idx, 3)) (hw : Nat.ble (st.map fun v => v.category).sum 8 = true)
    (kk : V E G nL T M2 (pc + 3) lv (.ref x :: st)) : V E G nL T M pc lv (a0 :: st) :=
  V.callS C (As := [a0]) (r := some (.ref x)) hc w hl hrm d rfl hw rfl kk
theorem V.callS1v (C : dk_Cx E G cc nL own ret fr lo) {y : MethodName} {cc' : ByteArray} {nL' : Nat} {ret' : Option FieldType} {fr' lo' idx : Nat} {a0 : Value} {M2 : dkM} (hc : dk_Con E.2.1 y cc' nL' ret' fr' lo' G [a0] M (none, M2)) (w : dk_ms own y cc' nL' ret' 1) (hl : Cond.methodLink own idx y ∈ dk_tbl) (hrm : Nat.ble (fr' + 1) fr = true ∧ Nat.ble (8 + (nL' + 11) + lo') lo = true) (d : decode cc pc = .ok (.invokestatic idx, 3)) (hw : Nat.ble (st.map fun v => v.category).sum 8 = true)
    (kk : V E G nL T M2 (pc + 3) lv (st)) : V E G nL T M pc lv (a0 :: st) :=
  V.callS C (As := [a0]) (r := none) hc w hl hrm d rfl hw rfl kk
theorem V.callS2i (C : dk_Cx E G cc nL own ret fr lo) {y : MethodName} {cc' : ByteArray} {nL' : Nat} {ret' : Option FieldType} {fr' lo' idx : Nat} {a0 a1 : Value} {x : Int32} {M2 : dkM} (hc : dk_Con E.2.1 y cc' nL' ret' fr' lo' G [a0, a1] M (some (.int x), M2)) (w : dk_ms own y cc' nL' ret' 2) (hl : Cond.methodLink own idx y ∈ dk_tbl) (hrm : Nat.ble (fr' + 1) fr = true ∧ Nat.ble (8 + (nL' + 11) + lo') lo = true) (d : decode cc pc = .ok (.invokestatic idx, 3)) (hw : Nat.ble (st.map fun v => v.category).sum 8 = true)
    (kk : V E G nL T M2 (pc + 3) lv (.int x :: st)) : V E G nL T M pc lv (a1 :: a0 :: st) :=
  V.callS C (As := [a0, a1]) (r := some (.int x)) hc w hl hrm d rfl hw rfl kk
theorem V.callS2l (C : dk_Cx E G cc nL own ret fr lo) {y : MethodName} {cc' : ByteArray} {nL' : Nat} {ret' : Option FieldType} {fr' lo' idx : Nat} {a0 a1 : Value} {x : Int64} {M2 : dkM} (hc : dk_Con E.2.1 y cc' nL' ret' fr' lo' G [a0, a1] M (some (.long x), M2)) (w : dk_ms own y cc' nL' ret' 2) (hl : Cond.methodLink own idx y ∈ dk_tbl) (hrm : Nat.ble (fr' + 1) fr = true ∧ Nat.ble (8 + (nL' + 11) + lo') lo = true) (d : decode cc pc = .ok (.invokestatic idx, 3)) (hw : Nat.ble (st.map fun v => v.category).sum 8 = true)
    (kk : V E G nL T M2 (pc + 3) lv (.long x :: st)) : V E G nL T M pc lv (a1 :: a0 :: st) :=
  V.callS C (As := [a0, a1]) (r := some (.long x)) hc w hl hrm d rfl hw rfl kk
theorem V.callS2a (C : dk_Cx E G cc nL own ret fr lo) {y : MethodName} {cc' : ByteArray} {nL' : Nat} {ret' : Option FieldType} {fr' lo' idx : Nat} {a0 a1 : Value} {x : Nat} {M2 : dkM} (hc : dk_Con E.2.1 y cc' nL' ret' fr' lo' G [a0, a1] M (some (.ref x), M2)) (w : dk_ms own y cc' nL' ret' 2) (hl : Cond.methodLink own idx y ∈ dk_tbl) (hrm : Nat.ble (fr' + 1) fr = true ∧ Nat.ble (8 + (nL' + 11) + lo') lo = true) (d : decode cc pc = .ok (.invokestatic idx, 3)) (hw : Nat.ble (st.map fun v => v.category).sum 8 = true)
    (kk : V E G nL T M2 (pc + 3) lv (.ref x :: st)) : V E G nL T M pc lv (a1 :: a0 :: st) :=
  V.callS C (As := [a0, a1]) (r := some (.ref x)) hc w hl hrm d rfl hw rfl kk
theorem V.callS2v (C : dk_Cx E G cc nL own ret fr lo) {y : MethodName} {cc' : ByteArray} {nL' : Nat} {ret' : Option FieldType} {fr' lo' idx : Nat} {a0 a1 : Value} {M2 : dkM} (hc : dk_Con E.2.1 y cc' nL' ret' fr' lo' G [a0, a1] M (none, M2)) (w : dk_ms own y cc' nL' ret' 2) (hl : Cond.methodLink own idx y ∈ dk_tbl) (hrm : Nat.ble (fr' + 1) fr = true ∧ Nat.ble (8 + (nL' + 11) + lo') lo = true) (d : decode cc pc = .ok (.invokestatic idx, 3)) (hw : Nat.ble (st.map fun v => v.category).sum 8 = true)
    (kk : V E G nL T M2 (pc + 3) lv (st)) : V E G nL T M pc lv (a1 :: a0 :: st) :=
  V.callS C (As := [a0, a1]) (r := none) hc w hl hrm d rfl hw rfl kk
theorem V.callS3i (C : dk_Cx E G cc nL own ret fr lo) {y : MethodName} {cc' : ByteArray} {nL' : Nat} {ret' : Option FieldType} {fr' lo' idx : Nat} {a0 a1 a2 : Value} {x : Int32} {M2 : dkM} (hc : dk_Con E.2.1 y cc' nL' ret' fr' lo' G [a0, a1, a2] M (some (.int x), M2)) (w : dk_ms own y cc' nL' ret' 3) (hl : Cond.methodLink own idx y ∈ dk_tbl) (hrm : Nat.ble (fr' + 1) fr = true ∧ Nat.ble (8 + (nL' + 11) + lo') lo = true) (d : decode cc pc = .ok (.invokestatic idx, 3)) (hw : Nat.ble (st.map fun v => v.category).sum 8 = true)
    (kk : V E G nL T M2 (pc + 3) lv (.int x :: st)) : V E G nL T M pc lv (a2 :: a1 :: a0 :: st) :=
  V.callS C (As := [a0, a1, a2]) (r := some (.int x)) hc w hl hrm d rfl hw rfl kk
theorem V.callS3l (C : dk_Cx E G cc nL own ret fr lo) {y : MethodName} {cc' : ByteArray} {nL' : Nat} {ret' : Option FieldType} {fr' lo' idx : Nat} {a0 a1 a2 : Value} {x : Int64} {M2 : dkM} (hc : dk_Con E.2.1 y cc' nL' ret' fr' lo' G [a0, a1, a2] M (some (.long x), M2)) (w : dk_ms own y cc' nL' ret' 3) (hl : Cond.methodLink own idx y ∈ dk_tbl) (hrm : Nat.ble (fr' + 1) fr = true ∧ Nat.ble (8 + (nL' + 11) + lo') lo = true) (d : decode cc pc = .ok (.invokestatic idx, 3)) (hw : Nat.ble (st.map fun v => v.category).sum 8 = true)
    (kk : V E G nL T M2 (pc + 3) lv (.long x :: st)) : V E G nL T M pc lv (a2 :: a1 :: a0 :: st) :=
  V.callS C (As := [a0, a1, a2]) (r := some (.long x)) hc w hl hrm d rfl hw rfl kk
theorem V.callS3a (C : dk_Cx E G cc nL own ret fr lo) {y : MethodName} {cc' : ByteArray} {nL' : Nat} {ret' : Option FieldType} {fr' lo' idx : Nat} {a0 a1 a2 : Value} {x : Nat} {M2 : dkM} (hc : dk_Con E.2.1 y cc' nL' ret' fr' lo' G [a0, a1, a2] M (some (.ref x), M2)) (w : dk_ms own y cc' nL' ret' 3) (hl : Cond.methodLink own idx y ∈ dk_tbl) (hrm : Nat.ble (fr' + 1) fr = true ∧ Nat.ble (8 + (nL' + 11) + lo') lo = true) (d : decode cc pc = .ok (.invokestatic idx, 3)) (hw : Nat.ble (st.map fun v => v.category).sum 8 = true)
    (kk : V E G nL T M2 (pc + 3) lv (.ref x :: st)) : V E G nL T M pc lv (a2 :: a1 :: a0 :: st) :=
  V.callS C (As := [a0, a1, a2]) (r := some (.ref x)) hc w hl hrm d rfl hw rfl kk
theorem V.callS3v (C : dk_Cx E G cc nL own ret fr lo) {y : MethodName} {cc' : ByteArray} {nL' : Nat} {ret' : Option FieldType} {fr' lo' idx : Nat} {a0 a1 a2 : Value} {M2 : dkM} (hc : dk_Con E.2.1 y cc' nL' ret' fr' lo' G [a0, a1, a2] M (none, M2)) (w : dk_ms own y cc' nL' ret' 3) (hl : Cond.methodLink own idx y ∈ dk_tbl) (hrm : Nat.ble (fr' + 1) fr = true ∧ Nat.ble (8 + (nL' + 11) + lo') lo = true) (d : decode cc pc = .ok (.invokestatic idx, 3)) (hw : Nat.ble (st.map fun v => v.category).sum 8 = true)
    (kk : V E G nL T M2 (pc + 3) lv (st)) : V E G nL T M pc lv (a2 :: a1 :: a0 :: st) :=
  V.callS C (As := [a0, a1, a2]) (r := none) hc w hl hrm d rfl hw rfl kk
theorem V.callS4i (C : dk_Cx E G cc nL own ret fr lo) {y : MethodName} {cc' : ByteArray} {nL' : Nat} {ret' : Option FieldType} {fr' lo' idx : Nat} {a0 a1 a2 a3 : Value} {x : Int32} {M2 : dkM} (hc : dk_Con E.2.1 y cc' nL' ret' fr' lo' G [a0, a1, a2, a3] M (some (.int x), M2)) (w : dk_ms own y cc' nL' ret' 4) (hl : Cond.methodLink own idx y ∈ dk_tbl) (hrm : Nat.ble (fr' + 1) fr = true ∧ Nat.ble (8 + (nL' + 11) + lo') lo = true) (d : decode cc pc = .ok (.invokestatic idx, 3)) (hw : Nat.ble (st.map fun v => v.category).sum 8 = true)
    (kk : V E G nL T M2 (pc + 3) lv (.int x :: st)) : V E G nL T M pc lv (a3 :: a2 :: a1 :: a0 :: st) :=
  V.callS C (As := [a0, a1, a2, a3]) (r := some (.int x)) hc w hl hrm d rfl hw rfl kk
theorem V.callS4l (C : dk_Cx E G cc nL own ret fr lo) {y : MethodName} {cc' : ByteArray} {nL' : Nat} {ret' : Option FieldType} {fr' lo' idx : Nat} {a0 a1 a2 a3 : Value} {x : Int64} {M2 : dkM} (hc : dk_Con E.2.1 y cc' nL' ret' fr' lo' G [a0, a1, a2, a3] M (some (.long x), M2)) (w : dk_ms own y cc' nL' ret' 4) (hl : Cond.methodLink own idx y ∈ dk_tbl) (hrm : Nat.ble (fr' + 1) fr = true ∧ Nat.ble (8 + (nL' + 11) + lo') lo = true) (d : decode cc pc = .ok (.invokestatic idx, 3)) (hw : Nat.ble (st.map fun v => v.category).sum 8 = true)
    (kk : V E G nL T M2 (pc + 3) lv (.long x :: st)) : V E G nL T M pc lv (a3 :: a2 :: a1 :: a0 :: st) :=
  V.callS C (As := [a0, a1, a2, a3]) (r := some (.long x)) hc w hl hrm d rfl hw rfl kk
theorem V.callS4a (C : dk_Cx E G cc nL own ret fr lo) {y : MethodName} {cc' : ByteArray} {nL' : Nat} {ret' : Option FieldType} {fr' lo' idx : Nat} {a0 a1 a2 a3 : Value} {x : Nat} {M2 : dkM} (hc : dk_Con E.2.1 y cc' nL' ret' fr' lo' G [a0, a1, a2, a3] M (some (.ref x), M2)) (w : dk_ms own y cc' nL' ret' 4) (hl : Cond.methodLink own idx y ∈ dk_tbl) (hrm : Nat.ble (fr' + 1) fr = true ∧ Nat.ble (8 + (nL' + 11) + lo') lo = true) (d : decode cc pc = .ok (.invokestatic idx, 3)) (hw : Nat.ble (st.map fun v => v.category).sum 8 = true)
    (kk : V E G nL T M2 (pc + 3) lv (.ref x :: st)) : V E G nL T M pc lv (a3 :: a2 :: a1 :: a0 :: st) :=
  V.callS C (As := [a0, a1, a2, a3]) (r := some (.ref x)) hc w hl hrm d rfl hw rfl kk
theorem V.callS4v (C : dk_Cx E G cc nL own ret fr lo) {y : MethodName} {cc' : ByteArray} {nL' : Nat} {ret' : Option FieldType} {fr' lo' idx : Nat} {a0 a1 a2 a3 : Value} {M2 : dkM} (hc : dk_Con E.2.1 y cc' nL' ret' fr' lo' G [a0, a1, a2, a3] M (none, M2)) (w : dk_ms own y cc' nL' ret' 4) (hl : Cond.methodLink own idx y ∈ dk_tbl) (hrm : Nat.ble (fr' + 1) fr = true ∧ Nat.ble (8 + (nL' + 11) + lo') lo = true) (d : decode cc pc = .ok (.invokestatic idx, 3)) (hw : Nat.ble (st.map fun v => v.category).sum 8 = true)
    (kk : V E G nL T M2 (pc + 3) lv (st)) : V E G nL T M pc lv (a3 :: a2 :: a1 :: a0 :: st) :=
  V.callS C (As := [a0, a1, a2, a3]) (r := none) hc w hl hrm d rfl hw rfl kk
def dk_max (x y : Int32) : Int32 := if x < y then y else x
def dk_min (x y : Int32) : Int32 := if y < x then y else x
theorem V.mmax (C : dk_Cx E G cc nL own ret fr lo) {idx : Nat} {x y : Int32} (hl : Cond.methodLink own idx Lib.Math.max.name ∈ dk_tbl) (hrm : Nat.ble 1 fr = true ∧ Nat.ble 21 lo = true) (d : decode cc pc = .ok (.invokestatic idx, 3)) (hw : Nat.ble (st.map fun v => v.category).sum 8 = true) (kk : V E G nL T M (pc + 3) lv (.int (dk_max x y) :: st)) : V E G nL T M pc lv (.int y :: .int x :: st) := by
  obtain ⟨p, l, e, R, s, m, args, below, meth, c⟩ := E
  intro H locs ls hR hz hSt hls
  obtain ⟨hx, hb, hml, hown, hts, hlk, hret, hK, hfr, hlo⟩ := C
  have h1 := dk_wt hw
  have h2 := Nat.le_of_ble_eq_true hrm.1
  have h3 := Nat.le_of_ble_eq_true hrm.2
  exact va_mmax hx hb (hml.trans hls.1.symm) hown (hts _ hl) (hts _ mmmax_s) (hts _ mmath_i) (hts _ mmmax_c) (by rw [hfr]; exact h2) (by rw [hlo]; omega) (Nat.zero_le _) (Nat.zero_le _) d (kk H locs ls hR hz hSt hls)
theorem V.mmin (C : dk_Cx E G cc nL own ret fr lo) {idx : Nat} {x y : Int32} (hl : Cond.methodLink own idx Lib.Math.min.name ∈ dk_tbl) (hrm : Nat.ble 1 fr = true ∧ Nat.ble 21 lo = true) (d : decode cc pc = .ok (.invokestatic idx, 3)) (hw : Nat.ble (st.map fun v => v.category).sum 8 = true) (kk : V E G nL T M (pc + 3) lv (.int (dk_min x y) :: st)) : V E G nL T M pc lv (.int y :: .int x :: st) := by
  obtain ⟨p, l, e, R, s, m, args, below, meth, c⟩ := E
  intro H locs ls hR hz hSt hls
  obtain ⟨hx, hb, hml, hown, hts, hlk, hret, hK, hfr, hlo⟩ := C
  have h1 := dk_wt hw
  have h2 := Nat.le_of_ble_eq_true hrm.1
  have h3 := Nat.le_of_ble_eq_true hrm.2
  exact va_mmin hx hb (hml.trans hls.1.symm) hown (hts _ hl) (hts _ mmmin_s) (hts _ mmath_i) (hts _ mmmin_c) (by rw [hfr]; exact h2) (by rw [hlo]; omega) (Nat.zero_le _) (Nat.zero_le _) d (kk H locs ls hR hz hSt hls)
theorem gfX2_15 {o n : Nat} (h : dk_row G o n) (C : dk_Cx E G cc nL RX2 ret fr lo) (dg : decode cc pc = .ok (.getfield 15, 3)) (kk : V E G nL T M (pc + 3) lv (.ref (G.1 + (o + 1)) :: st)) : V E G nL T M pc lv (.ref (G.1 + o) :: st) :=
  V.getf C h.s (dk_cellX2 h.k) uwX2 (ci := 2) (Cn := RX2) (Tn := TX2) (N := 1) (k := 0) rfl (by decide) flX2_15 rfl dg kk
theorem gfX0_14 {d : Nat} (hd : dk_disk G d) (C : dk_Cx E G cc nL RX0 ret fr lo) (dg : decode cc pc = .ok (.getfield 14, 3)) (kk : V E G nL T M (pc + 3) lv (.ref (G.1 + (d + 1)) :: st)) : V E G nL T M pc lv (.ref (G.1 + d) :: st) :=
  V.getf C hd.s (dk_cellX0 hd.k) uwX0 (ci := 0) (Cn := RX0) (Tn := TX0) (N := 15) (k := 0) rfl (by decide) flX0_14 rfl dg kk
theorem gfX0_20 {d : Nat} (hd : dk_disk G d) (C : dk_Cx E G cc nL RX0 ret fr lo) (dg : decode cc pc = .ok (.getfield 20, 3)) (kk : V E G nL T M (pc + 3) lv (.ref (G.1 + (d + 3)) :: st)) : V E G nL T M pc lv (.ref (G.1 + d) :: st) :=
  V.getf C hd.s (dk_cellX0 hd.k) uwX0 (ci := 0) (Cn := RX0) (Tn := TX0) (N := 15) (k := 1) rfl (by decide) flX0_20 rfl dg kk
theorem gfX0_23 {d : Nat} (hd : dk_disk G d) (C : dk_Cx E G cc nL RX0 ret fr lo) (dg : decode cc pc = .ok (.getfield 23, 3)) (kk : V E G nL T M (pc + 3) lv (.ref (G.1 + (d + 5)) :: st)) : V E G nL T M pc lv (.ref (G.1 + d) :: st) :=
  V.getf C hd.s (dk_cellX0 hd.k) uwX0 (ci := 0) (Cn := RX0) (Tn := TX0) (N := 15) (k := 2) rfl (by decide) flX0_23 rfl dg kk
theorem gfX0_26 {d : Nat} (hd : dk_disk G d) (C : dk_Cx E G cc nL RX0 ret fr lo) (dg : decode cc pc = .ok (.getfield 26, 3)) (kk : V E G nL T M (pc + 3) lv (.ref (G.1 + (d + 7)) :: st)) : V E G nL T M pc lv (.ref (G.1 + d) :: st) :=
  V.getf C hd.s (dk_cellX0 hd.k) uwX0 (ci := 0) (Cn := RX0) (Tn := TX0) (N := 15) (k := 3) rfl (by decide) flX0_26 rfl dg kk
theorem gfX0_29 {d : Nat} (hd : dk_disk G d) (C : dk_Cx E G cc nL RX0 ret fr lo) (dg : decode cc pc = .ok (.getfield 29, 3)) (kk : V E G nL T M (pc + 3) lv (.ref (G.1 + (d + 9)) :: st)) : V E G nL T M pc lv (.ref (G.1 + d) :: st) :=
  V.getf C hd.s (dk_cellX0 hd.k) uwX0 (ci := 0) (Cn := RX0) (Tn := TX0) (N := 15) (k := 4) rfl (by decide) flX0_29 rfl dg kk
theorem gfX0_32 {d : Nat} (hd : dk_disk G d) (C : dk_Cx E G cc nL RX0 ret fr lo) (dg : decode cc pc = .ok (.getfield 32, 3)) (kk : V E G nL T M (pc + 3) lv (.int (M d 5) :: st)) : V E G nL T M pc lv (.ref (G.1 + d) :: st) :=
  V.getf C hd.s (dk_cellX0 hd.k) uwX0 (ci := 0) (Cn := RX0) (Tn := TX0) (N := 15) (k := 5) rfl (by decide) flX0_32 rfl dg kk
theorem pfX0_32 {d : Nat} (hd : dk_disk G d) (C : dk_Cx E G cc nL RX0 ret fr lo) {x : Int32} (dg : decode cc pc = .ok (.putfield 32, 3)) (kk : V E G nL T (dk_put M d 5 x) (pc + 3) lv st) : V E G nL T M pc lv (.int x :: .ref (G.1 + d) :: st) :=
  V.putf C hd.s (dk_cellX0 hd.k) ((dk_cellX0 hd.k).trans (by simp [dk_put])) uwX0 (ci := 0) (Cn := RX0) (Tn := TX0) (N := 15) (k := 5) (ty := .int) rfl tyX0 tyX0_ok nmX0 (by decide) (Nat.le_of_ble_eq_true rfl) flX0_32 rfl (tyX0_ok 5 (by decide)) rfl rfl dg kk
theorem gfX0_36 {d : Nat} (hd : dk_disk G d) (C : dk_Cx E G cc nL RX0 ret fr lo) (dg : decode cc pc = .ok (.getfield 36, 3)) (kk : V E G nL T M (pc + 3) lv (.int (M d 6) :: st)) : V E G nL T M pc lv (.ref (G.1 + d) :: st) :=
  V.getf C hd.s (dk_cellX0 hd.k) uwX0 (ci := 0) (Cn := RX0) (Tn := TX0) (N := 15) (k := 6) rfl (by decide) flX0_36 rfl dg kk
theorem pfX0_36 {d : Nat} (hd : dk_disk G d) (C : dk_Cx E G cc nL RX0 ret fr lo) {x : Int32} (dg : decode cc pc = .ok (.putfield 36, 3)) (kk : V E G nL T (dk_put M d 6 x) (pc + 3) lv st) : V E G nL T M pc lv (.int x :: .ref (G.1 + d) :: st) :=
  V.putf C hd.s (dk_cellX0 hd.k) ((dk_cellX0 hd.k).trans (by simp [dk_put])) uwX0 (ci := 0) (Cn := RX0) (Tn := TX0) (N := 15) (k := 6) (ty := .int) rfl tyX0 tyX0_ok nmX0 (by decide) (Nat.le_of_ble_eq_true rfl) flX0_36 rfl (tyX0_ok 6 (by decide)) rfl rfl dg kk
theorem gfX0_39 {d : Nat} (hd : dk_disk G d) (C : dk_Cx E G cc nL RX0 ret fr lo) (dg : decode cc pc = .ok (.getfield 39, 3)) (kk : V E G nL T M (pc + 3) lv (.int (M d 7) :: st)) : V E G nL T M pc lv (.ref (G.1 + d) :: st) :=
  V.getf C hd.s (dk_cellX0 hd.k) uwX0 (ci := 0) (Cn := RX0) (Tn := TX0) (N := 15) (k := 7) rfl (by decide) flX0_39 rfl dg kk
theorem pfX0_39 {d : Nat} (hd : dk_disk G d) (C : dk_Cx E G cc nL RX0 ret fr lo) {x : Int32} (dg : decode cc pc = .ok (.putfield 39, 3)) (kk : V E G nL T (dk_put M d 7 x) (pc + 3) lv st) : V E G nL T M pc lv (.int x :: .ref (G.1 + d) :: st) :=
  V.putf C hd.s (dk_cellX0 hd.k) ((dk_cellX0 hd.k).trans (by simp [dk_put])) uwX0 (ci := 0) (Cn := RX0) (Tn := TX0) (N := 15) (k := 7) (ty := .int) rfl tyX0 tyX0_ok nmX0 (by decide) (Nat.le_of_ble_eq_true rfl) flX0_39 rfl (tyX0_ok 7 (by decide)) rfl rfl dg kk
theorem gfX0_42 {d : Nat} (hd : dk_disk G d) (C : dk_Cx E G cc nL RX0 ret fr lo) (dg : decode cc pc = .ok (.getfield 42, 3)) (kk : V E G nL T M (pc + 3) lv (.int (M d 8) :: st)) : V E G nL T M pc lv (.ref (G.1 + d) :: st) :=
  V.getf C hd.s (dk_cellX0 hd.k) uwX0 (ci := 0) (Cn := RX0) (Tn := TX0) (N := 15) (k := 8) rfl (by decide) flX0_42 rfl dg kk
theorem pfX0_42 {d : Nat} (hd : dk_disk G d) (C : dk_Cx E G cc nL RX0 ret fr lo) {x : Int32} (hx : x = 0 ∨ x = 1) (dg : decode cc pc = .ok (.putfield 42, 3)) (kk : V E G nL T (dk_put M d 8 x) (pc + 3) lv st) : V E G nL T M pc lv (.int x :: .ref (G.1 + d) :: st) :=
  V.putf C hd.s (dk_cellX0 hd.k) ((dk_cellX0 hd.k).trans (by simp [dk_put])) uwX0 (ci := 0) (Cn := RX0) (Tn := TX0) (N := 15) (k := 8) (ty := .boolean) rfl tyX0 tyX0_ok nmX0 (by decide) (Nat.le_of_ble_eq_true rfl) flX0_42 rfl (tyX0_ok 8 (by decide)) (dk_bool hx).1 (dk_bool hx).2 dg kk
theorem gfX0_46 {d : Nat} (hd : dk_disk G d) (C : dk_Cx E G cc nL RX0 ret fr lo) (dg : decode cc pc = .ok (.getfield 46, 3)) (kk : V E G nL T M (pc + 3) lv (.int (M d 9) :: st)) : V E G nL T M pc lv (.ref (G.1 + d) :: st) :=
  V.getf C hd.s (dk_cellX0 hd.k) uwX0 (ci := 0) (Cn := RX0) (Tn := TX0) (N := 15) (k := 9) rfl (by decide) flX0_46 rfl dg kk
theorem pfX0_46 {d : Nat} (hd : dk_disk G d) (C : dk_Cx E G cc nL RX0 ret fr lo) {x : Int32} (dg : decode cc pc = .ok (.putfield 46, 3)) (kk : V E G nL T (dk_put M d 9 x) (pc + 3) lv st) : V E G nL T M pc lv (.int x :: .ref (G.1 + d) :: st) :=
  V.putf C hd.s (dk_cellX0 hd.k) ((dk_cellX0 hd.k).trans (by simp [dk_put])) uwX0 (ci := 0) (Cn := RX0) (Tn := TX0) (N := 15) (k := 9) (ty := .int) rfl tyX0 tyX0_ok nmX0 (by decide) (Nat.le_of_ble_eq_true rfl) flX0_46 rfl (tyX0_ok 9 (by decide)) rfl rfl dg kk
theorem gfX0_49 {d : Nat} (hd : dk_disk G d) (C : dk_Cx E G cc nL RX0 ret fr lo) (dg : decode cc pc = .ok (.getfield 49, 3)) (kk : V E G nL T M (pc + 3) lv (.int (M d 10) :: st)) : V E G nL T M pc lv (.ref (G.1 + d) :: st) :=
  V.getf C hd.s (dk_cellX0 hd.k) uwX0 (ci := 0) (Cn := RX0) (Tn := TX0) (N := 15) (k := 10) rfl (by decide) flX0_49 rfl dg kk
theorem pfX0_49 {d : Nat} (hd : dk_disk G d) (C : dk_Cx E G cc nL RX0 ret fr lo) {x : Int32} (dg : decode cc pc = .ok (.putfield 49, 3)) (kk : V E G nL T (dk_put M d 10 x) (pc + 3) lv st) : V E G nL T M pc lv (.int x :: .ref (G.1 + d) :: st) :=
  V.putf C hd.s (dk_cellX0 hd.k) ((dk_cellX0 hd.k).trans (by simp [dk_put])) uwX0 (ci := 0) (Cn := RX0) (Tn := TX0) (N := 15) (k := 10) (ty := .int) rfl tyX0 tyX0_ok nmX0 (by decide) (Nat.le_of_ble_eq_true rfl) flX0_49 rfl (tyX0_ok 10 (by decide)) rfl rfl dg kk
theorem gfX0_52 {d : Nat} (hd : dk_disk G d) (C : dk_Cx E G cc nL RX0 ret fr lo) (dg : decode cc pc = .ok (.getfield 52, 3)) (kk : V E G nL T M (pc + 3) lv (.int (M d 11) :: st)) : V E G nL T M pc lv (.ref (G.1 + d) :: st) :=
  V.getf C hd.s (dk_cellX0 hd.k) uwX0 (ci := 0) (Cn := RX0) (Tn := TX0) (N := 15) (k := 11) rfl (by decide) flX0_52 rfl dg kk
theorem pfX0_52 {d : Nat} (hd : dk_disk G d) (C : dk_Cx E G cc nL RX0 ret fr lo) {x : Int32} (dg : decode cc pc = .ok (.putfield 52, 3)) (kk : V E G nL T (dk_put M d 11 x) (pc + 3) lv st) : V E G nL T M pc lv (.int x :: .ref (G.1 + d) :: st) :=
  V.putf C hd.s (dk_cellX0 hd.k) ((dk_cellX0 hd.k).trans (by simp [dk_put])) uwX0 (ci := 0) (Cn := RX0) (Tn := TX0) (N := 15) (k := 11) (ty := .int) rfl tyX0 tyX0_ok nmX0 (by decide) (Nat.le_of_ble_eq_true rfl) flX0_52 rfl (tyX0_ok 11 (by decide)) rfl rfl dg kk
theorem gfX0_55 {d : Nat} (hd : dk_disk G d) (C : dk_Cx E G cc nL RX0 ret fr lo) (dg : decode cc pc = .ok (.getfield 55, 3)) (kk : V E G nL T M (pc + 3) lv (.int (M d 12) :: st)) : V E G nL T M pc lv (.ref (G.1 + d) :: st) :=
  V.getf C hd.s (dk_cellX0 hd.k) uwX0 (ci := 0) (Cn := RX0) (Tn := TX0) (N := 15) (k := 12) rfl (by decide) flX0_55 rfl dg kk
theorem pfX0_55 {d : Nat} (hd : dk_disk G d) (C : dk_Cx E G cc nL RX0 ret fr lo) {x : Int32} (hx : x = 0 ∨ x = 1) (dg : decode cc pc = .ok (.putfield 55, 3)) (kk : V E G nL T (dk_put M d 12 x) (pc + 3) lv st) : V E G nL T M pc lv (.int x :: .ref (G.1 + d) :: st) :=
  V.putf C hd.s (dk_cellX0 hd.k) ((dk_cellX0 hd.k).trans (by simp [dk_put])) uwX0 (ci := 0) (Cn := RX0) (Tn := TX0) (N := 15) (k := 12) (ty := .boolean) rfl tyX0 tyX0_ok nmX0 (by decide) (Nat.le_of_ble_eq_true rfl) flX0_55 rfl (tyX0_ok 12 (by decide)) (dk_bool hx).1 (dk_bool hx).2 dg kk
theorem gfX0_58 {d : Nat} (hd : dk_disk G d) (C : dk_Cx E G cc nL RX0 ret fr lo) (dg : decode cc pc = .ok (.getfield 58, 3)) (kk : V E G nL T M (pc + 3) lv (.int (M d 13) :: st)) : V E G nL T M pc lv (.ref (G.1 + d) :: st) :=
  V.getf C hd.s (dk_cellX0 hd.k) uwX0 (ci := 0) (Cn := RX0) (Tn := TX0) (N := 15) (k := 13) rfl (by decide) flX0_58 rfl dg kk
theorem pfX0_58 {d : Nat} (hd : dk_disk G d) (C : dk_Cx E G cc nL RX0 ret fr lo) {x : Int32} (dg : decode cc pc = .ok (.putfield 58, 3)) (kk : V E G nL T (dk_put M d 13 x) (pc + 3) lv st) : V E G nL T M pc lv (.int x :: .ref (G.1 + d) :: st) :=
  V.putf C hd.s (dk_cellX0 hd.k) ((dk_cellX0 hd.k).trans (by simp [dk_put])) uwX0 (ci := 0) (Cn := RX0) (Tn := TX0) (N := 15) (k := 13) (ty := .int) rfl tyX0 tyX0_ok nmX0 (by decide) (Nat.le_of_ble_eq_true rfl) flX0_58 rfl (tyX0_ok 13 (by decide)) rfl rfl dg kk
theorem gfX0_61 {d : Nat} (hd : dk_disk G d) (C : dk_Cx E G cc nL RX0 ret fr lo) (dg : decode cc pc = .ok (.getfield 61, 3)) (kk : V E G nL T M (pc + 3) lv (.int (M d 14) :: st)) : V E G nL T M pc lv (.ref (G.1 + d) :: st) :=
  V.getf C hd.s (dk_cellX0 hd.k) uwX0 (ci := 0) (Cn := RX0) (Tn := TX0) (N := 15) (k := 14) rfl (by decide) flX0_61 rfl dg kk
theorem pfX0_61 {d : Nat} (hd : dk_disk G d) (C : dk_Cx E G cc nL RX0 ret fr lo) {x : Int32} (dg : decode cc pc = .ok (.putfield 61, 3)) (kk : V E G nL T (dk_put M d 14 x) (pc + 3) lv st) : V E G nL T M pc lv (.int x :: .ref (G.1 + d) :: st) :=
  V.putf C hd.s (dk_cellX0 hd.k) ((dk_cellX0 hd.k).trans (by simp [dk_put])) uwX0 (ci := 0) (Cn := RX0) (Tn := TX0) (N := 15) (k := 14) (ty := .int) rfl tyX0 tyX0_ok nmX0 (by decide) (Nat.le_of_ble_eq_true rfl) flX0_61 rfl (tyX0_ok 14 (by decide)) rfl rfl dg kk
theorem gfX1_13 (hG : dk_cls G) (C : dk_Cx E G cc nL RX1 ret fr lo) (dg : decode cc pc = .ok (.getfield 13, 3)) (kk : V E G nL T M (pc + 3) lv (.ref (G.1 + 24) :: st)) : V E G nL T M pc lv (.ref (G.1 + 23) :: st) :=
  V.getf C (hG.at 23 rfl) (dk_cellX1 ) uwX1 (ci := 1) (Cn := RX1) (Tn := TX1) (N := 3) (k := 0) rfl (by decide) flX1_13 rfl dg kk
theorem gfX1_17 (hG : dk_cls G) (C : dk_Cx E G cc nL RX1 ret fr lo) (dg : decode cc pc = .ok (.getfield 17, 3)) (kk : V E G nL T M (pc + 3) lv (.int (M 23 1) :: st)) : V E G nL T M pc lv (.ref (G.1 + 23) :: st) :=
  V.getf C (hG.at 23 rfl) (dk_cellX1 ) uwX1 (ci := 1) (Cn := RX1) (Tn := TX1) (N := 3) (k := 1) rfl (by decide) flX1_17 rfl dg kk
theorem pfX1_17 (hG : dk_cls G) (C : dk_Cx E G cc nL RX1 ret fr lo) {x : Int32} (dg : decode cc pc = .ok (.putfield 17, 3)) (kk : V E G nL T (dk_put M 23 1 x) (pc + 3) lv st) : V E G nL T M pc lv (.int x :: .ref (G.1 + 23) :: st) :=
  V.putf C (hG.at 23 rfl) (dk_cellX1 ) ((dk_cellX1 ).trans (by simp [dk_put])) uwX1 (ci := 1) (Cn := RX1) (Tn := TX1) (N := 3) (k := 1) (ty := .int) rfl tyX1 tyX1_ok nmX1 (by decide) (Nat.le_of_ble_eq_true rfl) flX1_17 rfl (tyX1_ok 1 (by decide)) rfl rfl dg kk
theorem gfX1_21 (hG : dk_cls G) (C : dk_Cx E G cc nL RX1 ret fr lo) (dg : decode cc pc = .ok (.getfield 21, 3)) (kk : V E G nL T M (pc + 3) lv (.int (M 23 2) :: st)) : V E G nL T M pc lv (.ref (G.1 + 23) :: st) :=
  V.getf C (hG.at 23 rfl) (dk_cellX1 ) uwX1 (ci := 1) (Cn := RX1) (Tn := TX1) (N := 3) (k := 2) rfl (by decide) flX1_21 rfl dg kk
theorem pfX1_21 (hG : dk_cls G) (C : dk_Cx E G cc nL RX1 ret fr lo) {x : Int32} (dg : decode cc pc = .ok (.putfield 21, 3)) (kk : V E G nL T (dk_put M 23 2 x) (pc + 3) lv st) : V E G nL T M pc lv (.int x :: .ref (G.1 + 23) :: st) :=
  V.putf C (hG.at 23 rfl) (dk_cellX1 ) ((dk_cellX1 ).trans (by simp [dk_put])) uwX1 (ci := 1) (Cn := RX1) (Tn := TX1) (N := 3) (k := 2) (ty := .int) rfl tyX1 tyX1_ok nmX1 (by decide) (Nat.le_of_ble_eq_true rfl) flX1_21 rfl (tyX1_ok 2 (by decide)) rfl rfl dg kk
theorem gfX3_14 (hG : dk_cls G) (C : dk_Cx E G cc nL RX3 ret fr lo) (dg : decode cc pc = .ok (.getfield 14, 3)) (kk : V E G nL T M (pc + 3) lv (.ref (G.1 + 103) :: st)) : V E G nL T M pc lv (.ref (G.1 + 102) :: st) :=
  V.getf C (hG.at 102 rfl) (dk_cellX3 ) uwX3 (ci := 3) (Cn := RX3) (Tn := TX3) (N := 5) (k := 0) rfl (by decide) flX3_14 rfl dg kk
theorem gfX3_20 (hG : dk_cls G) (C : dk_Cx E G cc nL RX3 ret fr lo) (dg : decode cc pc = .ok (.getfield 20, 3)) (kk : V E G nL T M (pc + 3) lv (.ref (G.1 + 105) :: st)) : V E G nL T M pc lv (.ref (G.1 + 102) :: st) :=
  V.getf C (hG.at 102 rfl) (dk_cellX3 ) uwX3 (ci := 3) (Cn := RX3) (Tn := TX3) (N := 5) (k := 1) rfl (by decide) flX3_20 rfl dg kk
theorem gfX3_23 (hG : dk_cls G) (C : dk_Cx E G cc nL RX3 ret fr lo) (dg : decode cc pc = .ok (.getfield 23, 3)) (kk : V E G nL T M (pc + 3) lv (.ref (G.1 + 107) :: st)) : V E G nL T M pc lv (.ref (G.1 + 102) :: st) :=
  V.getf C (hG.at 102 rfl) (dk_cellX3 ) uwX3 (ci := 3) (Cn := RX3) (Tn := TX3) (N := 5) (k := 2) rfl (by decide) flX3_23 rfl dg kk
theorem gfX3_26 (hG : dk_cls G) (C : dk_Cx E G cc nL RX3 ret fr lo) (dg : decode cc pc = .ok (.getfield 26, 3)) (kk : V E G nL T M (pc + 3) lv (.ref (G.1 + 109) :: st)) : V E G nL T M pc lv (.ref (G.1 + 102) :: st) :=
  V.getf C (hG.at 102 rfl) (dk_cellX3 ) uwX3 (ci := 3) (Cn := RX3) (Tn := TX3) (N := 5) (k := 3) rfl (by decide) flX3_26 rfl dg kk
theorem gfX3_29 (hG : dk_cls G) (C : dk_Cx E G cc nL RX3 ret fr lo) (dg : decode cc pc = .ok (.getfield 29, 3)) (kk : V E G nL T M (pc + 3) lv (.int (M 102 4) :: st)) : V E G nL T M pc lv (.ref (G.1 + 102) :: st) :=
  V.getf C (hG.at 102 rfl) (dk_cellX3 ) uwX3 (ci := 3) (Cn := RX3) (Tn := TX3) (N := 5) (k := 4) rfl (by decide) flX3_29 rfl dg kk
theorem pfX3_29 (hG : dk_cls G) (C : dk_Cx E G cc nL RX3 ret fr lo) {x : Int32} (dg : decode cc pc = .ok (.putfield 29, 3)) (kk : V E G nL T (dk_put M 102 4 x) (pc + 3) lv st) : V E G nL T M pc lv (.int x :: .ref (G.1 + 102) :: st) :=
  V.putf C (hG.at 102 rfl) (dk_cellX3 ) ((dk_cellX3 ).trans (by simp [dk_put])) uwX3 (ci := 3) (Cn := RX3) (Tn := TX3) (N := 5) (k := 4) (ty := .int) rfl tyX3 tyX3_ok nmX3 (by decide) (Nat.le_of_ble_eq_true rfl) flX3_29 rfl (tyX3_ok 4 (by decide)) rfl rfl dg kk
theorem gfX4_12 (hG : dk_cls G) (C : dk_Cx E G cc nL RX4 ret fr lo) (dg : decode cc pc = .ok (.getfield 12, 3)) (kk : V E G nL T M (pc + 3) lv (.ref (G.1 + 1) :: st)) : V E G nL T M pc lv (.ref (G.1 + 0) :: st) :=
  V.getf C (hG.at 0 rfl) (dk_cellX4 ) uwX4 (ci := 4) (Cn := RX4) (Tn := TX4) (N := 4) (k := 0) rfl (by decide) flX4_12 rfl dg kk
theorem gfX4_16 (hG : dk_cls G) (C : dk_Cx E G cc nL RX4 ret fr lo) (dg : decode cc pc = .ok (.getfield 16, 3)) (kk : V E G nL T M (pc + 3) lv (.ref (G.1 + 12) :: st)) : V E G nL T M pc lv (.ref (G.1 + 0) :: st) :=
  V.getf C (hG.at 0 rfl) (dk_cellX4 ) uwX4 (ci := 4) (Cn := RX4) (Tn := TX4) (N := 4) (k := 1) rfl (by decide) flX4_16 rfl dg kk
theorem gfX4_22 (hG : dk_cls G) (C : dk_Cx E G cc nL RX4 ret fr lo) (dg : decode cc pc = .ok (.getfield 22, 3)) (kk : V E G nL T M (pc + 3) lv (.ref (G.1 + 23) :: st)) : V E G nL T M pc lv (.ref (G.1 + 0) :: st) :=
  V.getf C (hG.at 0 rfl) (dk_cellX4 ) uwX4 (ci := 4) (Cn := RX4) (Tn := TX4) (N := 4) (k := 2) rfl (by decide) flX4_22 rfl dg kk
theorem gfX4_29 (hG : dk_cls G) (C : dk_Cx E G cc nL RX4 ret fr lo) (dg : decode cc pc = .ok (.getfield 29, 3)) (kk : V E G nL T M (pc + 3) lv (.ref (G.1 + 102) :: st)) : V E G nL T M pc lv (.ref (G.1 + 0) :: st) :=
  V.getf C (hG.at 0 rfl) (dk_cellX4 ) uwX4 (ci := 4) (Cn := RX4) (Tn := TX4) (N := 4) (k := 3) rfl (by decide) flX4_29 rfl dg kk
theorem gfX5_7 (hG : dk_mdl G) (C : dk_Cx E G cc nL RX5 ret fr lo) (dg : decode cc pc = .ok (.getfield 7, 3)) (kk : V E G nL T M (pc + 3) lv (.ref (G.1 + 112) :: st)) : V E G nL T M pc lv (.ref (G.1 + 111) :: st) :=
  V.getf C (hG.at 111 rfl) (dk_cellX5 ) uwX5 (ci := 5) (Cn := RX5) (Tn := TX5) (N := 13) (k := 0) rfl (by decide) flX5_7 rfl dg kk
theorem gfX5_13 (hG : dk_mdl G) (C : dk_Cx E G cc nL RX5 ret fr lo) (dg : decode cc pc = .ok (.getfield 13, 3)) (kk : V E G nL T M (pc + 3) lv (.ref (G.1 + 113) :: st)) : V E G nL T M pc lv (.ref (G.1 + 111) :: st) :=
  V.getf C (hG.at 111 rfl) (dk_cellX5 ) uwX5 (ci := 5) (Cn := RX5) (Tn := TX5) (N := 13) (k := 1) rfl (by decide) flX5_13 rfl dg kk
theorem gfX5_16 (hG : dk_mdl G) (C : dk_Cx E G cc nL RX5 ret fr lo) (dg : decode cc pc = .ok (.getfield 16, 3)) (kk : V E G nL T M (pc + 3) lv (.ref (G.1 + 114) :: st)) : V E G nL T M pc lv (.ref (G.1 + 111) :: st) :=
  V.getf C (hG.at 111 rfl) (dk_cellX5 ) uwX5 (ci := 5) (Cn := RX5) (Tn := TX5) (N := 13) (k := 2) rfl (by decide) flX5_16 rfl dg kk
theorem gfX5_19 (hG : dk_mdl G) (C : dk_Cx E G cc nL RX5 ret fr lo) (dg : decode cc pc = .ok (.getfield 19, 3)) (kk : V E G nL T M (pc + 3) lv (.ref (G.1 + 115) :: st)) : V E G nL T M pc lv (.ref (G.1 + 111) :: st) :=
  V.getf C (hG.at 111 rfl) (dk_cellX5 ) uwX5 (ci := 5) (Cn := RX5) (Tn := TX5) (N := 13) (k := 3) rfl (by decide) flX5_19 rfl dg kk
theorem gfX5_32 (hG : dk_mdl G) (C : dk_Cx E G cc nL RX5 ret fr lo) (dg : decode cc pc = .ok (.getfield 32, 3)) (kk : V E G nL T M (pc + 3) lv (.int (M 111 4) :: st)) : V E G nL T M pc lv (.ref (G.1 + 111) :: st) :=
  V.getf C (hG.at 111 rfl) (dk_cellX5 ) uwX5 (ci := 5) (Cn := RX5) (Tn := TX5) (N := 13) (k := 4) rfl (by decide) flX5_32 rfl dg kk
theorem pfX5_32 (hG : dk_mdl G) (C : dk_Cx E G cc nL RX5 ret fr lo) {x : Int32} (dg : decode cc pc = .ok (.putfield 32, 3)) (kk : V E G nL T (dk_put M 111 4 x) (pc + 3) lv st) : V E G nL T M pc lv (.int x :: .ref (G.1 + 111) :: st) :=
  V.putf C (hG.at 111 rfl) (dk_cellX5 ) ((dk_cellX5 ).trans (by simp [dk_put])) uwX5 (ci := 5) (Cn := RX5) (Tn := TX5) (N := 13) (k := 4) (ty := .int) rfl tyX5 tyX5_ok nmX5 (by decide) (Nat.le_of_ble_eq_true rfl) flX5_32 rfl (tyX5_ok 4 (by decide)) rfl rfl dg kk
theorem gfX5_22 (hG : dk_mdl G) (C : dk_Cx E G cc nL RX5 ret fr lo) (dg : decode cc pc = .ok (.getfield 22, 3)) (kk : V E G nL T M (pc + 3) lv (.ref (G.1 + 116) :: st)) : V E G nL T M pc lv (.ref (G.1 + 111) :: st) :=
  V.getf C (hG.at 111 rfl) (dk_cellX5 ) uwX5 (ci := 5) (Cn := RX5) (Tn := TX5) (N := 13) (k := 5) rfl (by decide) flX5_22 rfl dg kk
theorem gfX5_160 (hG : dk_mdl G) (C : dk_Cx E G cc nL RX5 ret fr lo) (dg : decode cc pc = .ok (.getfield 160, 3)) (kk : V E G nL T M (pc + 3) lv (.int (M 111 6) :: st)) : V E G nL T M pc lv (.ref (G.1 + 111) :: st) :=
  V.getf C (hG.at 111 rfl) (dk_cellX5 ) uwX5 (ci := 5) (Cn := RX5) (Tn := TX5) (N := 13) (k := 6) rfl (by decide) flX5_160 rfl dg kk
theorem pfX5_160 (hG : dk_mdl G) (C : dk_Cx E G cc nL RX5 ret fr lo) {x : Int32} (dg : decode cc pc = .ok (.putfield 160, 3)) (kk : V E G nL T (dk_put M 111 6 x) (pc + 3) lv st) : V E G nL T M pc lv (.int x :: .ref (G.1 + 111) :: st) :=
  V.putf C (hG.at 111 rfl) (dk_cellX5 ) ((dk_cellX5 ).trans (by simp [dk_put])) uwX5 (ci := 5) (Cn := RX5) (Tn := TX5) (N := 13) (k := 6) (ty := .int) rfl tyX5 tyX5_ok nmX5 (by decide) (Nat.le_of_ble_eq_true rfl) flX5_160 rfl (tyX5_ok 6 (by decide)) rfl rfl dg kk
theorem gfX5_25 (hG : dk_mdl G) (C : dk_Cx E G cc nL RX5 ret fr lo) (dg : decode cc pc = .ok (.getfield 25, 3)) (kk : V E G nL T M (pc + 3) lv (.ref (G.1 + 117) :: st)) : V E G nL T M pc lv (.ref (G.1 + 111) :: st) :=
  V.getf C (hG.at 111 rfl) (dk_cellX5 ) uwX5 (ci := 5) (Cn := RX5) (Tn := TX5) (N := 13) (k := 7) rfl (by decide) flX5_25 rfl dg kk
theorem gfX5_163 (hG : dk_mdl G) (C : dk_Cx E G cc nL RX5 ret fr lo) (dg : decode cc pc = .ok (.getfield 163, 3)) (kk : V E G nL T M (pc + 3) lv (.int (M 111 8) :: st)) : V E G nL T M pc lv (.ref (G.1 + 111) :: st) :=
  V.getf C (hG.at 111 rfl) (dk_cellX5 ) uwX5 (ci := 5) (Cn := RX5) (Tn := TX5) (N := 13) (k := 8) rfl (by decide) flX5_163 rfl dg kk
theorem pfX5_163 (hG : dk_mdl G) (C : dk_Cx E G cc nL RX5 ret fr lo) {x : Int32} (dg : decode cc pc = .ok (.putfield 163, 3)) (kk : V E G nL T (dk_put M 111 8 x) (pc + 3) lv st) : V E G nL T M pc lv (.int x :: .ref (G.1 + 111) :: st) :=
  V.putf C (hG.at 111 rfl) (dk_cellX5 ) ((dk_cellX5 ).trans (by simp [dk_put])) uwX5 (ci := 5) (Cn := RX5) (Tn := TX5) (N := 13) (k := 8) (ty := .int) rfl tyX5 tyX5_ok nmX5 (by decide) (Nat.le_of_ble_eq_true rfl) flX5_163 rfl (tyX5_ok 8 (by decide)) rfl rfl dg kk
theorem gfX5_172 (hG : dk_mdl G) (C : dk_Cx E G cc nL RX5 ret fr lo) (dg : decode cc pc = .ok (.getfield 172, 3)) (kk : V E G nL T M (pc + 3) lv (.int (M 111 9) :: st)) : V E G nL T M pc lv (.ref (G.1 + 111) :: st) :=
  V.getf C (hG.at 111 rfl) (dk_cellX5 ) uwX5 (ci := 5) (Cn := RX5) (Tn := TX5) (N := 13) (k := 9) rfl (by decide) flX5_172 rfl dg kk
theorem pfX5_172 (hG : dk_mdl G) (C : dk_Cx E G cc nL RX5 ret fr lo) {x : Int32} (dg : decode cc pc = .ok (.putfield 172, 3)) (kk : V E G nL T (dk_put M 111 9 x) (pc + 3) lv st) : V E G nL T M pc lv (.int x :: .ref (G.1 + 111) :: st) :=
  V.putf C (hG.at 111 rfl) (dk_cellX5 ) ((dk_cellX5 ).trans (by simp [dk_put])) uwX5 (ci := 5) (Cn := RX5) (Tn := TX5) (N := 13) (k := 9) (ty := .int) rfl tyX5 tyX5_ok nmX5 (by decide) (Nat.le_of_ble_eq_true rfl) flX5_172 rfl (tyX5_ok 9 (by decide)) rfl rfl dg kk
theorem gfX5_178 (hG : dk_mdl G) (C : dk_Cx E G cc nL RX5 ret fr lo) (dg : decode cc pc = .ok (.getfield 178, 3)) (kk : V E G nL T M (pc + 3) lv (.int (M 111 10) :: st)) : V E G nL T M pc lv (.ref (G.1 + 111) :: st) :=
  V.getf C (hG.at 111 rfl) (dk_cellX5 ) uwX5 (ci := 5) (Cn := RX5) (Tn := TX5) (N := 13) (k := 10) rfl (by decide) flX5_178 rfl dg kk
theorem pfX5_178 (hG : dk_mdl G) (C : dk_Cx E G cc nL RX5 ret fr lo) {x : Int32} (dg : decode cc pc = .ok (.putfield 178, 3)) (kk : V E G nL T (dk_put M 111 10 x) (pc + 3) lv st) : V E G nL T M pc lv (.int x :: .ref (G.1 + 111) :: st) :=
  V.putf C (hG.at 111 rfl) (dk_cellX5 ) ((dk_cellX5 ).trans (by simp [dk_put])) uwX5 (ci := 5) (Cn := RX5) (Tn := TX5) (N := 13) (k := 10) (ty := .int) rfl tyX5 tyX5_ok nmX5 (by decide) (Nat.le_of_ble_eq_true rfl) flX5_178 rfl (tyX5_ok 10 (by decide)) rfl rfl dg kk
theorem gfX5_184 (hG : dk_mdl G) (C : dk_Cx E G cc nL RX5 ret fr lo) (dg : decode cc pc = .ok (.getfield 184, 3)) (kk : V E G nL T M (pc + 3) lv (.int (M 111 11) :: st)) : V E G nL T M pc lv (.ref (G.1 + 111) :: st) :=
  V.getf C (hG.at 111 rfl) (dk_cellX5 ) uwX5 (ci := 5) (Cn := RX5) (Tn := TX5) (N := 13) (k := 11) rfl (by decide) flX5_184 rfl dg kk
theorem pfX5_184 (hG : dk_mdl G) (C : dk_Cx E G cc nL RX5 ret fr lo) {x : Int32} (dg : decode cc pc = .ok (.putfield 184, 3)) (kk : V E G nL T (dk_put M 111 11 x) (pc + 3) lv st) : V E G nL T M pc lv (.int x :: .ref (G.1 + 111) :: st) :=
  V.putf C (hG.at 111 rfl) (dk_cellX5 ) ((dk_cellX5 ).trans (by simp [dk_put])) uwX5 (ci := 5) (Cn := RX5) (Tn := TX5) (N := 13) (k := 11) (ty := .int) rfl tyX5 tyX5_ok nmX5 (by decide) (Nat.le_of_ble_eq_true rfl) flX5_184 rfl (tyX5_ok 11 (by decide)) rfl rfl dg kk
theorem gfX5_169 (hG : dk_mdl G) (C : dk_Cx E G cc nL RX5 ret fr lo) (dg : decode cc pc = .ok (.getfield 169, 3)) (kk : V E G nL T M (pc + 3) lv (.int (M 111 12) :: st)) : V E G nL T M pc lv (.ref (G.1 + 111) :: st) :=
  V.getf C (hG.at 111 rfl) (dk_cellX5 ) uwX5 (ci := 5) (Cn := RX5) (Tn := TX5) (N := 13) (k := 12) rfl (by decide) flX5_169 rfl dg kk
theorem pfX5_169 (hG : dk_mdl G) (C : dk_Cx E G cc nL RX5 ret fr lo) {x : Int32} (dg : decode cc pc = .ok (.putfield 169, 3)) (kk : V E G nL T (dk_put M 111 12 x) (pc + 3) lv st) : V E G nL T M pc lv (.int x :: .ref (G.1 + 111) :: st) :=
  V.putf C (hG.at 111 rfl) (dk_cellX5 ) ((dk_cellX5 ).trans (by simp [dk_put])) uwX5 (ci := 5) (Cn := RX5) (Tn := TX5) (N := 13) (k := 12) (ty := .int) rfl tyX5 tyX5_ok nmX5 (by decide) (Nat.le_of_ble_eq_true rfl) flX5_169 rfl (tyX5_ok 12 (by decide)) rfl rfl dg kk
end FR
end
section
/-! what the class's methods answer and do, as functions of the memory -/
def bI (b : Bool) : Int32 := bif b then 1 else 0
theorem bI_01 (b : Bool) : bI b = 0 ∨ bI b = 1 := by cases b <;> simp [bI]
theorem bI_t : bI true = 1 := rfl
theorem bI_f : bI false = 0 := rfl
/-- the number of an index -/
def ix (x : Int32) : Nat := x.toNatClampNeg
theorem ix_nI {n : Nat} (h : n < 2 ^ 31) : ix (nI n) = n := nI_clamp h
theorem nI_ix {x : Int32} (h : 0 ≤ x.toInt) : x = nI (ix x) := by
  obtain ⟨j, hj, rfl⟩ := nI_of (x := x) (by rw [Int32.lt_iff_toInt_lt, Int32.toInt_zero]; omega)
  rw [ix_nI hj]
theorem ix_toInt {x : Int32} (h : 0 ≤ x.toInt) : (ix x : Int) = x.toInt := by
  unfold ix Int32.toNatClampNeg
  omega
theorem dk_addN {x y : Int32} {a b : Nat} (h : x = nI a) (h2 : y = nI b) : x + y = nI (a + b) := by rw [h, h2, nI_add]
theorem dk_mulN {x y : Int32} {a b : Nat} (h : x = nI a) (h2 : y = nI b) : x * y = nI (a * b) := by rw [h, h2, pk_mul]
theorem dk_in {x : Int32} {n : Nat} (h0 : ¬ x < 0) (h1 : ¬ nI n ≤ x) (hn : n < 2 ^ 31) : vp_in x n := by
  obtain ⟨j, hj, rfl⟩ := nI_of h0
  have h2 : j < n := by
    rcases Nat.lt_or_ge j n with z | z
    · exact z
    · exact absurd (nI_le z hj) h1
  exact vp_in_nI h2 hn
/-- a counter against a bound -/
theorem dk_gek {k : Nat} {x : Int32} (hk : k < 2 ^ 31) : x ≤ nI k ↔ ix x ≤ k := by
  rw [Int32.le_iff_toInt_le, nI_toInt hk]
  unfold ix Int32.toNatClampNeg
  omega
theorem dk_ltk {k : Nat} {x : Int32} (hk : k < 2 ^ 31) : nI k < x ↔ k < ix x := by
  rw [Int32.lt_iff_toInt_lt, nI_toInt hk]
  unfold ix Int32.toNatClampNeg
  omega
theorem ix_lt (x : Int32) : ix x < 2 ^ 31 := by
  unfold ix Int32.toNatClampNeg
  have := Int32.toInt_lt x
  omega
def cnt (p : Nat → Bool) : Nat → Nat
  | 0 => 0
  | n + 1 => if p n then cnt p n + 1 else cnt p n
theorem cnt_le (p : Nat → Bool) (n : Nat) : cnt p n ≤ n := by
  induction n with
  | zero => exact Nat.le_refl 0
  | succ n ih => unfold cnt; split <;> omega
section RB
variable {E : dkE} {G : dkG} {cc : ByteArray} {nL : Nat} {own : String} {ret : Option FieldType} {fr lo : Nat} {T : dkT} {M : dkM} {pc : Nat} {lv : dkL} {st : List Value}
theorem V.if_eqB (C : dk_Cx E G cc nL own ret fr lo) {b : Bool} {off : Int} (tgt : Nat) (d : decode cc pc = .ok (.ifCond .eq off, 3)) (ht : (pc : Int) + off = (tgt : Int)) (kt : b = false → V E G nL T M tgt lv st) (kf : b = true → V E G nL T M (pc + 3) lv st) : V E G nL T M pc lv (.int (bI b) :: st) :=
  V.if_eq C tgt d ht (fun h => kt (by cases b; rfl; exact absurd h (by decide))) (fun h => kf (by cases b; exact absurd rfl h; rfl))
theorem V.if_neB (C : dk_Cx E G cc nL own ret fr lo) {b : Bool} {off : Int} (tgt : Nat) (d : decode cc pc = .ok (.ifCond .ne off, 3)) (ht : (pc : Int) + off = (tgt : Int)) (kt : b = true → V E G nL T M tgt lv st) (kf : b = false → V E G nL T M (pc + 3) lv st) : V E G nL T M pc lv (.int (bI b) :: st) :=
  V.if_ne C tgt d ht (fun h => kt (by cases b; exact absurd rfl h; rfl)) (fun h => kf (by cases b; rfl; exact absurd h (by decide)))
theorem V.swi (C : dk_Cx E G cc nL own ret fr lo) {dflt : Int} {ps : Array (Int × Int)} {len : Nat} {x : Int32} (tgt : Nat) (d : decode cc pc = .ok (.lookupswitch dflt ps, len)) (hp : (ps.toList.zip (ps.toList.drop 1)).all (fun (a, next) => a.1 < next.1) = true) (ho : (pc : Int) + Op.lookupswitch.offset ps.toList dflt x.toInt = (tgt : Int)) (kk : V E G nL T M tgt lv st) : V E G nL T M pc lv (.int x :: st) := by
  refine V.of kk ?_
  obtain ⟨p, l, e, R, s, m, args, below, meth, c⟩ := E
  exact fun H locs ls Q _ hl w => lv_lookup C.1 C.2.1 d hp rfl ho (w ls hl)
theorem V.swt (C : dk_Cx E G cc nL own ret fr lo) {dflt lo' hi : Int} {offs : Array Int} {len : Nat} {x : Int32} (tgt : Nat) (d : decode cc pc = .ok (.tableswitch dflt lo' hi offs, len)) (ho : ¬ x.toInt < lo' ∧ ¬ hi < x.toInt ∧ offs[(x.toInt - lo').toNat]? = some ((tgt : Int) - pc)) (kk : V E G nL T M tgt lv st) : V E G nL T M pc lv (.int x :: st) := by
  refine V.of kk ?_
  obtain ⟨p, l, e, R, s, m, args, below, meth, c⟩ := E
  exact fun H locs ls Q _ hl w => lv_tableIn C.1 C.2.1 d ho.1 ho.2.1 ho.2.2 (by omega) (w ls hl)
theorem V.swd (C : dk_Cx E G cc nL own ret fr lo) {dflt lo' hi : Int} {offs : Array Int} {len : Nat} {x : Int32} (tgt : Nat) (d : decode cc pc = .ok (.tableswitch dflt lo' hi offs, len)) (ht : (pc : Int) + dflt = (tgt : Int)) (ho : ¬ x.toInt < lo' → ¬ hi < x.toInt → offs[(x.toInt - lo').toNat]? = some dflt) (kk : V E G nL T M tgt lv st) : V E G nL T M pc lv (.int x :: st) := by
  refine V.of kk ?_
  obtain ⟨p, l, e, R, s, m, args, below, meth, c⟩ := E
  refine fun H locs ls Q _ hl w => ?_
  by_cases h1 : x.toInt < lo'
  · exact lv_tableOut C.1 C.2.1 d (Or.inl h1) ht (w ls hl)
  · by_cases h2 : hi < x.toInt
    · exact lv_tableOut C.1 C.2.1 d (Or.inr h2) ht (w ls hl)
    · exact lv_tableIn C.1 C.2.1 d h1 h2 (ho h1 h2) ht (w ls hl)
end RB
theorem dk_neI {x k : Int32} (h : ¬ x = k) : ¬ x.toInt = k.toInt := fun z => h (Int32.toInt_inj.mp z)
theorem dk_off_ne {x k : Int32} {a o d : Int} {r : List (Int × Int)} (h : ¬ x = k) (hk : k.toInt = a) : Op.lookupswitch.offset ((a, o) :: r) d x.toInt = Op.lookupswitch.offset r d x.toInt := by
  have := dk_neI h
  rw [hk] at this
  exact if_neg (fun z => this z.symm)
/-! Row -/
def rget (M : dkM) (o n : Nat) (i : Int32) : Int32 := if i < 0 then -1 else if nI n ≤ i then -1 else M (o + 1) i.toNatClampNeg
def rset (M : dkM) (o n : Nat) (i v : Int32) : dkM := if i < 0 then M else if nI n ≤ i then M else dk_put M (o + 1) i.toNatClampNeg v
def rclear (M : dkM) (o n : Nat) : dkM := fun a b => if a = o + 1 ∧ b < n then -1 else M a b
def rfilled (M : dkM) (o n : Nat) : Nat := cnt (fun b => M (o + 1) b != -1) n
def rtake (M : dkM) (o o' n : Nat) : dkM := fun a b => if a = o + 1 ∧ b < n then M (o' + 1) b else M a b
theorem rclear_0 (M : dkM) (o : Nat) : rclear M o 0 = M := by funext a b; simp [rclear]
theorem rclear_s (M : dkM) (o k : Nat) : dk_put (rclear M o k) (o + 1) k (-1) = rclear M o (k + 1) := by
  funext a b
  unfold dk_put rclear
  by_cases h : a = o + 1
  · by_cases h2 : b = k
    · simp [h, h2]
    · simp only [h, if_true, if_neg h2, true_and]
      have : b < k ↔ b < k + 1 := by omega
      simp only [this]
  · simp [h]
theorem rtake_0 (M : dkM) (o o' : Nat) : rtake M o o' 0 = M := by funext a b; simp [rtake]
theorem rget_nI {M : dkM} {o n k : Nat} (hk : k < n) (hn : n < 2 ^ 31) : rget M o n (nI k) = M (o + 1) k := by
  unfold rget
  rw [if_neg (nI_pos (by omega)), if_neg (nI_ge hk hn), nI_clamp (by omega)]
theorem rtake_s (M : dkM) (o o' k n : Nat) (hk : k < n) (hn : n < 2 ^ 31) (ho : o' ≠ o) : dk_put (rtake M o o' k) (o + 1) k (rget (rtake M o o' k) o' n (nI k)) = rtake M o o' (k + 1) := by
  rw [rget_nI hk hn]
  funext a b
  unfold dk_put rtake
  by_cases h : a = o + 1
  · by_cases h2 : b = k
    · simp [h, h2, ho]
    · simp only [h, if_true, if_neg h2, true_and]
      have : b < k ↔ b < k + 1 := by omega
      simp only [this]
  · simp [h]
theorem rset_ne {M : dkM} {o n : Nat} {i v : Int32} {a : Nat} (h : a ≠ o + 1) : rset M o n i v a = M a := by
  unfold rset
  split
  · rfl
  · split
    · rfl
    · exact dk_put_ne h
theorem rclear_ne {M : dkM} {o n a : Nat} (h : a ≠ o + 1) : rclear M o n a = M a := by funext b; simp [rclear, h]
theorem rtake_ne {M : dkM} {o o' n a : Nat} (h : a ≠ o + 1) : rtake M o o' n a = M a := by funext b; simp [rtake, h]
theorem dk_neL {x k : Int32} {a : Int} (h : ¬ x = k) (hk : k.toInt = a) : x.toInt ≠ a := by rw [← hk]; exact dk_neI h
end
section
set_option maxHeartbeats 2000000 in
set_option maxRecDepth 20000 in
theorem c_X2_get {l : Launch} {G : dkG} {o n : Nat} {M : dkM} (h : dk_row G o n) {i : Int32} : dk_Con l yX2_get cX2_get 2 (some .int) 0 0 G [.ref (G.1 + o), .int i] M (some (.int (rget M o n i)), M) := by
  refine dk_Con.of mwX2_get.1 (Nat.le_of_ble_eq_true rfl) (fun E hE hC => ?_)
  subst hE
  refine V.iload_n hC dX2_get_0 rfl ?_
  refine V.if_lt hC 22 dX2_get_1 (by decide) (fun c_1 => ?_) (fun c_1 => ?_)
  · refine V.iconst hC (-1) dX2_get_22 (by decide) ?_
    exact V.iret hC (by simp [rget, c_1, dk_lt1 c_1]) dX2_get_23
  · refine V.iload_n hC dX2_get_4 rfl ?_
    refine V.aload_n hC dX2_get_5 rfl ?_
    refine gfX2_15 h hC dX2_get_6 ?_
    refine V.alen hC h.s1 h.k1 h.a dX2_get_9 ?_
    refine V.icmp_ge hC 22 dX2_get_10 (by decide) (fun c_2 => ?_) (fun c_2 => ?_)
    · refine V.iconst hC (-1) dX2_get_22 (by decide) ?_
      exact V.iret hC (by simp [rget, c_1, dk_nlt c_1, c_2, dk_le1 c_2]) dX2_get_23
    · refine V.aload_n hC dX2_get_13 rfl ?_
      refine gfX2_15 h hC dX2_get_14 ?_
      refine V.iload_n hC dX2_get_17 rfl ?_
      refine V.iald hC h.s1 h.k1 h.a (dk_in c_1 c_2 (Nat.lt_trans h.n (by decide))) dX2_get_18 ?_
      refine V.goto hC 23 dX2_get_19 (by decide) ?_
      exact V.iret hC (by simp [rget, c_1, dk_nlt c_1, c_2, dk_nle c_2]) dX2_get_23
set_option maxHeartbeats 2000000 in
set_option maxRecDepth 20000 in
theorem c_X2_set {l : Launch} {G : dkG} {o n : Nat} {M : dkM} (h : dk_row G o n) {i v : Int32} : dk_Con l yX2_set cX2_set 3 none 0 0 G [.ref (G.1 + o), .int i, .int v] M (none, rset M o n i v) := by
  refine dk_Con.of mwX2_set.1 (Nat.le_of_ble_eq_true rfl) (fun E hE hC => ?_)
  subst hE
  refine V.iload_n hC dX2_set_0 rfl ?_
  refine V.if_lt hC 20 dX2_set_1 (by decide) (fun c_1 => ?_) (fun c_1 => ?_)
  · exact V.vret hC (by simp [rset, c_1, dk_lt1 c_1]) dX2_set_20
  · refine V.iload_n hC dX2_set_4 rfl ?_
    refine V.aload_n hC dX2_set_5 rfl ?_
    refine gfX2_15 h hC dX2_set_6 ?_
    refine V.alen hC h.s1 h.k1 h.a dX2_set_9 ?_
    refine V.icmp_ge hC 20 dX2_set_10 (by decide) (fun c_2 => ?_) (fun c_2 => ?_)
    · exact V.vret hC (by simp [rset, c_1, dk_nlt c_1, c_2, dk_le1 c_2]) dX2_set_20
    · refine V.aload_n hC dX2_set_13 rfl ?_
      refine gfX2_15 h hC dX2_set_14 ?_
      refine V.iload_n hC dX2_set_17 rfl ?_
      refine V.iload_n hC dX2_set_18 rfl ?_
      refine V.iast hC h.s1 h.k1 h.a (dk_in c_1 c_2 (Nat.lt_trans h.n (by decide))) dX2_set_19 ?_
      exact V.vret hC (by simp [rset, c_1, dk_nlt c_1, c_2, dk_nle c_2]) dX2_set_20
set_option maxHeartbeats 2000000 in
set_option maxRecDepth 20000 in
theorem c_X2_clear {l : Launch} {G : dkG} {o nn : Nat} {M : dkM} (h : dk_row G o nn) : dk_Con l yX2_clear cX2_clear 2 none 0 0 G [.ref (G.1 + o)] M (none, rclear M o nn) := by
  refine dk_Con.of mwX2_clear.1 (Nat.le_of_ble_eq_true rfl) (fun E hE hC => ?_)
  subst hE
  have hn0 := h.n
  have loop_2 : ∀ (n : Nat) (k : Nat), (k ≤ nn) → (nn < k + n) →  V E G 2 (none, rclear M o nn) (rclear M o k) 2 [(0, some (.ref (G.1 + o))), (1, some (.int (nI k)))] [] := by
    intro n
    induction n with
    | zero => intro k hk hn; exact absurd hn (by omega)
    | succ n ih_2 =>
      intro k hk hn
      refine V.iload_n hC dX2_clear_2 rfl ?_
      refine V.aload_n hC dX2_clear_3 rfl ?_
      refine gfX2_15 h hC dX2_clear_4 ?_
      refine V.alen hC h.s1 h.k1 h.a dX2_clear_7 ?_
      refine V.icmp_ge hC 24 dX2_clear_8 (by decide) (fun c_1 => ?_) (fun c_1 => ?_)
      · have hke : k = nn := by have := (dk_gek (k := k) (by omega)).mp c_1; rw [ix_nI (by omega)] at this; omega
        subst hke
        exact V.vret hC (rfl) dX2_clear_24
      · have hkl : k < nn := by have := mt (dk_gek (k := k) (by omega)).mpr c_1; rw [ix_nI (by omega)] at this; omega
        refine V.aload_n hC dX2_clear_11 rfl ?_
        refine gfX2_15 h hC dX2_clear_12 ?_
        refine V.iload_n hC dX2_clear_15 rfl ?_
        refine V.iconst hC (-1) dX2_clear_16 (by decide) ?_
        refine V.iastN hC (k) h.s1 h.k1 h.a (rfl) (by omega) dX2_clear_17 ?_
        refine V.iinc hC dX2_clear_18 rfl (dk_incN _) rfl ?_
        refine V.goto hC 2 dX2_clear_21 (by decide) ?_
        refine V.eqM (rclear_s M o k) ?_
        exact V.sub (dk_sc rfl (dk_sc rfl (dk_sn))) (ih_2 (k + 1) (by omega) (by omega))
  refine V.iconst hC 0 dX2_clear_0 (by decide) ?_
  refine V.istore_n hC dX2_clear_1 rfl rfl ?_
  refine V.eqM ((rclear_0 M o).symm) ?_
  exact V.sub (dk_sc rfl (dk_sc rfl (dk_sn))) (loop_2 (nn + 1) 0 (Nat.zero_le _) (by omega))
set_option maxHeartbeats 2000000 in
set_option maxRecDepth 20000 in
theorem c_X2_filled {l : Launch} {G : dkG} {o nn : Nat} {M : dkM} (h : dk_row G o nn) : dk_Con l yX2_filled cX2_filled 3 (some .int) 0 0 G [.ref (G.1 + o)] M (some (.int (nI (rfilled M o nn))), M) := by
  refine dk_Con.of mwX2_filled.1 (Nat.le_of_ble_eq_true rfl) (fun E hE hC => ?_)
  subst hE
  have hn0 := h.n
  have loop_4 : ∀ (n : Nat) (k : Nat), (k ≤ nn) → (nn < k + n) →  V E G 3 (some (.int (nI (rfilled M o nn))), M) (M) 4 [(0, some (.ref (G.1 + o))), (1, some (.int (nI (rfilled M o k)))), (2, some (.int (nI k)))] [] := by
    intro n
    induction n with
    | zero => intro k hk hn; exact absurd hn (by omega)
    | succ n ih_4 =>
      intro k hk hn
      refine V.iload_n hC dX2_filled_4 rfl ?_
      refine V.aload_n hC dX2_filled_5 rfl ?_
      refine gfX2_15 h hC dX2_filled_6 ?_
      refine V.alen hC h.s1 h.k1 h.a dX2_filled_9 ?_
      refine V.icmp_ge hC 32 dX2_filled_10 (by decide) (fun c_1 => ?_) (fun c_1 => ?_)
      · have hke : k = nn := by have := (dk_gek (k := k) (by omega)).mp c_1; rw [ix_nI (by omega)] at this; omega
        subst hke
        refine V.iload_n hC dX2_filled_32 rfl ?_
        exact V.iret hC (rfl) dX2_filled_33
      · have hkl : k < nn := by have := mt (dk_gek (k := k) (by omega)).mpr c_1; rw [ix_nI (by omega)] at this; omega
        refine V.aload_n hC dX2_filled_13 rfl ?_
        refine gfX2_15 h hC dX2_filled_14 ?_
        refine V.iload_n hC dX2_filled_17 rfl ?_
        refine V.ialdN hC (k) h.s1 h.k1 h.a (rfl) (by omega) dX2_filled_18 ?_
        refine V.iconst hC (-1) dX2_filled_19 (by decide) ?_
        refine V.icmp_eq hC 26 dX2_filled_20 (by decide) (fun c_2 => ?_) (fun c_2 => ?_)
        · have hf : rfilled M o (k + 1) = rfilled M o k := by unfold rfilled; rw [cnt, if_neg (by simp [c_2])]
          rw [← hf]
          refine V.iinc hC dX2_filled_26 rfl (dk_incN _) rfl ?_
          refine V.goto hC 4 dX2_filled_29 (by decide) ?_
          exact V.sub (dk_sc rfl (dk_sc rfl (dk_sc rfl (dk_sn)))) (ih_4 (k + 1) (by omega) (by omega))
        · have hf : rfilled M o (k + 1) = rfilled M o k + 1 := by unfold rfilled; rw [cnt, if_pos (by simp [c_2])]
          refine V.iinc hC dX2_filled_23 rfl ((dk_incN _).trans (congrArg nI hf.symm)) rfl ?_
          refine V.iinc hC dX2_filled_26 rfl (dk_incN _) rfl ?_
          refine V.goto hC 4 dX2_filled_29 (by decide) ?_
          exact V.sub (dk_sc rfl (dk_sc rfl (dk_sc rfl (dk_sn)))) (ih_4 (k + 1) (by omega) (by omega)) --done
  refine V.iconst hC 0 dX2_filled_0 (by decide) ?_
  refine V.istore_n hC dX2_filled_1 rfl rfl ?_
  refine V.iconst hC 0 dX2_filled_2 (by decide) ?_
  refine V.istore_n hC dX2_filled_3 rfl rfl ?_
  exact V.sub (dk_sc rfl (dk_sc rfl (dk_sc rfl (dk_sn)))) (loop_4 (nn + 1) 0 (Nat.zero_le _) (by omega))
set_option maxHeartbeats 2000000 in
set_option maxRecDepth 20000 in
theorem c_X2_takeOver {l : Launch} {G : dkG} {o o2 nn : Nat} {M : dkM} (h : dk_row G o nn) (h2 : dk_row G o2 nn) (ho : o2 ≠ o) : dk_Con l yX2_takeOver cX2_takeOver 3 none 1 21 G [.ref (G.1 + o), .ref (G.1 + o2)] M (none, rtake M o o2 nn) := by
  refine dk_Con.of mwX2_takeOver.1 (Nat.le_of_ble_eq_true rfl) (fun E hE hC => ?_)
  subst hE
  have hn0 := h.n
  have loop_2 : ∀ (n : Nat) (k : Nat), (k ≤ nn) → (nn < k + n) →  V E G 3 (none, rtake M o o2 nn) (rtake M o o2 k) 2 [(0, some (.ref (G.1 + o))), (1, some (.ref (G.1 + o2))), (2, some (.int (nI k)))] [] := by
    intro n
    induction n with
    | zero => intro k hk hn; exact absurd hn (by omega)
    | succ n ih_2 =>
      intro k hk hn
      refine V.iload_n hC dX2_takeOver_2 rfl ?_
      refine V.aload_n hC dX2_takeOver_3 rfl ?_
      refine gfX2_15 h hC dX2_takeOver_4 ?_
      refine V.alen hC h.s1 h.k1 h.a dX2_takeOver_7 ?_
      refine V.icmp_ge hC 28 dX2_takeOver_8 (by decide) (fun c_1 => ?_) (fun c_1 => ?_)
      · have hke : k = nn := by have := (dk_gek (k := k) (by omega)).mp c_1; rw [ix_nI (by omega)] at this; omega
        subst hke
        exact V.vret hC (rfl) dX2_takeOver_28
      · have hkl : k < nn := by have := mt (dk_gek (k := k) (by omega)).mpr c_1; rw [ix_nI (by omega)] at this; omega
        refine V.aload_n hC dX2_takeOver_11 rfl ?_
        refine gfX2_15 h hC dX2_takeOver_12 ?_
        refine V.iload_n hC dX2_takeOver_15 rfl ?_
        refine V.aload_n hC dX2_takeOver_16 rfl ?_
        refine V.iload_n hC dX2_takeOver_17 rfl ?_
        refine V.callV1i hC (c_X2_get h2) mwX2_get mlX2_24 h2.s h2.k rfl ⟨rfl, rfl⟩ dX2_takeOver_18 rfl ?_
        refine V.iastN hC (k) h.s1 h.k1 h.a (rfl) (by omega) dX2_takeOver_21 ?_
        refine V.iinc hC dX2_takeOver_22 rfl (dk_incN _) rfl ?_
        refine V.goto hC 2 dX2_takeOver_25 (by decide) ?_
        refine V.eqM (rtake_s M o o2 k nn hkl (by omega) ho) ?_
        exact V.sub (dk_sc rfl (dk_sc rfl (dk_sc rfl (dk_sn)))) (ih_2 (k + 1) (by omega) (by omega))
  refine V.iconst hC 0 dX2_takeOver_0 (by decide) ?_
  refine V.istore_n hC dX2_takeOver_1 rfl rfl ?_
  refine V.eqM ((rtake_0 M o o2).symm) ?_
  exact V.sub (dk_sc rfl (dk_sc rfl (dk_sc rfl (dk_sn)))) (loop_2 (nn + 1) 0 (Nat.zero_le _) (by omega))
end
section
/-! Disk: d is its cell; 5 sectors, 6 ownKey, 7 target, 8 forward, 9 position, 10 rewritten, 11 zoneSize, 12 journalUsed, 13 completed, 14 failures -/
def isRek (M : dkM) (d : Nat) : Bool := if M d 7 = 0 then false else true
def zFirst (M : dkM) (d : Nat) : Int32 := if M d 8 = 0 then dk_max 0 (M d 9 - M d 11) else M d 9
def zEnd (M : dkM) (d : Nat) : Int32 := if M d 8 = 0 then M d 9 else dk_min (M d 5) (M d 9 + M d 11)
def zOpen (M : dkM) (d : Nat) : Bool := if 0 < M d 10 then true else if nI (rfilled M (d + 7) 64) ≤ 0 then false else true
def needsJ (M : dkM) (d : Nat) : Bool := if M d 12 = 0 then false else if zOpen M d = true then false else true
def hasSec (M : dkM) (d : Nat) (s : Int32) : Bool := if s < 0 then false else if M d 5 ≤ s then false else true
def hasKey (M : dkM) (d : Nat) (k : Int32) : Bool := if rget M (d + 9) 100 k = -1 then false else true
def kbp (M : dkM) (d : Nat) (s : Int32) : Int32 := if isRek M d = true then (if s < M d 9 then M d 7 else M d 6) else M d 6
def othK (M : dkM) (d : Nat) (k : Int32) : Int32 := if k = M d 6 then M d 7 else M d 6
def exch (M : dkM) (d : Nat) (x s k : Int32) : Int32 := x ^^^ ((40503 * rget M (d + 9) 100 k + 30011 * s + 12345) &&& 65535)
def keyAt (M : dkM) (d : Nat) (s : Int32) : Int32 := if s < zFirst M d then kbp M d s else if s < zFirst M d + M d 10 then othK M d (kbp M d s) else kbp M d s
def valIn (M : dkM) (d : Nat) (s : Int32) : Int32 := if rget M (d + 5) 64 s = -1 then exch M d (rget M (d + 1) 64 s) s (keyAt M d s) else rget M (d + 5) 64 s
def saF (M : dkM) (d : Nat) (s : Int32) : Int32 := if rget M (d + 7) 64 s = -1 then rget M (d + 1) 64 s else rget M (d + 7) 64 s
def vaF (M : dkM) (d : Nat) (s : Int32) : Int32 := exch M d (saF M d s) s (kbp M d s)
def isFl (M : dkM) (d : Nat) (s : Int32) : Bool := if rget M (d + 5) 64 s = -1 then false else if zOpen M d = true then (if s < zFirst M d then true else if s < zEnd M d then false else true) else true
def saFl (M : dkM) (d : Nat) (s : Int32) : Int32 := if isFl M d s = true then exch M d (rget M (d + 5) 64 s) s (keyAt M d s) else rget M (d + 1) 64 s
def dafN (M : dkM) (d : Nat) (n : Nat) : Nat := cnt (fun k => vaF M d (nI k) != rget M (d + 3) 64 (nI k)) n
def dcN (M : dkM) (d : Nat) (n : Nat) : Nat := cnt (fun k => valIn M d (nI k) != rget M (d + 3) 64 (nI k)) n
/-- the first k from k on, of n many, that is damaged -/
def fdL (M : dkM) (d : Nat) : Nat → Nat → Int32
  | 0, _ => -1
  | n + 1, k => if valIn M d (nI k) = rget M (d + 3) 64 (nI k) then fdL M d n (k + 1) else nI k
def dClose (M : dkM) (d : Nat) : dkM := dk_put (rclear M (d + 7) 64) d 10 0
def fzM (M : dkM) (d : Nat) : Nat → dkM
  | 0 => M
  | k + 1 => rset (rset (fzM M d k) (d + 1) 64 (nI k) (exch (fzM M d k) d 0 (nI k) (fzM M d k d 6))) (d + 3) 64 (nI k) 0
def fillZ (M : dkM) (d : Nat) : dkM := fzM (rclear M (d + 5) 64) d (ix (M d 5))
def endThru (M : dkM) (d : Nat) : dkM := if M d 8 = 0 then (if M d 9 ≤ 0 then dk_put M d 7 0 else M) else if M d 5 ≤ M d 9 then dk_put (dk_put (dk_put M d 6 (M d 7)) d 13 (M d 13 + 1)) d 7 0 else M
def jrM (M : dkM) (d f : Nat) : Nat → dkM
  | 0 => M
  | k + 1 => rset (jrM M d f k) (d + 7) 64 (nI (f + k)) (rget (jrM M d f k) (d + 1) 64 (nI (f + k)))
def rwS (M : dkM) (d : Nat) (s : Int32) : dkM := rset M (d + 1) 64 s (exch M d (exch M d (rget M (d + 1) 64 s) s (kbp M d s)) s (othK M d (kbp M d s)))
def rwNext (M : dkM) (d : Nat) (s : Int32) : dkM := dk_put (rwS M d s) d 10 (rwS M d s d 10 + 1)
def dStep (M : dkM) (d : Nat) : dkM := if needsJ M d = true then jrM M d (ix (zFirst M d)) (ix (zEnd M d) - ix (zFirst M d)) else if zFirst M d + M d 10 < zEnd M d then rwNext M d (zFirst M d + M d 10) else endThru (dClose (dk_put M d 9 (if M d 8 = 0 then zFirst M d else zEnd M d)) d) d
def sAhead (M : dkM) (d : Nat) : Int32 := if isRek M d = true then ((if needsJ M d = true then 1 else 0) + zEnd M d - zFirst M d - M d 10 + 1) + (if M d 8 = 0 then zFirst M d else M d 5 - zEnd M d) + (if 0 < M d 11 then ((if M d 8 = 0 then zFirst M d else M d 5 - zEnd M d) + M d 11 - 1) / M d 11 else 0) * (if M d 12 = 0 then 1 else 2) else 0
def dFormat (M : dkM) (d : Nat) (n : Int32) : Int32 × dkM := if n < 4 then (-2, M) else if 64 < n then (-2, M) else (M d 5, fillZ (dClose (dk_put (dk_put M d 5 n) d 7 0) d) d)
def dAdd (M : dkM) (d : Nat) (k c : Int32) : Int32 × dkM := if k < 1 then (-2, M) else if 99 < k then (-2, M) else if c < 0 then (-2, M) else if 65535 < c then (-2, M) else if hasKey M d k = true then (-3, M) else if 8 ≤ nI (rfilled M (d + 9) 100) then (-4, M) else (nI (rfilled (rset M (d + 9) 100 k c) (d + 9) 100), rset M (d + 9) 100 k c)
def dDrop (M : dkM) (d : Nat) (k : Int32) : Int32 × dkM := if hasKey M d k = true then (if k = M d 6 then (-3, M) else if k = M d 7 then (-3, M) else (nI (rfilled (rset M (d + 9) 100 k (-1)) (d + 9) 100), rset M (d + 9) 100 k (-1))) else (-1, M)
def dZone (M : dkM) (d : Nat) (z : Int32) : Int32 × dkM := if z < 1 then (-2, M) else if 8 < z then (-2, M) else if zOpen M d = true then (-3, M) else (M d 11, dk_put M d 11 z)
def dJour (M : dkM) (d : Nat) (on : Int32) : Int32 × dkM := if on = 0 then (if zOpen M d = true then (-3, M) else (if M d 12 = 0 then 0 else 1, dk_put M d 12 0)) else if on = 1 then (if zOpen M d = true then (-3, M) else (if M d 12 = 0 then 0 else 1, dk_put M d 12 1)) else (-2, M)
def dBegin (M : dkM) (d : Nat) (k : Int32) : Int32 × dkM := if hasKey M d k = true then (if isRek M d = true then (-3, M) else if k = M d 6 then (-3, M) else (sAhead (dk_put (dk_put (dk_put M d 7 k) d 8 1) d 9 0) d, dk_put (dk_put (dk_put M d 7 k) d 8 1) d 9 0)) else (-1, M)
def advL (d : Nat) : Nat → dkM → Nat → Nat × dkM
  | 0, M, k => (k, M)
  | n + 1, M, k => if isRek M d = true then advL d n (dStep M d) (k + 1) else (k, M)
def dAdv (M : dkM) (d : Nat) (n : Int32) : Int32 × dkM := if n < 1 then (-2, M) else if 999 < n then (-2, M) else if isRek M d = true then (nI (advL d (ix n) M 0).1, (advL d (ix n) M 0).2) else (-3, M)
def dTurn (M : dkM) (d : Nat) : Int32 × dkM := if isRek M d = true then (if zOpen M d = true then (-3, M) else (sAhead (endThru (dk_put M d 8 (if M d 8 = 0 then 1 else 0)) d) d, endThru (dk_put M d 8 (if M d 8 = 0 then 1 else 0)) d)) else (-3, M)
def dPut (M : dkM) (d : Nat) (s v : Int32) : Int32 × dkM := if hasSec M d s = true then (if v < 0 then (-2, M) else if 65535 < v then (-2, M) else if rget M (d + 5) 64 s = -1 ∧ 8 ≤ nI (rfilled M (d + 5) 64) then (-4, M) else (nI (rfilled (rset (rset M (d + 5) 64 s v) (d + 3) 64 s v) (d + 5) 64), rset (rset M (d + 5) 64 s v) (d + 3) 64 s v)) else (-1, M)
def flM (M : dkM) (d : Nat) : Nat → dkM
  | 0 => M
  | k + 1 => if isFl (flM M d k) d (nI k) = true then rset (rset (flM M d k) (d + 1) 64 (nI k) (saFl (flM M d k) d (nI k))) (d + 5) 64 (nI k) (-1) else flM M d k
def flN (M : dkM) (d : Nat) : Nat → Nat
  | 0 => 0
  | k + 1 => if isFl (flM M d k) d (nI k) = true then flN M d k + 1 else flN M d k
def lpN (M : dkM) (d : Nat) (n : Nat) : Nat := cnt (fun k => valIn M d (nI k) != vaF M d (nI k)) n
def lpM (M : dkM) (d : Nat) : Nat → dkM
  | 0 => M
  | k + 1 => rset (lpM M d k) (d + 1) 64 (nI k) (saF (lpM M d k) d (nI k))
def dFailM (M : dkM) (d : Nat) : dkM := dClose (rclear (lpM M d (ix (M d 5))) (d + 5) 64) d
def dFail (M : dkM) (d : Nat) : dkM := dk_put (dFailM M d) d 14 (dFailM M d d 14 + 1)
def dObey (M : dkM) (d : Nat) (c s n : Int32) : Int32 × dkM := if c = 119 then dPut M d s n else if c = 102 then (nI (flN M d (ix (M d 5))), flM M d (ix (M d 5))) else if c = 115 then dAdv M d n else if c = 120 then (nI (lpN M d (ix (M d 5))), dFail M d) else if c = 98 then dTurn M d else (-5, M)
def dNumR (M : dkM) (d : Nat) (w : Int32) : Int32 := if isRek M d = true then (if w = 2 then M d 7 else if w = 3 then M d 9 else if M d 8 = 0 then 0 else 1) else -6
def dNum (M : dkM) (d : Nat) (w : Int32) : Int32 := if w = 0 then M d 5 else if w = 1 then M d 6 else if w = 5 then M d 10 else if w = 6 then nI (rfilled M (d + 7) 64) else if w = 7 then nI (rfilled M (d + 5) 64) else if w = 8 then M d 11 else if w = 9 then (if M d 12 = 0 then 0 else 1) else if w = 10 then nI (rfilled M (d + 9) 100) else if w = 11 then M d 13 else if w = 12 then M d 14 else -2
/-- the bounds that the steps rest on -/
def dI (M : dkM) (d : Nat) : Prop := 0 ≤ (M d 9).toInt ∧ (M d 9).toInt ≤ 64 ∧ 1 ≤ (M d 11).toInt ∧ (M d 11).toInt ≤ 8 ∧ 4 ≤ (M d 5).toInt ∧ (M d 5).toInt ≤ 64
theorem tI_add {x y : Int32} (h1 : -2147483648 ≤ x.toInt + y.toInt) (h2 : x.toInt + y.toInt < 2147483648) : (x + y).toInt = x.toInt + y.toInt := by
  rw [Int32.toInt_add, Int.bmod_def]; omega
theorem tI_sub {x y : Int32} (h1 : -2147483648 ≤ x.toInt - y.toInt) (h2 : x.toInt - y.toInt < 2147483648) : (x - y).toInt = x.toInt - y.toInt := by
  rw [Int32.toInt_sub, Int.bmod_def]; omega
theorem tI_le {x y : Int32} : x ≤ y ↔ x.toInt ≤ y.toInt := Int32.le_iff_toInt_le
theorem tI_lt {x y : Int32} : x < y ↔ x.toInt < y.toInt := Int32.lt_iff_toInt_lt
theorem tI_max (x y : Int32) : (dk_max x y).toInt = max x.toInt y.toInt := by
  unfold dk_max; split <;> rename_i h <;> rw [tI_lt] at h <;> omega
theorem tI_min (x y : Int32) : (dk_min x y).toInt = min x.toInt y.toInt := by
  unfold dk_min; split <;> rename_i h <;> rw [tI_lt] at h <;> omega
theorem dI_zF {M : dkM} {d : Nat} (h : dI M d) : (zFirst M d).toInt = (if M d 8 = 0 then max 0 ((M d 9).toInt - (M d 11).toInt) else (M d 9).toInt) := by
  obtain ⟨h1, h2, h3, h4, h5, h6⟩ := h
  unfold zFirst
  split
  · rw [tI_max, tI_sub (by omega) (by omega)]; rfl
  · rfl
theorem dI_zE {M : dkM} {d : Nat} (h : dI M d) : (zEnd M d).toInt = (if M d 8 = 0 then (M d 9).toInt else min (M d 5).toInt ((M d 9).toInt + (M d 11).toInt)) := by
  obtain ⟨h1, h2, h3, h4, h5, h6⟩ := h
  unfold zEnd
  split
  · rfl
  · rw [tI_min, tI_add (by omega) (by omega)]
theorem dI_zFb {M : dkM} {d : Nat} (h : dI M d) : 0 ≤ (zFirst M d).toInt ∧ (zFirst M d).toInt ≤ 64 := by
  rw [dI_zF h]
  obtain ⟨h1, h2, h3, h4, h5, h6⟩ := h
  split <;> omega
theorem dI_zEb {M : dkM} {d : Nat} (h : dI M d) : 0 ≤ (zEnd M d).toInt ∧ (zEnd M d).toInt ≤ 64 := by
  rw [dI_zE h]
  obtain ⟨h1, h2, h3, h4, h5, h6⟩ := h
  split <;> omega
theorem put_same {M : dkM} {o k : Nat} {x : Int32} : dk_put M o k x o k = x := by simp [dk_put]
theorem put_k {M : dkM} {o k j : Nat} {x : Int32} (h : j ≠ k) : dk_put M o k x o j = M o j := by simp [dk_put, h]
theorem fzM_d (M : dkM) (d k : Nat) : fzM M d k d = M d := by
  induction k with
  | zero => rfl
  | succ k ih => rw [fzM, rset_ne (by omega), rset_ne (by omega), ih]
theorem jrM_ne (M : dkM) (d f k : Nat) {a : Nat} (h : a ≠ d + 8) : jrM M d f k a = M a := by
  induction k with
  | zero => rfl
  | succ k ih => rw [jrM, rset_ne (by omega), ih]
theorem flM_d (M : dkM) (d k : Nat) : flM M d k d = M d := by
  induction k with
  | zero => rfl
  | succ k ih => rw [flM]; split; rw [rset_ne (by omega), rset_ne (by omega), ih]; exact ih
theorem lpM_d (M : dkM) (d k : Nat) : lpM M d k d = M d := by
  induction k with
  | zero => rfl
  | succ k ih => rw [lpM, rset_ne (by omega), ih]
theorem dClose_d (M : dkM) (d j : Nat) (h : j ≠ 10) : dClose M d d j = M d j := by rw [dClose, put_k h, rclear_ne (by omega)]
theorem endThru_d (M : dkM) (d j : Nat) (h6 : j ≠ 6) (h13 : j ≠ 13) (h7 : j ≠ 7) : endThru M d d j = M d j := by
  unfold endThru
  split
  · split
    · exact put_k h7
    · rfl
  · split
    · rw [put_k h7, put_k h13, put_k h6]
    · rfl
theorem dI_congr {M M' : dkM} {d : Nat} (h9 : M' d 9 = M d 9) (h11 : M' d 11 = M d 11) (h5 : M' d 5 = M d 5) (h : dI M d) : dI M' d := by unfold dI; rw [h9, h11, h5]; exact h
theorem dI_step {M : dkM} {d : Nat} (h : dI M d) : dI (dStep M d) d := by
  unfold dStep
  split
  · rename_i q; exact dI_congr (by rw [jrM_ne _ _ _ _ (by omega)]) (by rw [jrM_ne _ _ _ _ (by omega)]) (by rw [jrM_ne _ _ _ _ (by omega)]) h
  · split
    · have e : ∀ j, j ≠ 10 → rwNext M d (zFirst M d + M d 10) d j = M d j := fun j hj => by rw [rwNext, put_k hj, rwS, rset_ne (by omega)]
      exact dI_congr (e 9 (by decide)) (e 11 (by decide)) (e 5 (by decide)) h
    · have e : ∀ j, j ≠ 6 → j ≠ 13 → j ≠ 7 → j ≠ 10 → j ≠ 9 → endThru (dClose (dk_put M d 9 (if M d 8 = 0 then zFirst M d else zEnd M d)) d) d d j = M d j := fun j a b c e f => by rw [endThru_d _ _ _ a b c, dClose_d _ _ _ e, put_k f]
      have e9 : endThru (dClose (dk_put M d 9 (if M d 8 = 0 then zFirst M d else zEnd M d)) d) d d 9 = (if M d 8 = 0 then zFirst M d else zEnd M d) := by rw [endThru_d _ _ _ (by decide) (by decide) (by decide), dClose_d _ _ _ (by decide), put_same]
      unfold dI
      rw [e9, e 11 (by decide) (by decide) (by decide) (by decide) (by decide), e 5 (by decide) (by decide) (by decide) (by decide) (by decide)]
      obtain ⟨a1, a2⟩ := dI_zFb h
      obtain ⟨b1, b2⟩ := dI_zEb h
      obtain ⟨h1, h2, h3, h4, h5, h6⟩ := h
      refine ⟨?_, ?_, h3, h4, h5, h6⟩ <;> split <;> assumption
theorem zEnd_congr {M M' : dkM} {d : Nat} (h : M' d = M d) : zEnd M' d = zEnd M d := by unfold zEnd; rw [h]
theorem advL_I {d : Nat} : ∀ (n : Nat) (M : dkM) (k : Nat), dI M d → dI (advL d n M k).2 d := by
  intro n
  induction n with
  | zero => intro M k h; exact h
  | succ n ih => intro M k h; unfold advL; split; exact ih _ _ (dI_step h); exact h
/-- a disk takes another one's state over -/
def dTake (M : dkM) (d e : Nat) : dkM := rtake (rtake (rtake (rtake (rtake M (d + 1) (e + 1) 64) (d + 3) (e + 3) 64) (d + 5) (e + 5) 64) (d + 7) (e + 7) 64) (d + 9) (e + 9) 100
def dCopy (M : dkM) (d e : Nat) : dkM := dk_put (dk_put (dk_put (dk_put (dk_put (dk_put (dk_put (dk_put (dk_put (dk_put (dTake M d e) d 5 (M e 5)) d 6 (M e 6)) d 7 (M e 7)) d 8 (M e 8)) d 9 (M e 9)) d 10 (M e 10)) d 11 (M e 11)) d 12 (M e 12)) d 13 (M e 13)) d 14 (M e 14)
def apart (d e : Nat) : Prop := d + 11 ≤ e ∨ e + 11 ≤ d
def dZ (M : dkM) (d : Nat) : Prop := (M d 8 = 0 ∨ M d 8 = 1) ∧ (M d 12 = 0 ∨ M d 12 = 1)
theorem dTake_ne {M : dkM} {d e a : Nat} (h : apart d e) (ha : e ≤ a ∧ a < e + 11) : dTake M d e a = M a := by
  unfold apart at h
  unfold dTake
  rw [rtake_ne (by omega), rtake_ne (by omega), rtake_ne (by omega), rtake_ne (by omega), rtake_ne (by omega)]
end
section
set_option maxHeartbeats 2000000 in
set_option maxRecDepth 20000 in
theorem c_X0_isRekeying {l : Launch} {G : dkG} {d : Nat} {M : dkM} (hd : dk_disk G d)  : dk_Con l yX0_isRekeying cX0_isRekeying 1 (some .boolean) 0 0 G [.ref (G.1 + d)] M (some (.int (bI (isRek M d))), M) := by
  refine dk_Con.of mwX0_isRekeying.1 (Nat.le_of_ble_eq_true rfl) (fun E hE hC => ?_)
  subst hE
  refine V.aload_n hC dX0_isRekeying_0 rfl ?_
  refine gfX0_39 hd hC dX0_isRekeying_1 ?_
  refine V.if_eq hC 11 dX0_isRekeying_4 (by decide) (fun c_1 => ?_) (fun c_1 => ?_)
  · refine V.iconst hC 0 dX0_isRekeying_11 (by decide) ?_
    exact V.zret hC (by first | (simp [isRek, bI, c_1]; done) | (simp_all [isRek, bI]; done)) (by decide) dX0_isRekeying_12
  · refine V.iconst hC 1 dX0_isRekeying_7 (by decide) ?_
    refine V.goto hC 12 dX0_isRekeying_8 (by decide) ?_
    exact V.zret hC (by first | (simp [isRek, bI, c_1]; done) | (simp_all [isRek, bI]; done)) (by decide) dX0_isRekeying_12
set_option maxHeartbeats 2000000 in
set_option maxRecDepth 20000 in
theorem c_X0_zoneFirst {l : Launch} {G : dkG} {d : Nat} {M : dkM} (hd : dk_disk G d)  : dk_Con l yX0_zoneFirst cX0_zoneFirst 1 (some .int) 1 21 G [.ref (G.1 + d)] M (some (.int (zFirst M d)), M) := by
  refine dk_Con.of mwX0_zoneFirst.1 (Nat.le_of_ble_eq_true rfl) (fun E hE hC => ?_)
  subst hE
  refine V.aload_n hC dX0_zoneFirst_0 rfl ?_
  refine gfX0_42 hd hC dX0_zoneFirst_1 ?_
  refine V.if_eq hC 14 dX0_zoneFirst_4 (by decide) (fun c_1 => ?_) (fun c_1 => ?_)
  · refine V.iconst hC 0 dX0_zoneFirst_14 (by decide) ?_
    refine V.aload_n hC dX0_zoneFirst_15 rfl ?_
    refine gfX0_46 hd hC dX0_zoneFirst_16 ?_
    refine V.aload_n hC dX0_zoneFirst_19 rfl ?_
    refine gfX0_52 hd hC dX0_zoneFirst_20 ?_
    refine V.isub hC dX0_zoneFirst_23 ?_
    refine V.mmax hC mlX0_161 ⟨rfl, rfl⟩ dX0_zoneFirst_24 rfl ?_
    exact V.iret hC (by first | (simp [zFirst, c_1]; done) | (simp_all [zFirst]; done)) dX0_zoneFirst_27
  · refine V.aload_n hC dX0_zoneFirst_7 rfl ?_
    refine gfX0_46 hd hC dX0_zoneFirst_8 ?_
    refine V.goto hC 27 dX0_zoneFirst_11 (by decide) ?_
    exact V.iret hC (by first | (simp [zFirst, c_1]; done) | (simp_all [zFirst]; done)) dX0_zoneFirst_27
set_option maxHeartbeats 2000000 in
set_option maxRecDepth 20000 in
theorem c_X0_zoneEnd {l : Launch} {G : dkG} {d : Nat} {M : dkM} (hd : dk_disk G d)  : dk_Con l yX0_zoneEnd cX0_zoneEnd 1 (some .int) 1 21 G [.ref (G.1 + d)] M (some (.int (zEnd M d)), M) := by
  refine dk_Con.of mwX0_zoneEnd.1 (Nat.le_of_ble_eq_true rfl) (fun E hE hC => ?_)
  subst hE
  refine V.aload_n hC dX0_zoneEnd_0 rfl ?_
  refine gfX0_42 hd hC dX0_zoneEnd_1 ?_
  refine V.if_eq hC 26 dX0_zoneEnd_4 (by decide) (fun c_1 => ?_) (fun c_1 => ?_)
  · refine V.aload_n hC dX0_zoneEnd_26 rfl ?_
    refine gfX0_46 hd hC dX0_zoneEnd_27 ?_
    exact V.iret hC (by first | (simp [zEnd, c_1]; done) | (simp_all [zEnd]; done)) dX0_zoneEnd_30
  · refine V.aload_n hC dX0_zoneEnd_7 rfl ?_
    refine gfX0_32 hd hC dX0_zoneEnd_8 ?_
    refine V.aload_n hC dX0_zoneEnd_11 rfl ?_
    refine gfX0_46 hd hC dX0_zoneEnd_12 ?_
    refine V.aload_n hC dX0_zoneEnd_15 rfl ?_
    refine gfX0_52 hd hC dX0_zoneEnd_16 ?_
    refine V.iadd hC dX0_zoneEnd_19 ?_
    refine V.mmin hC mlX0_166 ⟨rfl, rfl⟩ dX0_zoneEnd_20 rfl ?_
    refine V.goto hC 30 dX0_zoneEnd_23 (by decide) ?_
    exact V.iret hC (by first | (simp [zEnd, c_1]; done) | (simp_all [zEnd]; done)) dX0_zoneEnd_30
set_option maxHeartbeats 2000000 in
set_option maxRecDepth 20000 in
theorem c_X0_isZoneOpen {l : Launch} {G : dkG} {d : Nat} {M : dkM} (hd : dk_disk G d)  : dk_Con l yX0_isZoneOpen cX0_isZoneOpen 1 (some .boolean) 1 22 G [.ref (G.1 + d)] M (some (.int (bI (zOpen M d))), M) := by
  refine dk_Con.of mwX0_isZoneOpen.1 (Nat.le_of_ble_eq_true rfl) (fun E hE hC => ?_)
  subst hE
  refine V.aload_n hC dX0_isZoneOpen_0 rfl ?_
  refine gfX0_49 hd hC dX0_isZoneOpen_1 ?_
  refine V.if_gt hC 17 dX0_isZoneOpen_4 (by decide) (fun c_1 => ?_) (fun c_1 => ?_)
  · refine V.iconst hC 1 dX0_isZoneOpen_17 (by decide) ?_
    refine V.goto hC 22 dX0_isZoneOpen_18 (by decide) ?_
    exact V.zret hC (by first | (simp [zOpen, bI, c_1, dk_lt1 c_1]; done) | (simp_all [zOpen, bI]; done)) (by decide) dX0_isZoneOpen_22
  · refine V.aload_n hC dX0_isZoneOpen_7 rfl ?_
    refine gfX0_26 hd hC dX0_isZoneOpen_8 ?_
    refine V.callV0i hC (c_X2_filled hd.r7) mwX2_filled mlX0_83 hd.r7.s hd.r7.k rfl ⟨rfl, rfl⟩ dX0_isZoneOpen_11 rfl ?_
    refine V.if_le hC 21 dX0_isZoneOpen_14 (by decide) (fun c_2 => ?_) (fun c_2 => ?_)
    · refine V.iconst hC 0 dX0_isZoneOpen_21 (by decide) ?_
      exact V.zret hC (by first | (simp [zOpen, bI, c_1, dk_nlt c_1, c_2, dk_le1 c_2]; done) | (simp_all [zOpen, bI]; done)) (by decide) dX0_isZoneOpen_22
    · refine V.iconst hC 1 dX0_isZoneOpen_17 (by decide) ?_
      refine V.goto hC 22 dX0_isZoneOpen_18 (by decide) ?_
      exact V.zret hC (by first | (simp [zOpen, bI, c_1, dk_nlt c_1, c_2, dk_nle c_2]; done) | (simp_all [zOpen, bI]; done)) (by decide) dX0_isZoneOpen_22
set_option maxHeartbeats 2000000 in
set_option maxRecDepth 20000 in
theorem c_X0_needsJournal {l : Launch} {G : dkG} {d : Nat} {M : dkM} (hd : dk_disk G d)  : dk_Con l yX0_needsJournal cX0_needsJournal 1 (some .boolean) 2 42 G [.ref (G.1 + d)] M (some (.int (bI (needsJ M d))), M) := by
  refine dk_Con.of mwX0_needsJournal.1 (Nat.le_of_ble_eq_true rfl) (fun E hE hC => ?_)
  subst hE
  refine V.aload_n hC dX0_needsJournal_0 rfl ?_
  refine gfX0_55 hd hC dX0_needsJournal_1 ?_
  refine V.if_eq hC 18 dX0_needsJournal_4 (by decide) (fun c_1 => ?_) (fun c_1 => ?_)
  · refine V.iconst hC 0 dX0_needsJournal_18 (by decide) ?_
    exact V.zret hC (by first | (simp [needsJ, bI, c_1]; done) | (simp_all [needsJ, bI]; done)) (by decide) dX0_needsJournal_19
  · refine V.aload_n hC dX0_needsJournal_7 rfl ?_
    refine V.callV0i hC (c_X0_isZoneOpen hd) mwX0_isZoneOpen mlX0_87 hd.s hd.k rfl ⟨rfl, rfl⟩ dX0_needsJournal_8 rfl ?_
    refine V.if_neB hC 18 dX0_needsJournal_11 (by decide) (fun c_2 => ?_) (fun c_2 => ?_)
    · refine V.iconst hC 0 dX0_needsJournal_18 (by decide) ?_
      exact V.zret hC (by first | (simp [needsJ, bI, c_1, c_2]; done) | (simp_all [needsJ, bI]; done)) (by decide) dX0_needsJournal_19
    · refine V.iconst hC 1 dX0_needsJournal_14 (by decide) ?_
      refine V.goto hC 19 dX0_needsJournal_15 (by decide) ?_
      exact V.zret hC (by first | (simp [needsJ, bI, c_1, c_2]; done) | (simp_all [needsJ, bI]; done)) (by decide) dX0_needsJournal_19
set_option maxHeartbeats 2000000 in
set_option maxRecDepth 20000 in
theorem c_X0_hasSector {l : Launch} {G : dkG} {d : Nat} {M : dkM} (hd : dk_disk G d) {s : Int32}  : dk_Con l yX0_hasSector cX0_hasSector 2 (some .boolean) 0 0 G [.ref (G.1 + d), .int s] M (some (.int (bI (hasSec M d s))), M) := by
  refine dk_Con.of mwX0_hasSector.1 (Nat.le_of_ble_eq_true rfl) (fun E hE hC => ?_)
  subst hE
  refine V.iload_n hC dX0_hasSector_0 rfl ?_
  refine V.if_lt hC 16 dX0_hasSector_1 (by decide) (fun c_1 => ?_) (fun c_1 => ?_)
  · refine V.iconst hC 0 dX0_hasSector_16 (by decide) ?_
    exact V.zret hC (by first | (simp [hasSec, bI, c_1, dk_lt1 c_1]; done) | (simp_all [hasSec, bI]; done)) (by decide) dX0_hasSector_17
  · refine V.iload_n hC dX0_hasSector_4 rfl ?_
    refine V.aload_n hC dX0_hasSector_5 rfl ?_
    refine gfX0_32 hd hC dX0_hasSector_6 ?_
    refine V.icmp_ge hC 16 dX0_hasSector_9 (by decide) (fun c_2 => ?_) (fun c_2 => ?_)
    · refine V.iconst hC 0 dX0_hasSector_16 (by decide) ?_
      exact V.zret hC (by first | (simp [hasSec, bI, c_1, dk_nlt c_1, c_2, dk_le1 c_2]; done) | (simp_all [hasSec, bI]; done)) (by decide) dX0_hasSector_17
    · refine V.iconst hC 1 dX0_hasSector_12 (by decide) ?_
      refine V.goto hC 17 dX0_hasSector_13 (by decide) ?_
      exact V.zret hC (by first | (simp [hasSec, bI, c_1, dk_nlt c_1, c_2, dk_nle c_2]; done) | (simp_all [hasSec, bI]; done)) (by decide) dX0_hasSector_17
set_option maxHeartbeats 2000000 in
set_option maxRecDepth 20000 in
theorem c_X0_hasKey {l : Launch} {G : dkG} {d : Nat} {M : dkM} (hd : dk_disk G d) {k : Int32}  : dk_Con l yX0_hasKey cX0_hasKey 2 (some .boolean) 1 21 G [.ref (G.1 + d), .int k] M (some (.int (bI (hasKey M d k))), M) := by
  refine dk_Con.of mwX0_hasKey.1 (Nat.le_of_ble_eq_true rfl) (fun E hE hC => ?_)
  subst hE
  refine V.aload_n hC dX0_hasKey_0 rfl ?_
  refine gfX0_29 hd hC dX0_hasKey_1 ?_
  refine V.iload_n hC dX0_hasKey_4 rfl ?_
  refine V.callV1i hC (c_X2_get hd.r9) mwX2_get mlX0_106 hd.r9.s hd.r9.k rfl ⟨rfl, rfl⟩ dX0_hasKey_5 rfl ?_
  refine V.iconst hC (-1) dX0_hasKey_8 (by decide) ?_
  refine V.icmp_eq hC 16 dX0_hasKey_9 (by decide) (fun c_1 => ?_) (fun c_1 => ?_)
  · refine V.iconst hC 0 dX0_hasKey_16 (by decide) ?_
    exact V.zret hC (by first | (simp [hasKey, bI, c_1]; done) | (simp_all [hasKey, bI]; done)) (by decide) dX0_hasKey_17
  · refine V.iconst hC 1 dX0_hasKey_12 (by decide) ?_
    refine V.goto hC 17 dX0_hasKey_13 (by decide) ?_
    exact V.zret hC (by first | (simp [hasKey, bI, c_1]; done) | (simp_all [hasKey, bI]; done)) (by decide) dX0_hasKey_17
set_option maxHeartbeats 2000000 in
set_option maxRecDepth 20000 in
theorem c_X0_secretBehind {l : Launch} {G : dkG} {d : Nat} {M : dkM} (hd : dk_disk G d) {s : Int32}  : dk_Con l yX0_secretBehind cX0_secretBehind 2 (some .int) 1 21 G [.ref (G.1 + d), .int s] M (some (.int (rget M (d + 9) 100 s)), M) := by
  refine dk_Con.of mwX0_secretBehind.1 (Nat.le_of_ble_eq_true rfl) (fun E hE hC => ?_)
  subst hE
  refine V.aload_n hC dX0_secretBehind_0 rfl ?_
  refine gfX0_29 hd hC dX0_secretBehind_1 ?_
  refine V.iload_n hC dX0_secretBehind_4 rfl ?_
  refine V.callV1i hC (c_X2_get hd.r9) mwX2_get mlX0_106 hd.r9.s hd.r9.k rfl ⟨rfl, rfl⟩ dX0_secretBehind_5 rfl ?_
  exact V.iret hC (rfl) dX0_secretBehind_8
set_option maxHeartbeats 2000000 in
set_option maxRecDepth 20000 in
theorem c_X0_scrambledIn {l : Launch} {G : dkG} {d : Nat} {M : dkM} (hd : dk_disk G d) {s : Int32}  : dk_Con l yX0_scrambledIn cX0_scrambledIn 2 (some .int) 1 21 G [.ref (G.1 + d), .int s] M (some (.int (rget M (d + 1) 64 s)), M) := by
  refine dk_Con.of mwX0_scrambledIn.1 (Nat.le_of_ble_eq_true rfl) (fun E hE hC => ?_)
  subst hE
  refine V.aload_n hC dX0_scrambledIn_0 rfl ?_
  refine gfX0_14 hd hC dX0_scrambledIn_1 ?_
  refine V.iload_n hC dX0_scrambledIn_4 rfl ?_
  refine V.callV1i hC (c_X2_get hd.r1) mwX2_get mlX0_106 hd.r1.s hd.r1.k rfl ⟨rfl, rfl⟩ dX0_scrambledIn_5 rfl ?_
  exact V.iret hC (rfl) dX0_scrambledIn_8
set_option maxHeartbeats 2000000 in
set_option maxRecDepth 20000 in
theorem c_X0_inJournal {l : Launch} {G : dkG} {d : Nat} {M : dkM} (hd : dk_disk G d) {s : Int32}  : dk_Con l yX0_inJournal cX0_inJournal 2 (some .int) 1 21 G [.ref (G.1 + d), .int s] M (some (.int (rget M (d + 7) 64 s)), M) := by
  refine dk_Con.of mwX0_inJournal.1 (Nat.le_of_ble_eq_true rfl) (fun E hE hC => ?_)
  subst hE
  refine V.aload_n hC dX0_inJournal_0 rfl ?_
  refine gfX0_26 hd hC dX0_inJournal_1 ?_
  refine V.iload_n hC dX0_inJournal_4 rfl ?_
  refine V.callV1i hC (c_X2_get hd.r7) mwX2_get mlX0_106 hd.r7.s hd.r7.k rfl ⟨rfl, rfl⟩ dX0_inJournal_5 rfl ?_
  exact V.iret hC (rfl) dX0_inJournal_8
set_option maxHeartbeats 2000000 in
set_option maxRecDepth 20000 in
theorem c_X0_inCache {l : Launch} {G : dkG} {d : Nat} {M : dkM} (hd : dk_disk G d) {s : Int32}  : dk_Con l yX0_inCache cX0_inCache 2 (some .int) 1 21 G [.ref (G.1 + d), .int s] M (some (.int (rget M (d + 5) 64 s)), M) := by
  refine dk_Con.of mwX0_inCache.1 (Nat.le_of_ble_eq_true rfl) (fun E hE hC => ?_)
  subst hE
  refine V.aload_n hC dX0_inCache_0 rfl ?_
  refine gfX0_23 hd hC dX0_inCache_1 ?_
  refine V.iload_n hC dX0_inCache_4 rfl ?_
  refine V.callV1i hC (c_X2_get hd.r5) mwX2_get mlX0_106 hd.r5.s hd.r5.k rfl ⟨rfl, rfl⟩ dX0_inCache_5 rfl ?_
  exact V.iret hC (rfl) dX0_inCache_8
set_option maxHeartbeats 2000000 in
set_option maxRecDepth 20000 in
theorem c_X0_keyByPosition {l : Launch} {G : dkG} {d : Nat} {M : dkM} (hd : dk_disk G d) {s : Int32}  : dk_Con l yX0_keyByPosition cX0_keyByPosition 2 (some .int) 1 20 G [.ref (G.1 + d), .int s] M (some (.int (kbp M d s)), M) := by
  refine dk_Con.of mwX0_keyByPosition.1 (Nat.le_of_ble_eq_true rfl) (fun E hE hC => ?_)
  subst hE
  refine V.aload_n hC dX0_keyByPosition_0 rfl ?_
  refine V.callV0i hC (c_X0_isRekeying hd) mwX0_isRekeying mlX0_91 hd.s hd.k rfl ⟨rfl, rfl⟩ dX0_keyByPosition_1 rfl ?_
  refine V.if_eqB hC 22 dX0_keyByPosition_4 (by decide) (fun c_1 => ?_) (fun c_1 => ?_)
  · refine V.aload_n hC dX0_keyByPosition_22 rfl ?_
    refine gfX0_36 hd hC dX0_keyByPosition_23 ?_
    exact V.iret hC (by first | (simp [kbp, c_1]; done) | (simp_all [kbp]; done)) dX0_keyByPosition_26
  · refine V.iload_n hC dX0_keyByPosition_7 rfl ?_
    refine V.aload_n hC dX0_keyByPosition_8 rfl ?_
    refine gfX0_46 hd hC dX0_keyByPosition_9 ?_
    refine V.icmp_ge hC 22 dX0_keyByPosition_12 (by decide) (fun c_2 => ?_) (fun c_2 => ?_)
    · refine V.aload_n hC dX0_keyByPosition_22 rfl ?_
      refine gfX0_36 hd hC dX0_keyByPosition_23 ?_
      exact V.iret hC (by first | (simp [kbp, c_1, c_2, dk_le1 c_2]; done) | (simp_all [kbp]; done)) dX0_keyByPosition_26
    · refine V.aload_n hC dX0_keyByPosition_15 rfl ?_
      refine gfX0_39 hd hC dX0_keyByPosition_16 ?_
      refine V.goto hC 26 dX0_keyByPosition_19 (by decide) ?_
      exact V.iret hC (by first | (simp [kbp, c_1, c_2, dk_nle c_2]; done) | (simp_all [kbp]; done)) dX0_keyByPosition_26
set_option maxHeartbeats 2000000 in
set_option maxRecDepth 20000 in
theorem c_X0_otherKey {l : Launch} {G : dkG} {d : Nat} {M : dkM} (hd : dk_disk G d) {s : Int32}  : dk_Con l yX0_otherKey cX0_otherKey 2 (some .int) 0 0 G [.ref (G.1 + d), .int s] M (some (.int (othK M d s)), M) := by
  refine dk_Con.of mwX0_otherKey.1 (Nat.le_of_ble_eq_true rfl) (fun E hE hC => ?_)
  subst hE
  refine V.iload_n hC dX0_otherKey_0 rfl ?_
  refine V.aload_n hC dX0_otherKey_1 rfl ?_
  refine gfX0_36 hd hC dX0_otherKey_2 ?_
  refine V.icmp_ne hC 15 dX0_otherKey_5 (by decide) (fun c_1 => ?_) (fun c_1 => ?_)
  · refine V.aload_n hC dX0_otherKey_15 rfl ?_
    refine gfX0_36 hd hC dX0_otherKey_16 ?_
    exact V.iret hC (by first | (simp [othK, c_1]; done) | (simp_all [othK]; done)) dX0_otherKey_19
  · refine V.aload_n hC dX0_otherKey_8 rfl ?_
    refine gfX0_39 hd hC dX0_otherKey_9 ?_
    refine V.goto hC 19 dX0_otherKey_12 (by decide) ?_
    exact V.iret hC (by first | (simp [othK, c_1]; done) | (simp_all [othK]; done)) dX0_otherKey_19
set_option maxHeartbeats 2000000 in
set_option maxRecDepth 20000 in
theorem c_X0_exchange {l : Launch} {G : dkG} {d : Nat} {M : dkM} (hd : dk_disk G d) {x : Int32} {s : Int32} {k : Int32}  : dk_Con l yX0_exchange cX0_exchange 5 (some .int) 1 21 G [.ref (G.1 + d), .int x, .int s, .int k] M (some (.int (exch M d x s k)), M) := by
  refine dk_Con.of mwX0_exchange.1 (Nat.le_of_ble_eq_true rfl) (fun E hE hC => ?_)
  subst hE
  refine V.ldc hC klX0_160 dX0_exchange_0 ?_
  refine V.aload_n hC dX0_exchange_2 rfl ?_
  refine gfX0_29 hd hC dX0_exchange_3 ?_
  refine V.iload_n hC dX0_exchange_6 rfl ?_
  refine V.callV1i hC (c_X2_get hd.r9) mwX2_get mlX0_106 hd.r9.s hd.r9.k rfl ⟨rfl, rfl⟩ dX0_exchange_7 rfl ?_
  refine V.imul hC dX0_exchange_10 ?_
  refine V.sipush hC 30011 dX0_exchange_11 (by decide) ?_
  refine V.iload_n hC dX0_exchange_14 rfl ?_
  refine V.imul hC dX0_exchange_15 ?_
  refine V.iadd hC dX0_exchange_16 ?_
  refine V.sipush hC 12345 dX0_exchange_17 (by decide) ?_
  refine V.iadd hC dX0_exchange_20 ?_
  refine V.istore hC dX0_exchange_21 rfl rfl ?_
  refine V.iload_n hC dX0_exchange_23 rfl ?_
  refine V.iload hC dX0_exchange_24 rfl ?_
  refine V.ldc hC klX0_78 dX0_exchange_26 ?_
  refine V.iand hC dX0_exchange_28 ?_
  refine V.ixor hC dX0_exchange_29 ?_
  exact V.iret hC (rfl) dX0_exchange_30
set_option maxHeartbeats 2000000 in
set_option maxRecDepth 20000 in
theorem c_X0_keyAt {l : Launch} {G : dkG} {d : Nat} {M : dkM} (hd : dk_disk G d) {s : Int32}  : dk_Con l yX0_keyAt cX0_keyAt 4 (some .int) 2 41 G [.ref (G.1 + d), .int s] M (some (.int (keyAt M d s)), M) := by
  refine dk_Con.of mwX0_keyAt.1 (Nat.le_of_ble_eq_true rfl) (fun E hE hC => ?_)
  subst hE
  refine V.aload_n hC dX0_keyAt_0 rfl ?_
  refine V.callV0i hC (c_X0_zoneFirst hd) mwX0_zoneFirst mlX0_151 hd.s hd.k rfl ⟨rfl, rfl⟩ dX0_keyAt_1 rfl ?_
  refine V.istore_n hC dX0_keyAt_4 rfl rfl ?_
  refine V.iload_n hC dX0_keyAt_5 rfl ?_
  refine V.iload_n hC dX0_keyAt_6 rfl ?_
  refine V.icmp_lt hC 24 dX0_keyAt_7 (by decide) (fun c_1 => ?_) (fun c_1 => ?_)
  · refine V.iconst hC 0 dX0_keyAt_24 (by decide) ?_
    refine V.istore_n hC dX0_keyAt_25 rfl rfl ?_
    refine V.iload_n hC dX0_keyAt_26 rfl ?_
    refine V.if_eq_t hC 42 dX0_keyAt_27 (by decide) (by decide) ?_
    refine V.aload_n hC dX0_keyAt_42 rfl ?_
    refine V.iload_n hC dX0_keyAt_43 rfl ?_
    refine V.callV1i hC (c_X0_keyByPosition hd) mwX0_keyByPosition mlX0_154 hd.s hd.k rfl ⟨rfl, rfl⟩ dX0_keyAt_44 rfl ?_
    exact V.iret hC (by first | (simp [keyAt, c_1, dk_lt1 c_1]; done) | (simp_all [keyAt]; done)) dX0_keyAt_47
  · refine V.iload_n hC dX0_keyAt_10 rfl ?_
    refine V.iload_n hC dX0_keyAt_11 rfl ?_
    refine V.aload_n hC dX0_keyAt_12 rfl ?_
    refine gfX0_49 hd hC dX0_keyAt_13 ?_
    refine V.iadd hC dX0_keyAt_16 ?_
    refine V.icmp_ge hC 24 dX0_keyAt_17 (by decide) (fun c_2 => ?_) (fun c_2 => ?_)
    · refine V.iconst hC 0 dX0_keyAt_24 (by decide) ?_
      refine V.istore_n hC dX0_keyAt_25 rfl rfl ?_
      refine V.iload_n hC dX0_keyAt_26 rfl ?_
      refine V.if_eq_t hC 42 dX0_keyAt_27 (by decide) (by decide) ?_
      refine V.aload_n hC dX0_keyAt_42 rfl ?_
      refine V.iload_n hC dX0_keyAt_43 rfl ?_
      refine V.callV1i hC (c_X0_keyByPosition hd) mwX0_keyByPosition mlX0_154 hd.s hd.k rfl ⟨rfl, rfl⟩ dX0_keyAt_44 rfl ?_
      exact V.iret hC (by first | (simp [keyAt, c_1, dk_nlt c_1, c_2, dk_le1 c_2]; done) | (simp_all [keyAt]; done)) dX0_keyAt_47
    · refine V.iconst hC 1 dX0_keyAt_20 (by decide) ?_
      refine V.goto hC 25 dX0_keyAt_21 (by decide) ?_
      refine V.istore_n hC dX0_keyAt_25 rfl rfl ?_
      refine V.iload_n hC dX0_keyAt_26 rfl ?_
      refine V.if_eq_f hC 42 dX0_keyAt_27 (by decide) (by decide) ?_
      refine V.aload_n hC dX0_keyAt_30 rfl ?_
      refine V.aload_n hC dX0_keyAt_31 rfl ?_
      refine V.iload_n hC dX0_keyAt_32 rfl ?_
      refine V.callV1i hC (c_X0_keyByPosition hd) mwX0_keyByPosition mlX0_154 hd.s hd.k rfl ⟨rfl, rfl⟩ dX0_keyAt_33 rfl ?_
      refine V.callV1i hC (c_X0_otherKey hd) mwX0_otherKey mlX0_157 hd.s hd.k rfl ⟨rfl, rfl⟩ dX0_keyAt_36 rfl ?_
      refine V.goto hC 47 dX0_keyAt_39 (by decide) ?_
      exact V.iret hC (by first | (simp [keyAt, c_1, dk_nlt c_1, c_2, dk_nle c_2]; done) | (simp_all [keyAt]; done)) dX0_keyAt_47
set_option maxHeartbeats 2000000 in
set_option maxRecDepth 20000 in
theorem c_X0_valueIn {l : Launch} {G : dkG} {d : Nat} {M : dkM} (hd : dk_disk G d) {s : Int32}  : dk_Con l yX0_valueIn cX0_valueIn 3 (some .int) 3 64 G [.ref (G.1 + d), .int s] M (some (.int (valIn M d s)), M) := by
  refine dk_Con.of mwX0_valueIn.1 (Nat.le_of_ble_eq_true rfl) (fun E hE hC => ?_)
  subst hE
  refine V.aload_n hC dX0_valueIn_0 rfl ?_
  refine gfX0_23 hd hC dX0_valueIn_1 ?_
  refine V.iload_n hC dX0_valueIn_4 rfl ?_
  refine V.callV1i hC (c_X2_get hd.r5) mwX2_get mlX0_106 hd.r5.s hd.r5.k rfl ⟨rfl, rfl⟩ dX0_valueIn_5 rfl ?_
  refine V.istore_n hC dX0_valueIn_8 rfl rfl ?_
  refine V.iload_n hC dX0_valueIn_9 rfl ?_
  refine V.iconst hC (-1) dX0_valueIn_10 (by decide) ?_
  refine V.icmp_eq hC 18 dX0_valueIn_11 (by decide) (fun c_1 => ?_) (fun c_1 => ?_)
  · refine V.aload_n hC dX0_valueIn_18 rfl ?_
    refine V.aload_n hC dX0_valueIn_19 rfl ?_
    refine gfX0_14 hd hC dX0_valueIn_20 ?_
    refine V.iload_n hC dX0_valueIn_23 rfl ?_
    refine V.callV1i hC (c_X2_get hd.r1) mwX2_get mlX0_106 hd.r1.s hd.r1.k rfl ⟨rfl, rfl⟩ dX0_valueIn_24 rfl ?_
    refine V.iload_n hC dX0_valueIn_27 rfl ?_
    refine V.aload_n hC dX0_valueIn_28 rfl ?_
    refine V.iload_n hC dX0_valueIn_29 rfl ?_
    refine V.callV1i hC (c_X0_keyAt hd) mwX0_keyAt mlX0_144 hd.s hd.k rfl ⟨rfl, rfl⟩ dX0_valueIn_30 rfl ?_
    refine V.callV3i hC (c_X0_exchange hd) mwX0_exchange mlX0_147 hd.s hd.k rfl ⟨rfl, rfl⟩ dX0_valueIn_33 rfl ?_
    exact V.iret hC (by first | (simp [valIn, c_1]; done) | (simp_all [valIn]; done)) dX0_valueIn_36
  · refine V.iload_n hC dX0_valueIn_14 rfl ?_
    refine V.goto hC 36 dX0_valueIn_15 (by decide) ?_
    exact V.iret hC (by first | (simp [valIn, c_1]; done) | (simp_all [valIn]; done)) dX0_valueIn_36
set_option maxHeartbeats 2000000 in
set_option maxRecDepth 20000 in
theorem c_X0_scrambledAfterFailure {l : Launch} {G : dkG} {d : Nat} {M : dkM} (hd : dk_disk G d) {s : Int32}  : dk_Con l yX0_scrambledAfterFailure cX0_scrambledAfterFailure 3 (some .int) 1 21 G [.ref (G.1 + d), .int s] M (some (.int (saF M d s)), M) := by
  refine dk_Con.of mwX0_scrambledAfterFailure.1 (Nat.le_of_ble_eq_true rfl) (fun E hE hC => ?_)
  subst hE
  refine V.aload_n hC dX0_scrambledAfterFailure_0 rfl ?_
  refine gfX0_26 hd hC dX0_scrambledAfterFailure_1 ?_
  refine V.iload_n hC dX0_scrambledAfterFailure_4 rfl ?_
  refine V.callV1i hC (c_X2_get hd.r7) mwX2_get mlX0_106 hd.r7.s hd.r7.k rfl ⟨rfl, rfl⟩ dX0_scrambledAfterFailure_5 rfl ?_
  refine V.istore_n hC dX0_scrambledAfterFailure_8 rfl rfl ?_
  refine V.iload_n hC dX0_scrambledAfterFailure_9 rfl ?_
  refine V.iconst hC (-1) dX0_scrambledAfterFailure_10 (by decide) ?_
  refine V.icmp_eq hC 18 dX0_scrambledAfterFailure_11 (by decide) (fun c_1 => ?_) (fun c_1 => ?_)
  · refine V.aload_n hC dX0_scrambledAfterFailure_18 rfl ?_
    refine gfX0_14 hd hC dX0_scrambledAfterFailure_19 ?_
    refine V.iload_n hC dX0_scrambledAfterFailure_22 rfl ?_
    refine V.callV1i hC (c_X2_get hd.r1) mwX2_get mlX0_106 hd.r1.s hd.r1.k rfl ⟨rfl, rfl⟩ dX0_scrambledAfterFailure_23 rfl ?_
    exact V.iret hC (by first | (simp [saF, c_1]; done) | (simp_all [saF]; done)) dX0_scrambledAfterFailure_26
  · refine V.iload_n hC dX0_scrambledAfterFailure_14 rfl ?_
    refine V.goto hC 26 dX0_scrambledAfterFailure_15 (by decide) ?_
    exact V.iret hC (by first | (simp [saF, c_1]; done) | (simp_all [saF]; done)) dX0_scrambledAfterFailure_26
set_option maxHeartbeats 2000000 in
set_option maxRecDepth 20000 in
theorem c_X0_valueAfterFailure {l : Launch} {G : dkG} {d : Nat} {M : dkM} (hd : dk_disk G d) {s : Int32}  : dk_Con l yX0_valueAfterFailure cX0_valueAfterFailure 2 (some .int) 2 45 G [.ref (G.1 + d), .int s] M (some (.int (vaF M d s)), M) := by
  refine dk_Con.of mwX0_valueAfterFailure.1 (Nat.le_of_ble_eq_true rfl) (fun E hE hC => ?_)
  subst hE
  refine V.aload_n hC dX0_valueAfterFailure_0 rfl ?_
  refine V.aload_n hC dX0_valueAfterFailure_1 rfl ?_
  refine V.iload_n hC dX0_valueAfterFailure_2 rfl ?_
  refine V.callV1i hC (c_X0_scrambledAfterFailure hd) mwX0_scrambledAfterFailure mlX0_122 hd.s hd.k rfl ⟨rfl, rfl⟩ dX0_valueAfterFailure_3 rfl ?_
  refine V.iload_n hC dX0_valueAfterFailure_6 rfl ?_
  refine V.aload_n hC dX0_valueAfterFailure_7 rfl ?_
  refine V.iload_n hC dX0_valueAfterFailure_8 rfl ?_
  refine V.callV1i hC (c_X0_keyByPosition hd) mwX0_keyByPosition mlX0_154 hd.s hd.k rfl ⟨rfl, rfl⟩ dX0_valueAfterFailure_9 rfl ?_
  refine V.callV3i hC (c_X0_exchange hd) mwX0_exchange mlX0_147 hd.s hd.k rfl ⟨rfl, rfl⟩ dX0_valueAfterFailure_12 rfl ?_
  exact V.iret hC (rfl) dX0_valueAfterFailure_15
set_option maxHeartbeats 2000000 in
set_option maxRecDepth 20000 in
theorem c_X0_isFlushable {l : Launch} {G : dkG} {d : Nat} {M : dkM} (hd : dk_disk G d) {s : Int32}  : dk_Con l yX0_isFlushable cX0_isFlushable 3 (some .boolean) 2 42 G [.ref (G.1 + d), .int s] M (some (.int (bI (isFl M d s))), M) := by
  refine dk_Con.of mwX0_isFlushable.1 (Nat.le_of_ble_eq_true rfl) (fun E hE hC => ?_)
  subst hE
  refine V.aload_n hC dX0_isFlushable_0 rfl ?_
  refine V.callV0i hC (c_X0_isZoneOpen hd) mwX0_isZoneOpen mlX0_87 hd.s hd.k rfl ⟨rfl, rfl⟩ dX0_isFlushable_1 rfl ?_
  refine V.if_eqB hC 27 dX0_isFlushable_4 (by decide) (fun c_1 => ?_) (fun c_1 => ?_)
  · refine V.iconst hC 0 dX0_isFlushable_27 (by decide) ?_
    refine V.istore_n hC dX0_isFlushable_28 rfl rfl ?_
    refine V.aload_n hC dX0_isFlushable_29 rfl ?_
    refine gfX0_23 hd hC dX0_isFlushable_30 ?_
    refine V.iload_n hC dX0_isFlushable_33 rfl ?_
    refine V.callV1i hC (c_X2_get hd.r5) mwX2_get mlX0_106 hd.r5.s hd.r5.k rfl ⟨rfl, rfl⟩ dX0_isFlushable_34 rfl ?_
    refine V.iconst hC (-1) dX0_isFlushable_37 (by decide) ?_
    refine V.icmp_eq hC 49 dX0_isFlushable_38 (by decide) (fun c_2 => ?_) (fun c_2 => ?_)
    · refine V.iconst hC 0 dX0_isFlushable_49 (by decide) ?_
      exact V.zret hC (by first | (simp [isFl, bI, c_1, c_2]; done) | (simp_all [isFl, bI]; done)) (by decide) dX0_isFlushable_50
    · refine V.iload_n hC dX0_isFlushable_41 rfl ?_
      refine V.if_ne_f hC 49 dX0_isFlushable_42 (by decide) (by decide) ?_
      refine V.iconst hC 1 dX0_isFlushable_45 (by decide) ?_
      refine V.goto hC 50 dX0_isFlushable_46 (by decide) ?_
      exact V.zret hC (by first | (simp [isFl, bI, c_1, c_2]; done) | (simp_all [isFl, bI]; done)) (by decide) dX0_isFlushable_50
  · refine V.iload_n hC dX0_isFlushable_7 rfl ?_
    refine V.aload_n hC dX0_isFlushable_8 rfl ?_
    refine V.callV0i hC (c_X0_zoneFirst hd) mwX0_zoneFirst mlX0_151 hd.s hd.k rfl ⟨rfl, rfl⟩ dX0_isFlushable_9 rfl ?_
    refine V.icmp_lt hC 27 dX0_isFlushable_12 (by decide) (fun c_2 => ?_) (fun c_2 => ?_)
    · refine V.iconst hC 0 dX0_isFlushable_27 (by decide) ?_
      refine V.istore_n hC dX0_isFlushable_28 rfl rfl ?_
      refine V.aload_n hC dX0_isFlushable_29 rfl ?_
      refine gfX0_23 hd hC dX0_isFlushable_30 ?_
      refine V.iload_n hC dX0_isFlushable_33 rfl ?_
      refine V.callV1i hC (c_X2_get hd.r5) mwX2_get mlX0_106 hd.r5.s hd.r5.k rfl ⟨rfl, rfl⟩ dX0_isFlushable_34 rfl ?_
      refine V.iconst hC (-1) dX0_isFlushable_37 (by decide) ?_
      refine V.icmp_eq hC 49 dX0_isFlushable_38 (by decide) (fun c_3 => ?_) (fun c_3 => ?_)
      · refine V.iconst hC 0 dX0_isFlushable_49 (by decide) ?_
        exact V.zret hC (by first | (simp [isFl, bI, c_1, c_2, dk_lt1 c_2, c_3]; done) | (simp_all [isFl, bI]; done)) (by decide) dX0_isFlushable_50
      · refine V.iload_n hC dX0_isFlushable_41 rfl ?_
        refine V.if_ne_f hC 49 dX0_isFlushable_42 (by decide) (by decide) ?_
        refine V.iconst hC 1 dX0_isFlushable_45 (by decide) ?_
        refine V.goto hC 50 dX0_isFlushable_46 (by decide) ?_
        exact V.zret hC (by first | (simp [isFl, bI, c_1, c_2, dk_lt1 c_2, c_3]; done) | (simp_all [isFl, bI]; done)) (by decide) dX0_isFlushable_50
    · refine V.iload_n hC dX0_isFlushable_15 rfl ?_
      refine V.aload_n hC dX0_isFlushable_16 rfl ?_
      refine V.callV0i hC (c_X0_zoneEnd hd) mwX0_zoneEnd mlX0_172 hd.s hd.k rfl ⟨rfl, rfl⟩ dX0_isFlushable_17 rfl ?_
      refine V.icmp_ge hC 27 dX0_isFlushable_20 (by decide) (fun c_3 => ?_) (fun c_3 => ?_)
      · refine V.iconst hC 0 dX0_isFlushable_27 (by decide) ?_
        refine V.istore_n hC dX0_isFlushable_28 rfl rfl ?_
        refine V.aload_n hC dX0_isFlushable_29 rfl ?_
        refine gfX0_23 hd hC dX0_isFlushable_30 ?_
        refine V.iload_n hC dX0_isFlushable_33 rfl ?_
        refine V.callV1i hC (c_X2_get hd.r5) mwX2_get mlX0_106 hd.r5.s hd.r5.k rfl ⟨rfl, rfl⟩ dX0_isFlushable_34 rfl ?_
        refine V.iconst hC (-1) dX0_isFlushable_37 (by decide) ?_
        refine V.icmp_eq hC 49 dX0_isFlushable_38 (by decide) (fun c_4 => ?_) (fun c_4 => ?_)
        · refine V.iconst hC 0 dX0_isFlushable_49 (by decide) ?_
          exact V.zret hC (by first | (simp [isFl, bI, c_1, c_2, dk_nlt c_2, c_3, dk_le1 c_3, c_4]; done) | (simp_all [isFl, bI]; done)) (by decide) dX0_isFlushable_50
        · refine V.iload_n hC dX0_isFlushable_41 rfl ?_
          refine V.if_ne_f hC 49 dX0_isFlushable_42 (by decide) (by decide) ?_
          refine V.iconst hC 1 dX0_isFlushable_45 (by decide) ?_
          refine V.goto hC 50 dX0_isFlushable_46 (by decide) ?_
          exact V.zret hC (by first | (simp [isFl, bI, c_1, c_2, dk_nlt c_2, c_3, dk_le1 c_3, c_4]; done) | (simp_all [isFl, bI]; done)) (by decide) dX0_isFlushable_50
      · refine V.iconst hC 1 dX0_isFlushable_23 (by decide) ?_
        refine V.goto hC 28 dX0_isFlushable_24 (by decide) ?_
        refine V.istore_n hC dX0_isFlushable_28 rfl rfl ?_
        refine V.aload_n hC dX0_isFlushable_29 rfl ?_
        refine gfX0_23 hd hC dX0_isFlushable_30 ?_
        refine V.iload_n hC dX0_isFlushable_33 rfl ?_
        refine V.callV1i hC (c_X2_get hd.r5) mwX2_get mlX0_106 hd.r5.s hd.r5.k rfl ⟨rfl, rfl⟩ dX0_isFlushable_34 rfl ?_
        refine V.iconst hC (-1) dX0_isFlushable_37 (by decide) ?_
        refine V.icmp_eq hC 49 dX0_isFlushable_38 (by decide) (fun c_4 => ?_) (fun c_4 => ?_)
        · refine V.iconst hC 0 dX0_isFlushable_49 (by decide) ?_
          exact V.zret hC (by first | (simp [isFl, bI, c_1, c_2, dk_nlt c_2, c_3, dk_nle c_3, c_4]; done) | (simp_all [isFl, bI]; done)) (by decide) dX0_isFlushable_50
        · refine V.iload_n hC dX0_isFlushable_41 rfl ?_
          refine V.if_ne_t hC 49 dX0_isFlushable_42 (by decide) (by decide) ?_
          refine V.iconst hC 0 dX0_isFlushable_49 (by decide) ?_
          exact V.zret hC (by first | (simp [isFl, bI, c_1, c_2, dk_nlt c_2, c_3, dk_nle c_3, c_4]; done) | (simp_all [isFl, bI]; done)) (by decide) dX0_isFlushable_50
set_option maxHeartbeats 2000000 in
set_option maxRecDepth 20000 in
theorem c_X0_scrambledAfterFlush {l : Launch} {G : dkG} {d : Nat} {M : dkM} (hd : dk_disk G d) {s : Int32}  : dk_Con l yX0_scrambledAfterFlush cX0_scrambledAfterFlush 2 (some .int) 3 64 G [.ref (G.1 + d), .int s] M (some (.int (saFl M d s)), M) := by
  refine dk_Con.of mwX0_scrambledAfterFlush.1 (Nat.le_of_ble_eq_true rfl) (fun E hE hC => ?_)
  subst hE
  refine V.aload_n hC dX0_scrambledAfterFlush_0 rfl ?_
  refine V.iload_n hC dX0_scrambledAfterFlush_1 rfl ?_
  refine V.callV1i hC (c_X0_isFlushable hd) mwX0_isFlushable mlX0_110 hd.s hd.k rfl ⟨rfl, rfl⟩ dX0_scrambledAfterFlush_2 rfl ?_
  refine V.if_eqB hC 29 dX0_scrambledAfterFlush_5 (by decide) (fun c_1 => ?_) (fun c_1 => ?_)
  · refine V.aload_n hC dX0_scrambledAfterFlush_29 rfl ?_
    refine gfX0_14 hd hC dX0_scrambledAfterFlush_30 ?_
    refine V.iload_n hC dX0_scrambledAfterFlush_33 rfl ?_
    refine V.callV1i hC (c_X2_get hd.r1) mwX2_get mlX0_106 hd.r1.s hd.r1.k rfl ⟨rfl, rfl⟩ dX0_scrambledAfterFlush_34 rfl ?_
    exact V.iret hC (by first | (simp [saFl, c_1]; done) | (simp_all [saFl]; done)) dX0_scrambledAfterFlush_37
  · refine V.aload_n hC dX0_scrambledAfterFlush_8 rfl ?_
    refine V.aload_n hC dX0_scrambledAfterFlush_9 rfl ?_
    refine gfX0_23 hd hC dX0_scrambledAfterFlush_10 ?_
    refine V.iload_n hC dX0_scrambledAfterFlush_13 rfl ?_
    refine V.callV1i hC (c_X2_get hd.r5) mwX2_get mlX0_106 hd.r5.s hd.r5.k rfl ⟨rfl, rfl⟩ dX0_scrambledAfterFlush_14 rfl ?_
    refine V.iload_n hC dX0_scrambledAfterFlush_17 rfl ?_
    refine V.aload_n hC dX0_scrambledAfterFlush_18 rfl ?_
    refine V.iload_n hC dX0_scrambledAfterFlush_19 rfl ?_
    refine V.callV1i hC (c_X0_keyAt hd) mwX0_keyAt mlX0_144 hd.s hd.k rfl ⟨rfl, rfl⟩ dX0_scrambledAfterFlush_20 rfl ?_
    refine V.callV3i hC (c_X0_exchange hd) mwX0_exchange mlX0_147 hd.s hd.k rfl ⟨rfl, rfl⟩ dX0_scrambledAfterFlush_23 rfl ?_
    refine V.goto hC 37 dX0_scrambledAfterFlush_26 (by decide) ?_
    exact V.iret hC (by first | (simp [saFl, c_1]; done) | (simp_all [saFl]; done)) dX0_scrambledAfterFlush_37
end
section
set_option maxHeartbeats 2000000 in
set_option maxRecDepth 20000 in
theorem c_X0_damageCount {l : Launch} {G : dkG} {d : Nat} {M : dkM} (hd : dk_disk G d)  : dk_Con l yX0_damageCount cX0_damageCount 3 (some .int) 4 86 G [.ref (G.1 + d)] M (some (.int (nI (dcN M d (ix (M d 5))))), M) := by
  refine dk_Con.of mwX0_damageCount.1 (Nat.le_of_ble_eq_true rfl) (fun E hE hC => ?_)
  subst hE
  obtain ⟨N, hN⟩ : ∃ N, ix (M d 5) = N := ⟨_, rfl⟩
  have hsz : N < 2 ^ 31 := hN ▸ ix_lt _
  have loop_4 : ∀ (n : Nat) (k : Nat), (k ≤ N) → (N < k + n) →  V E G 3 (some (.int (nI (dcN M d (ix (M d 5))))), M) (M) 4 [(0, some (.ref (G.1 + d))), (1, some (.int (nI (dcN M d k)))), (2, some (.int (nI k)))] [] := by
    intro n
    induction n with
    | zero => intro k hk hn; exact absurd hn (by omega)
    | succ n ih_4 =>
      intro k hk hn
      refine V.iload_n hC dX0_damageCount_4 rfl ?_
      refine V.aload_n hC dX0_damageCount_5 rfl ?_
      refine gfX0_32 hd hC dX0_damageCount_6 ?_
      refine V.icmp_ge hC 37 dX0_damageCount_9 (by decide) (fun c_1 => ?_) (fun c_1 => ?_)
      · have hke : k = N := by have := (dk_gek (k := k) (by omega)).mp c_1; omega
        subst hke
        refine V.iload_n hC dX0_damageCount_37 rfl ?_
        exact V.iret hC (by rw [hN]) dX0_damageCount_38
      · have hkl : k < N := by have := mt (dk_gek (k := k) (by omega)).mpr c_1; omega
        refine V.aload_n hC dX0_damageCount_12 rfl ?_
        refine V.iload_n hC dX0_damageCount_13 rfl ?_
        refine V.callV1i hC (c_X0_valueIn hd) mwX0_valueIn mlX0_116 hd.s hd.k rfl ⟨rfl, rfl⟩ dX0_damageCount_14 rfl ?_
        refine V.aload_n hC dX0_damageCount_17 rfl ?_
        refine gfX0_20 hd hC dX0_damageCount_18 ?_
        refine V.iload_n hC dX0_damageCount_21 rfl ?_
        refine V.callV1i hC (c_X2_get hd.r3) mwX2_get mlX0_106 hd.r3.s hd.r3.k rfl ⟨rfl, rfl⟩ dX0_damageCount_22 rfl ?_
        refine V.icmp_eq hC 31 dX0_damageCount_25 (by decide) (fun c_2 => ?_) (fun c_2 => ?_)
        · refine V.iinc hC dX0_damageCount_31 rfl (dk_incN _) rfl ?_
          refine V.goto hC 4 dX0_damageCount_34 (by decide) ?_
          have ih2 := ih_4 (k + 1) (by omega) (by omega)
          simp [dcN, cnt, c_2] at ih2
          exact V.sub (dk_sc rfl (dk_sc rfl (dk_sc rfl (dk_sn)))) ih2
        · refine V.iinc hC dX0_damageCount_28 rfl (dk_incN _) rfl ?_
          refine V.iinc hC dX0_damageCount_31 rfl (dk_incN _) rfl ?_
          refine V.goto hC 4 dX0_damageCount_34 (by decide) ?_
          have ih2 := ih_4 (k + 1) (by omega) (by omega)
          simp [dcN, cnt, c_2] at ih2
          exact V.sub (dk_sc rfl (dk_sc rfl (dk_sc rfl (dk_sn)))) ih2
  refine V.iconst hC 0 dX0_damageCount_0 (by decide) ?_
  refine V.istore_n hC dX0_damageCount_1 rfl rfl ?_
  refine V.iconst hC 0 dX0_damageCount_2 (by decide) ?_
  refine V.istore_n hC dX0_damageCount_3 rfl rfl ?_
  exact V.sub (dk_sc rfl (dk_sc rfl (dk_sc rfl (dk_sn)))) (loop_4 (N + 1) 0 (Nat.zero_le _) (by omega))
set_option maxHeartbeats 2000000 in
set_option maxRecDepth 20000 in
theorem c_X0_damageAfterFailure {l : Launch} {G : dkG} {d : Nat} {M : dkM} (hd : dk_disk G d)  : dk_Con l yX0_damageAfterFailure cX0_damageAfterFailure 3 (some .int) 3 66 G [.ref (G.1 + d)] M (some (.int (nI (dafN M d (ix (M d 5))))), M) := by
  refine dk_Con.of mwX0_damageAfterFailure.1 (Nat.le_of_ble_eq_true rfl) (fun E hE hC => ?_)
  subst hE
  obtain ⟨N, hN⟩ : ∃ N, ix (M d 5) = N := ⟨_, rfl⟩
  have hsz : N < 2 ^ 31 := hN ▸ ix_lt _
  have loop_4 : ∀ (n : Nat) (k : Nat), (k ≤ N) → (N < k + n) →  V E G 3 (some (.int (nI (dafN M d (ix (M d 5))))), M) (M) 4 [(0, some (.ref (G.1 + d))), (1, some (.int (nI (dafN M d k)))), (2, some (.int (nI k)))] [] := by
    intro n
    induction n with
    | zero => intro k hk hn; exact absurd hn (by omega)
    | succ n ih_4 =>
      intro k hk hn
      refine V.iload_n hC dX0_damageAfterFailure_4 rfl ?_
      refine V.aload_n hC dX0_damageAfterFailure_5 rfl ?_
      refine gfX0_32 hd hC dX0_damageAfterFailure_6 ?_
      refine V.icmp_ge hC 37 dX0_damageAfterFailure_9 (by decide) (fun c_1 => ?_) (fun c_1 => ?_)
      · have hke : k = N := by have := (dk_gek (k := k) (by omega)).mp c_1; omega
        subst hke
        refine V.iload_n hC dX0_damageAfterFailure_37 rfl ?_
        exact V.iret hC (by rw [hN]) dX0_damageAfterFailure_38
      · have hkl : k < N := by have := mt (dk_gek (k := k) (by omega)).mpr c_1; omega
        refine V.aload_n hC dX0_damageAfterFailure_12 rfl ?_
        refine V.iload_n hC dX0_damageAfterFailure_13 rfl ?_
        refine V.callV1i hC (c_X0_valueAfterFailure hd) mwX0_valueAfterFailure mlX0_119 hd.s hd.k rfl ⟨rfl, rfl⟩ dX0_damageAfterFailure_14 rfl ?_
        refine V.aload_n hC dX0_damageAfterFailure_17 rfl ?_
        refine gfX0_20 hd hC dX0_damageAfterFailure_18 ?_
        refine V.iload_n hC dX0_damageAfterFailure_21 rfl ?_
        refine V.callV1i hC (c_X2_get hd.r3) mwX2_get mlX0_106 hd.r3.s hd.r3.k rfl ⟨rfl, rfl⟩ dX0_damageAfterFailure_22 rfl ?_
        refine V.icmp_eq hC 31 dX0_damageAfterFailure_25 (by decide) (fun c_2 => ?_) (fun c_2 => ?_)
        · refine V.iinc hC dX0_damageAfterFailure_31 rfl (dk_incN _) rfl ?_
          refine V.goto hC 4 dX0_damageAfterFailure_34 (by decide) ?_
          have ih2 := ih_4 (k + 1) (by omega) (by omega)
          simp [dafN, cnt, c_2] at ih2
          exact V.sub (dk_sc rfl (dk_sc rfl (dk_sc rfl (dk_sn)))) ih2
        · refine V.iinc hC dX0_damageAfterFailure_28 rfl (dk_incN _) rfl ?_
          refine V.iinc hC dX0_damageAfterFailure_31 rfl (dk_incN _) rfl ?_
          refine V.goto hC 4 dX0_damageAfterFailure_34 (by decide) ?_
          have ih2 := ih_4 (k + 1) (by omega) (by omega)
          simp [dafN, cnt, c_2] at ih2
          exact V.sub (dk_sc rfl (dk_sc rfl (dk_sc rfl (dk_sn)))) ih2
  refine V.iconst hC 0 dX0_damageAfterFailure_0 (by decide) ?_
  refine V.istore_n hC dX0_damageAfterFailure_1 rfl rfl ?_
  refine V.iconst hC 0 dX0_damageAfterFailure_2 (by decide) ?_
  refine V.istore_n hC dX0_damageAfterFailure_3 rfl rfl ?_
  exact V.sub (dk_sc rfl (dk_sc rfl (dk_sc rfl (dk_sn)))) (loop_4 (N + 1) 0 (Nat.zero_le _) (by omega))
set_option maxHeartbeats 2000000 in
set_option maxRecDepth 20000 in
theorem c_X0_firstDamage {l : Launch} {G : dkG} {d : Nat} {M : dkM} (hd : dk_disk G d)  : dk_Con l yX0_firstDamage cX0_firstDamage 2 (some .int) 4 86 G [.ref (G.1 + d)] M (some (.int (fdL M d (ix (M d 5)) 0)), M) := by
  refine dk_Con.of mwX0_firstDamage.1 (Nat.le_of_ble_eq_true rfl) (fun E hE hC => ?_)
  subst hE
  obtain ⟨N, hN⟩ : ∃ N, ix (M d 5) = N := ⟨_, rfl⟩
  have hsz : N < 2 ^ 31 := hN ▸ ix_lt _
  have loop_2 : ∀ (n : Nat) (k : Nat), (k ≤ N) → (N < k + n) → (fdL M d (N - k) k = fdL M d N 0) →  V E G 2 (some (.int (fdL M d (ix (M d 5)) 0)), M) (M) 2 [(0, some (.ref (G.1 + d))), (1, some (.int (nI k)))] [] := by
    intro n
    induction n with
    | zero => intro k hk hn hT; exact absurd hn (by omega)
    | succ n ih_2 =>
      intro k hk hn hT
      refine V.iload_n hC dX0_firstDamage_2 rfl ?_
      refine V.aload_n hC dX0_firstDamage_3 rfl ?_
      refine gfX0_32 hd hC dX0_firstDamage_4 ?_
      refine V.icmp_ge hC 34 dX0_firstDamage_7 (by decide) (fun c_1 => ?_) (fun c_1 => ?_)
      · have hke : k = N := by have := (dk_gek (k := k) (by omega)).mp c_1; omega
        subst hke
        refine V.iconst hC (-1) dX0_firstDamage_34 (by decide) ?_
        exact V.iret hC (by rw [hN, ← hT, Nat.sub_self]; rfl) dX0_firstDamage_35
      · have hkl : k < N := by have := mt (dk_gek (k := k) (by omega)).mpr c_1; omega
        refine V.aload_n hC dX0_firstDamage_10 rfl ?_
        refine V.iload_n hC dX0_firstDamage_11 rfl ?_
        refine V.callV1i hC (c_X0_valueIn hd) mwX0_valueIn mlX0_116 hd.s hd.k rfl ⟨rfl, rfl⟩ dX0_firstDamage_12 rfl ?_
        refine V.aload_n hC dX0_firstDamage_15 rfl ?_
        refine gfX0_20 hd hC dX0_firstDamage_16 ?_
        refine V.iload_n hC dX0_firstDamage_19 rfl ?_
        refine V.callV1i hC (c_X2_get hd.r3) mwX2_get mlX0_106 hd.r3.s hd.r3.k rfl ⟨rfl, rfl⟩ dX0_firstDamage_20 rfl ?_
        refine V.icmp_eq hC 28 dX0_firstDamage_23 (by decide) (fun c_2 => ?_) (fun c_2 => ?_)
        · refine V.iinc hC dX0_firstDamage_28 rfl (dk_incN _) rfl ?_
          refine V.goto hC 2 dX0_firstDamage_31 (by decide) ?_
          exact V.sub (dk_sc rfl (dk_sc rfl (dk_sn))) (ih_2 (k + 1) (by omega) (by omega) (by rw [show N - k = N - (k + 1) + 1 by omega, fdL, if_pos c_2] at hT; exact hT))
        · refine V.iload_n hC dX0_firstDamage_26 rfl ?_
          exact V.iret hC (by rw [hN, ← hT, show N - k = N - (k + 1) + 1 by omega, fdL, if_neg c_2]) dX0_firstDamage_27
  refine V.iconst hC 0 dX0_firstDamage_0 (by decide) ?_
  refine V.istore_n hC dX0_firstDamage_1 rfl rfl ?_
  exact V.sub (dk_sc rfl (dk_sc rfl (dk_sn))) (loop_2 (N + 1) 0 (Nat.zero_le _) (by omega) rfl)
set_option maxHeartbeats 2000000 in
set_option maxRecDepth 20000 in
theorem c_X0_fillWithZeros {l : Launch} {G : dkG} {d : Nat} {M : dkM} (hd : dk_disk G d)  : dk_Con l yX0_fillWithZeros cX0_fillWithZeros 2 none 2 45 G [.ref (G.1 + d)] M (none, fillZ M d) := by
  refine dk_Con.of mwX0_fillWithZeros.1 (Nat.le_of_ble_eq_true rfl) (fun E hE hC => ?_)
  subst hE
  obtain ⟨N, hN⟩ : ∃ N, ix (M d 5) = N := ⟨_, rfl⟩
  have hsz : N < 2 ^ 31 := hN ▸ ix_lt _
  have hq : rclear M (d + 5) 64 d = M d := rclear_ne (by omega)
  have loop_9 : ∀ (n : Nat) (k : Nat), (k ≤ N) → (N < k + n) →  V E G 2 (none, fillZ M d) (fzM (rclear M (d + 5) 64) d k) 9 [(0, some (.ref (G.1 + d))), (1, some (.int (nI k)))] [] := by
    intro n
    induction n with
    | zero => intro k hk hn; exact absurd hn (by omega)
    | succ n ih_9 =>
      intro k hk hn
      refine V.iload_n hC dX0_fillWithZeros_9 rfl ?_
      refine V.aload_n hC dX0_fillWithZeros_10 rfl ?_
      refine gfX0_32 hd hC dX0_fillWithZeros_11 ?_
      refine V.icmp_ge hC 50 dX0_fillWithZeros_14 (by decide) (fun c_1 => ?_) (fun c_1 => ?_)
      · have hke : k = N := by have hc := c_1; rw [fzM_d, hq] at hc; have := (dk_gek (k := k) (by omega)).mp hc; omega
        subst hke
        exact V.vret hC (by unfold fillZ; rw [hN]) dX0_fillWithZeros_50
      · have hkl : k < N := by have hc := c_1; rw [fzM_d, hq] at hc; have := mt (dk_gek (k := k) (by omega)).mpr hc; omega
        refine V.aload_n hC dX0_fillWithZeros_17 rfl ?_
        refine gfX0_14 hd hC dX0_fillWithZeros_18 ?_
        refine V.iload_n hC dX0_fillWithZeros_21 rfl ?_
        refine V.aload_n hC dX0_fillWithZeros_22 rfl ?_
        refine V.iconst hC 0 dX0_fillWithZeros_23 (by decide) ?_
        refine V.iload_n hC dX0_fillWithZeros_24 rfl ?_
        refine V.aload_n hC dX0_fillWithZeros_25 rfl ?_
        refine gfX0_36 hd hC dX0_fillWithZeros_26 ?_
        refine V.callV3i hC (c_X0_exchange hd) mwX0_exchange mlX0_147 hd.s hd.k rfl ⟨rfl, rfl⟩ dX0_fillWithZeros_29 rfl ?_
        refine V.callV2v hC (c_X2_set hd.r1) mwX2_set mlX0_64 hd.r1.s hd.r1.k rfl ⟨rfl, rfl⟩ dX0_fillWithZeros_32 rfl ?_
        refine V.aload_n hC dX0_fillWithZeros_35 rfl ?_
        refine gfX0_20 hd hC dX0_fillWithZeros_36 ?_
        refine V.iload_n hC dX0_fillWithZeros_39 rfl ?_
        refine V.iconst hC 0 dX0_fillWithZeros_40 (by decide) ?_
        refine V.callV2v hC (c_X2_set hd.r3) mwX2_set mlX0_64 hd.r3.s hd.r3.k rfl ⟨rfl, rfl⟩ dX0_fillWithZeros_41 rfl ?_
        refine V.iinc hC dX0_fillWithZeros_44 rfl (dk_incN _) rfl ?_
        refine V.goto hC 9 dX0_fillWithZeros_47 (by decide) ?_
        exact V.sub (dk_sc rfl (dk_sc rfl (dk_sn))) (ih_9 (k + 1) (by omega) (by omega))
  refine V.aload_n hC dX0_fillWithZeros_0 rfl ?_
  refine gfX0_23 hd hC dX0_fillWithZeros_1 ?_
  refine V.callV0v hC (c_X2_clear hd.r5) mwX2_clear mlX0_125 hd.r5.s hd.r5.k rfl ⟨rfl, rfl⟩ dX0_fillWithZeros_4 rfl ?_
  refine V.iconst hC 0 dX0_fillWithZeros_7 (by decide) ?_
  refine V.istore_n hC dX0_fillWithZeros_8 rfl rfl ?_
  exact V.sub (dk_sc rfl (dk_sc rfl (dk_sn))) (loop_9 (N + 1) 0 (Nat.zero_le _) (by omega))
set_option maxHeartbeats 2000000 in
set_option maxRecDepth 20000 in
theorem c_X0_flushCache {l : Launch} {G : dkG} {d : Nat} {M : dkM} (hd : dk_disk G d)  : dk_Con l yX0_flushCache cX0_flushCache 3 (some .int) 4 85 G [.ref (G.1 + d)] M (some (.int (nI (flN M d (ix (M d 5))))), flM M d (ix (M d 5))) := by
  refine dk_Con.of mwX0_flushCache.1 (Nat.le_of_ble_eq_true rfl) (fun E hE hC => ?_)
  subst hE
  obtain ⟨N, hN⟩ : ∃ N, ix (M d 5) = N := ⟨_, rfl⟩
  have hsz : N < 2 ^ 31 := hN ▸ ix_lt _
  have loop_4 : ∀ (n : Nat) (k : Nat), (k ≤ N) → (N < k + n) →  V E G 3 (some (.int (nI (flN M d (ix (M d 5))))), flM M d (ix (M d 5))) (flM M d k) 4 [(0, some (.ref (G.1 + d))), (1, some (.int (nI (flN M d k)))), (2, some (.int (nI k)))] [] := by
    intro n
    induction n with
    | zero => intro k hk hn; exact absurd hn (by omega)
    | succ n ih_4 =>
      intro k hk hn
      refine V.iload_n hC dX0_flushCache_4 rfl ?_
      refine V.aload_n hC dX0_flushCache_5 rfl ?_
      refine gfX0_32 hd hC dX0_flushCache_6 ?_
      refine V.icmp_ge hC 51 dX0_flushCache_9 (by decide) (fun c_1 => ?_) (fun c_1 => ?_)
      · have hke : k = N := by have hc := c_1; rw [flM_d] at hc; have := (dk_gek (k := k) (by omega)).mp hc; omega
        subst hke
        refine V.iload_n hC dX0_flushCache_51 rfl ?_
        exact V.iret hC (by rw [hN]) dX0_flushCache_52
      · have hkl : k < N := by have hc := c_1; rw [flM_d] at hc; have := mt (dk_gek (k := k) (by omega)).mpr hc; omega
        refine V.aload_n hC dX0_flushCache_12 rfl ?_
        refine V.iload_n hC dX0_flushCache_13 rfl ?_
        refine V.callV1i hC (c_X0_isFlushable hd) mwX0_isFlushable mlX0_110 hd.s hd.k rfl ⟨rfl, rfl⟩ dX0_flushCache_14 rfl ?_
        refine V.if_eqB hC 45 dX0_flushCache_17 (by decide) (fun c_2 => ?_) (fun c_2 => ?_)
        · refine V.iinc hC dX0_flushCache_45 rfl (dk_incN _) rfl ?_
          refine V.goto hC 4 dX0_flushCache_48 (by decide) ?_
          have ih2 := ih_4 (k + 1) (by omega) (by omega)
          simp only [flN, flM, c_2, if_true, Bool.false_eq_true, if_false] at ih2
          exact V.sub (dk_sc rfl (dk_sc rfl (dk_sc rfl (dk_sn)))) ih2
        · refine V.aload_n hC dX0_flushCache_20 rfl ?_
          refine gfX0_14 hd hC dX0_flushCache_21 ?_
          refine V.iload_n hC dX0_flushCache_24 rfl ?_
          refine V.aload_n hC dX0_flushCache_25 rfl ?_
          refine V.iload_n hC dX0_flushCache_26 rfl ?_
          refine V.callV1i hC (c_X0_scrambledAfterFlush hd) mwX0_scrambledAfterFlush mlX0_113 hd.s hd.k rfl ⟨rfl, rfl⟩ dX0_flushCache_27 rfl ?_
          refine V.callV2v hC (c_X2_set hd.r1) mwX2_set mlX0_64 hd.r1.s hd.r1.k rfl ⟨rfl, rfl⟩ dX0_flushCache_30 rfl ?_
          refine V.aload_n hC dX0_flushCache_33 rfl ?_
          refine gfX0_23 hd hC dX0_flushCache_34 ?_
          refine V.iload_n hC dX0_flushCache_37 rfl ?_
          refine V.iconst hC (-1) dX0_flushCache_38 (by decide) ?_
          refine V.callV2v hC (c_X2_set hd.r5) mwX2_set mlX0_64 hd.r5.s hd.r5.k rfl ⟨rfl, rfl⟩ dX0_flushCache_39 rfl ?_
          refine V.iinc hC dX0_flushCache_42 rfl (dk_incN _) rfl ?_
          refine V.iinc hC dX0_flushCache_45 rfl (dk_incN _) rfl ?_
          refine V.goto hC 4 dX0_flushCache_48 (by decide) ?_
          have ih2 := ih_4 (k + 1) (by omega) (by omega)
          simp only [flN, flM, c_2, if_true, Bool.false_eq_true, if_false] at ih2
          exact V.sub (dk_sc rfl (dk_sc rfl (dk_sc rfl (dk_sn)))) ih2
  refine V.iconst hC 0 dX0_flushCache_0 (by decide) ?_
  refine V.istore_n hC dX0_flushCache_1 rfl rfl ?_
  refine V.iconst hC 0 dX0_flushCache_2 (by decide) ?_
  refine V.istore_n hC dX0_flushCache_3 rfl rfl ?_
  exact V.sub (dk_sc rfl (dk_sc rfl (dk_sc rfl (dk_sn)))) (loop_4 (N + 1) 0 (Nat.zero_le _) (by omega))
set_option maxHeartbeats 2000000 in
set_option maxRecDepth 20000 in
theorem c_X0_closeZone {l : Launch} {G : dkG} {d : Nat} {M : dkM} (hd : dk_disk G d)  : dk_Con l yX0_closeZone cX0_closeZone 1 none 1 21 G [.ref (G.1 + d)] M (none, dClose M d) := by
  refine dk_Con.of mwX0_closeZone.1 (Nat.le_of_ble_eq_true rfl) (fun E hE hC => ?_)
  subst hE
  refine V.aload_n hC dX0_closeZone_0 rfl ?_
  refine gfX0_26 hd hC dX0_closeZone_1 ?_
  refine V.callV0v hC (c_X2_clear hd.r7) mwX2_clear mlX0_125 hd.r7.s hd.r7.k rfl ⟨rfl, rfl⟩ dX0_closeZone_4 rfl ?_
  refine V.aload_n hC dX0_closeZone_7 rfl ?_
  refine V.iconst hC 0 dX0_closeZone_8 (by decide) ?_
  refine pfX0_49 hd hC dX0_closeZone_9 ?_
  exact V.vret hC (rfl) dX0_closeZone_12
set_option maxHeartbeats 2000000 in
set_option maxRecDepth 20000 in
theorem c_X0_losePower {l : Launch} {G : dkG} {d : Nat} {M : dkM} (hd : dk_disk G d)  : dk_Con l yX0_losePower cX0_losePower 3 (some .int) 4 86 G [.ref (G.1 + d)] M (some (.int (nI (lpN M d (ix (M d 5))))), dFail M d) := by
  refine dk_Con.of mwX0_losePower.1 (Nat.le_of_ble_eq_true rfl) (fun E hE hC => ?_)
  subst hE
  obtain ⟨N, hN⟩ : ∃ N, ix (M d 5) = N := ⟨_, rfl⟩
  have hsz : N < 2 ^ 31 := hN ▸ ix_lt _
  have loop_36 : ∀ (n : Nat) (k : Nat), (k ≤ N) → (N < k + n) →  V E G 3 (some (.int (nI (lpN M d (ix (M d 5))))), dFail M d) (lpM M d k) 36 [(0, some (.ref (G.1 + d))), (1, some (.int (nI (lpN M d N)))), (2, some (.int (nI k)))] [] := by
    intro n
    induction n with
    | zero => intro k hk hn; exact absurd hn (by omega)
    | succ n ih_36 =>
      intro k hk hn
      refine V.iload_n hC dX0_losePower_36 rfl ?_
      refine V.aload_n hC dX0_losePower_37 rfl ?_
      refine gfX0_32 hd hC dX0_losePower_38 ?_
      refine V.icmp_ge hC 63 dX0_losePower_41 (by decide) (fun c_1 => ?_) (fun c_1 => ?_)
      · have hke : k = N := by have hc := c_1; rw [lpM_d] at hc; have := (dk_gek (k := k) (by omega)).mp hc; omega
        subst hke
        refine V.aload_n hC dX0_losePower_63 rfl ?_
        refine gfX0_23 hd hC dX0_losePower_64 ?_
        refine V.callV0v hC (c_X2_clear hd.r5) mwX2_clear mlX0_125 hd.r5.s hd.r5.k rfl ⟨rfl, rfl⟩ dX0_losePower_67 rfl ?_
        refine V.aload_n hC dX0_losePower_70 rfl ?_
        refine V.callV0v hC (c_X0_closeZone hd) mwX0_closeZone mlX0_75 hd.s hd.k rfl ⟨rfl, rfl⟩ dX0_losePower_71 rfl ?_
        refine V.aload_n hC dX0_losePower_74 rfl ?_
        refine V.dup hC dX0_losePower_75 rfl ?_
        refine gfX0_61 hd hC dX0_losePower_76 ?_
        refine V.iconst hC 1 dX0_losePower_79 (by decide) ?_
        refine V.iadd hC dX0_losePower_80 ?_
        refine pfX0_61 hd hC dX0_losePower_81 ?_
        refine V.iload_n hC dX0_losePower_84 rfl ?_
        exact V.iret hC (by unfold dFail dFailM; rw [hN]) dX0_losePower_85
      · have hkl : k < N := by have hc := c_1; rw [lpM_d] at hc; have := mt (dk_gek (k := k) (by omega)).mpr hc; omega
        refine V.aload_n hC dX0_losePower_44 rfl ?_
        refine gfX0_14 hd hC dX0_losePower_45 ?_
        refine V.iload_n hC dX0_losePower_48 rfl ?_
        refine V.aload_n hC dX0_losePower_49 rfl ?_
        refine V.iload_n hC dX0_losePower_50 rfl ?_
        refine V.callV1i hC (c_X0_scrambledAfterFailure hd) mwX0_scrambledAfterFailure mlX0_122 hd.s hd.k rfl ⟨rfl, rfl⟩ dX0_losePower_51 rfl ?_
        refine V.callV2v hC (c_X2_set hd.r1) mwX2_set mlX0_64 hd.r1.s hd.r1.k rfl ⟨rfl, rfl⟩ dX0_losePower_54 rfl ?_
        refine V.iinc hC dX0_losePower_57 rfl (dk_incN _) rfl ?_
        refine V.goto hC 36 dX0_losePower_60 (by decide) ?_
        exact V.sub (dk_sc rfl (dk_sc rfl (dk_sc rfl (dk_sn)))) (ih_36 (k + 1) (by omega) (by omega))
  have loop_4 : ∀ (n : Nat) (k : Nat), (k ≤ N) → (N < k + n) →  V E G 3 (some (.int (nI (lpN M d (ix (M d 5))))), dFail M d) (M) 4 [(0, some (.ref (G.1 + d))), (1, some (.int (nI (lpN M d k)))), (2, some (.int (nI k)))] [] := by
    intro n
    induction n with
    | zero => intro k hk hn; exact absurd hn (by omega)
    | succ n ih_4 =>
      intro k hk hn
      refine V.iload_n hC dX0_losePower_4 rfl ?_
      refine V.aload_n hC dX0_losePower_5 rfl ?_
      refine gfX0_32 hd hC dX0_losePower_6 ?_
      refine V.icmp_ge hC 34 dX0_losePower_9 (by decide) (fun c_1 => ?_) (fun c_1 => ?_)
      · have hke : k = N := by have := (dk_gek (k := k) (by omega)).mp c_1; omega
        rw [hke]
        refine V.iconst hC 0 dX0_losePower_34 (by decide) ?_
        refine V.istore_n hC dX0_losePower_35 rfl rfl ?_
        skip
        exact V.sub (dk_sc rfl (dk_sc rfl (dk_sc rfl (dk_sn)))) (loop_36 (N + 1) 0 (Nat.zero_le _) (by omega))
      · have hkl : k < N := by have := mt (dk_gek (k := k) (by omega)).mpr c_1; omega
        refine V.aload_n hC dX0_losePower_12 rfl ?_
        refine V.iload_n hC dX0_losePower_13 rfl ?_
        refine V.callV1i hC (c_X0_valueIn hd) mwX0_valueIn mlX0_116 hd.s hd.k rfl ⟨rfl, rfl⟩ dX0_losePower_14 rfl ?_
        refine V.aload_n hC dX0_losePower_17 rfl ?_
        refine V.iload_n hC dX0_losePower_18 rfl ?_
        refine V.callV1i hC (c_X0_valueAfterFailure hd) mwX0_valueAfterFailure mlX0_119 hd.s hd.k rfl ⟨rfl, rfl⟩ dX0_losePower_19 rfl ?_
        refine V.icmp_eq hC 28 dX0_losePower_22 (by decide) (fun c_2 => ?_) (fun c_2 => ?_)
        · refine V.iinc hC dX0_losePower_28 rfl (dk_incN _) rfl ?_
          refine V.goto hC 4 dX0_losePower_31 (by decide) ?_
          have ih2 := ih_4 (k + 1) (by omega) (by omega)
          simp [lpN, cnt, c_2] at ih2
          exact V.sub (dk_sc rfl (dk_sc rfl (dk_sc rfl (dk_sn)))) ih2
        · refine V.iinc hC dX0_losePower_25 rfl (dk_incN _) rfl ?_
          refine V.iinc hC dX0_losePower_28 rfl (dk_incN _) rfl ?_
          refine V.goto hC 4 dX0_losePower_31 (by decide) ?_
          have ih2 := ih_4 (k + 1) (by omega) (by omega)
          simp [lpN, cnt, c_2] at ih2
          exact V.sub (dk_sc rfl (dk_sc rfl (dk_sc rfl (dk_sn)))) ih2
  refine V.iconst hC 0 dX0_losePower_0 (by decide) ?_
  refine V.istore_n hC dX0_losePower_1 rfl rfl ?_
  refine V.iconst hC 0 dX0_losePower_2 (by decide) ?_
  refine V.istore_n hC dX0_losePower_3 rfl rfl ?_
  exact V.sub (dk_sc rfl (dk_sc rfl (dk_sc rfl (dk_sn)))) (loop_4 (N + 1) 0 (Nat.zero_le _) (by omega))
set_option maxHeartbeats 2000000 in
set_option maxRecDepth 20000 in
theorem c_X0_endIfThrough {l : Launch} {G : dkG} {d : Nat} {M : dkM} (hd : dk_disk G d)  : dk_Con l yX0_endIfThrough cX0_endIfThrough 1 none 0 0 G [.ref (G.1 + d)] M (none, endThru M d) := by
  refine dk_Con.of mwX0_endIfThrough.1 (Nat.le_of_ble_eq_true rfl) (fun E hE hC => ?_)
  subst hE
  refine V.aload_n hC dX0_endIfThrough_0 rfl ?_
  refine gfX0_42 hd hC dX0_endIfThrough_1 ?_
  refine V.if_eq hC 44 dX0_endIfThrough_4 (by decide) (fun c_1 => ?_) (fun c_1 => ?_)
  · refine V.aload_n hC dX0_endIfThrough_44 rfl ?_
    refine gfX0_42 hd hC dX0_endIfThrough_45 ?_
    refine V.if_ne hC 63 dX0_endIfThrough_48 (by decide) (fun c_2 => ?_) (fun c_2 => ?_)
    · exact V.vret hC (by first | exact absurd c_1 c_2 | exact absurd c_3 c_1 | simp [endThru, put_k, c_1, c_2]) dX0_endIfThrough_63
    · refine V.aload_n hC dX0_endIfThrough_51 rfl ?_
      refine gfX0_46 hd hC dX0_endIfThrough_52 ?_
      refine V.if_gt hC 63 dX0_endIfThrough_55 (by decide) (fun c_3 => ?_) (fun c_3 => ?_)
      · exact V.vret hC (by first | exact absurd c_1 c_2 | exact absurd c_3 c_1 | simp [endThru, put_k, c_1, c_2, c_3, dk_lt1 c_3]) dX0_endIfThrough_63
      · refine V.aload_n hC dX0_endIfThrough_58 rfl ?_
        refine V.iconst hC 0 dX0_endIfThrough_59 (by decide) ?_
        refine pfX0_39 hd hC dX0_endIfThrough_60 ?_
        exact V.vret hC (by first | exact absurd c_1 c_2 | exact absurd c_3 c_1 | simp [endThru, put_k, c_1, c_2, c_3, dk_nlt c_3]) dX0_endIfThrough_63
  · refine V.aload_n hC dX0_endIfThrough_7 rfl ?_
    refine gfX0_46 hd hC dX0_endIfThrough_8 ?_
    refine V.aload_n hC dX0_endIfThrough_11 rfl ?_
    refine gfX0_32 hd hC dX0_endIfThrough_12 ?_
    refine V.icmp_lt hC 44 dX0_endIfThrough_15 (by decide) (fun c_2 => ?_) (fun c_2 => ?_)
    · refine V.aload_n hC dX0_endIfThrough_44 rfl ?_
      refine gfX0_42 hd hC dX0_endIfThrough_45 ?_
      refine V.if_ne hC 63 dX0_endIfThrough_48 (by decide) (fun c_3 => ?_) (fun c_3 => ?_)
      · exact V.vret hC (by first | exact absurd c_1 c_2 | exact absurd c_3 c_1 | simp [endThru, put_k, c_1, c_2, dk_lt1 c_2, c_3]) dX0_endIfThrough_63
      · refine V.aload_n hC dX0_endIfThrough_51 rfl ?_
        refine gfX0_46 hd hC dX0_endIfThrough_52 ?_
        refine V.if_gt hC 63 dX0_endIfThrough_55 (by decide) (fun c_4 => ?_) (fun c_4 => ?_)
        · exact V.vret hC (by first | exact absurd c_1 c_2 | exact absurd c_3 c_1 | simp [endThru, put_k, c_1, c_2, dk_lt1 c_2, c_3, c_4, dk_lt1 c_4]) dX0_endIfThrough_63
        · refine V.aload_n hC dX0_endIfThrough_58 rfl ?_
          refine V.iconst hC 0 dX0_endIfThrough_59 (by decide) ?_
          refine pfX0_39 hd hC dX0_endIfThrough_60 ?_
          exact V.vret hC (by first | exact absurd c_1 c_2 | exact absurd c_3 c_1 | simp [endThru, put_k, c_1, c_2, dk_lt1 c_2, c_3, c_4, dk_nlt c_4]) dX0_endIfThrough_63
    · refine V.aload_n hC dX0_endIfThrough_18 rfl ?_
      refine V.aload_n hC dX0_endIfThrough_19 rfl ?_
      refine gfX0_39 hd hC dX0_endIfThrough_20 ?_
      refine pfX0_36 hd hC dX0_endIfThrough_23 ?_
      refine V.aload_n hC dX0_endIfThrough_26 rfl ?_
      refine V.dup hC dX0_endIfThrough_27 rfl ?_
      refine gfX0_58 hd hC dX0_endIfThrough_28 ?_
      refine V.iconst hC 1 dX0_endIfThrough_31 (by decide) ?_
      refine V.iadd hC dX0_endIfThrough_32 ?_
      refine pfX0_58 hd hC dX0_endIfThrough_33 ?_
      refine V.aload_n hC dX0_endIfThrough_36 rfl ?_
      refine V.iconst hC 0 dX0_endIfThrough_37 (by decide) ?_
      refine pfX0_39 hd hC dX0_endIfThrough_38 ?_
      refine V.goto hC 63 dX0_endIfThrough_41 (by decide) ?_
      exact V.vret hC (by first | exact absurd c_1 c_2 | exact absurd c_3 c_1 | simp [endThru, put_k, c_1, c_2, dk_nlt c_2]) dX0_endIfThrough_63
set_option maxHeartbeats 2000000 in
set_option maxRecDepth 20000 in
theorem c_X0_rewriteNext {l : Launch} {G : dkG} {d : Nat} {M : dkM} (hd : dk_disk G d) {s : Int32}  : dk_Con l yX0_rewriteNext cX0_rewriteNext 4 none 2 45 G [.ref (G.1 + d), .int s] M (none, rwNext M d s) := by
  refine dk_Con.of mwX0_rewriteNext.1 (Nat.le_of_ble_eq_true rfl) (fun E hE hC => ?_)
  subst hE
  refine V.aload_n hC dX0_rewriteNext_0 rfl ?_
  refine V.iload_n hC dX0_rewriteNext_1 rfl ?_
  refine V.callV1i hC (c_X0_keyByPosition hd) mwX0_keyByPosition mlX0_154 hd.s hd.k rfl ⟨rfl, rfl⟩ dX0_rewriteNext_2 rfl ?_
  refine V.istore_n hC dX0_rewriteNext_5 rfl rfl ?_
  refine V.aload_n hC dX0_rewriteNext_6 rfl ?_
  refine V.aload_n hC dX0_rewriteNext_7 rfl ?_
  refine gfX0_14 hd hC dX0_rewriteNext_8 ?_
  refine V.iload_n hC dX0_rewriteNext_11 rfl ?_
  refine V.callV1i hC (c_X2_get hd.r1) mwX2_get mlX0_106 hd.r1.s hd.r1.k rfl ⟨rfl, rfl⟩ dX0_rewriteNext_12 rfl ?_
  refine V.iload_n hC dX0_rewriteNext_15 rfl ?_
  refine V.iload_n hC dX0_rewriteNext_16 rfl ?_
  refine V.callV3i hC (c_X0_exchange hd) mwX0_exchange mlX0_147 hd.s hd.k rfl ⟨rfl, rfl⟩ dX0_rewriteNext_17 rfl ?_
  refine V.istore_n hC dX0_rewriteNext_20 rfl rfl ?_
  refine V.aload_n hC dX0_rewriteNext_21 rfl ?_
  refine gfX0_14 hd hC dX0_rewriteNext_22 ?_
  refine V.iload_n hC dX0_rewriteNext_25 rfl ?_
  refine V.aload_n hC dX0_rewriteNext_26 rfl ?_
  refine V.iload_n hC dX0_rewriteNext_27 rfl ?_
  refine V.iload_n hC dX0_rewriteNext_28 rfl ?_
  refine V.aload_n hC dX0_rewriteNext_29 rfl ?_
  refine V.iload_n hC dX0_rewriteNext_30 rfl ?_
  refine V.callV1i hC (c_X0_otherKey hd) mwX0_otherKey mlX0_157 hd.s hd.k rfl ⟨rfl, rfl⟩ dX0_rewriteNext_31 rfl ?_
  refine V.callV3i hC (c_X0_exchange hd) mwX0_exchange mlX0_147 hd.s hd.k rfl ⟨rfl, rfl⟩ dX0_rewriteNext_34 rfl ?_
  refine V.callV2v hC (c_X2_set hd.r1) mwX2_set mlX0_64 hd.r1.s hd.r1.k rfl ⟨rfl, rfl⟩ dX0_rewriteNext_37 rfl ?_
  refine V.aload_n hC dX0_rewriteNext_40 rfl ?_
  refine V.dup hC dX0_rewriteNext_41 rfl ?_
  refine gfX0_49 hd hC dX0_rewriteNext_42 ?_
  refine V.iconst hC 1 dX0_rewriteNext_45 (by decide) ?_
  refine V.iadd hC dX0_rewriteNext_46 ?_
  refine pfX0_49 hd hC dX0_rewriteNext_47 ?_
  exact V.vret hC (rfl) dX0_rewriteNext_50
set_option maxHeartbeats 2000000 in
set_option maxRecDepth 20000 in
theorem c_X0_makeStep {l : Launch} {G : dkG} {d : Nat} {M : dkM} (hd : dk_disk G d) (hI : dI M d) : dk_Con l yX0_makeStep cX0_makeStep 2 none 3 68 G [.ref (G.1 + d)] M (none, dStep M d) := by
  refine dk_Con.of mwX0_makeStep.1 (Nat.le_of_ble_eq_true rfl) (fun E hE hC => ?_)
  subst hE
  have hz0 := dI_zFb hI
  have hze := dI_zEb hI
  have hi0 := ix_toInt hz0.1
  have hi1 := ix_toInt hze.1
  have loop_12 : ∀ (n : Nat) (k : Nat), (needsJ M d = true) → (k ≤ ix (zEnd M d) - ix (zFirst M d)) → (ix (zEnd M d) - ix (zFirst M d) < k + n) →  V E G 2 (none, dStep M d) (jrM M d (ix (zFirst M d)) k) 12 [(0, some (.ref (G.1 + d))), (1, some (.int (nI (ix (zFirst M d) + k))))] [] := by
    intro n
    induction n with
    | zero => intro k hj hk hn; exact absurd hn (by omega)
    | succ n ih_12 =>
      intro k hj hk hn
      refine V.iload_n hC dX0_makeStep_12 rfl ?_
      refine V.aload_n hC dX0_makeStep_13 rfl ?_
      refine V.callV0i hC (c_X0_zoneEnd hd) mwX0_zoneEnd mlX0_172 hd.s hd.k rfl ⟨rfl, rfl⟩ dX0_makeStep_14 rfl ?_
      refine V.icmp_ge hC 42 dX0_makeStep_17 (by decide) (fun c_1 => ?_) (fun c_1 => ?_)
      · have hke : k = ix (zEnd M d) - ix (zFirst M d) := by have hc := c_1; rw [zEnd_congr (jrM_ne _ _ _ _ (by omega))] at hc; have := (dk_gek (k := ix (zFirst M d) + k) (by omega)).mp hc; omega
        refine V.goto hC 107 dX0_makeStep_42 (by decide) ?_
        exact V.vret hC (by first | (simp [dStep, hj, hke]; done) | simp [dStep, c_1, dk_le1 c_1]) dX0_makeStep_107
      · have hkl : k < ix (zEnd M d) - ix (zFirst M d) := by have hc := c_1; rw [zEnd_congr (jrM_ne _ _ _ _ (by omega))] at hc; have := mt (dk_gek (k := ix (zFirst M d) + k) (by omega)).mpr hc; omega
        refine V.aload_n hC dX0_makeStep_20 rfl ?_
        refine gfX0_26 hd hC dX0_makeStep_21 ?_
        refine V.iload_n hC dX0_makeStep_24 rfl ?_
        refine V.aload_n hC dX0_makeStep_25 rfl ?_
        refine gfX0_14 hd hC dX0_makeStep_26 ?_
        refine V.iload_n hC dX0_makeStep_29 rfl ?_
        refine V.callV1i hC (c_X2_get hd.r1) mwX2_get mlX0_106 hd.r1.s hd.r1.k rfl ⟨rfl, rfl⟩ dX0_makeStep_30 rfl ?_
        refine V.callV2v hC (c_X2_set hd.r7) mwX2_set mlX0_64 hd.r7.s hd.r7.k rfl ⟨rfl, rfl⟩ dX0_makeStep_33 rfl ?_
        refine V.iinc hC dX0_makeStep_36 rfl (dk_incN _) rfl ?_
        refine V.goto hC 12 dX0_makeStep_39 (by decide) ?_
        exact V.sub (dk_sc rfl (dk_sc rfl (dk_sn))) (ih_12 (k + 1) hj (by omega) (by omega))
  refine V.aload_n hC dX0_makeStep_0 rfl ?_
  refine V.callV0i hC (c_X0_needsJournal hd) mwX0_needsJournal mlX0_169 hd.s hd.k rfl ⟨rfl, rfl⟩ dX0_makeStep_1 rfl ?_
  refine V.if_eqB hC 45 dX0_makeStep_4 (by decide) (fun c_1 => ?_) (fun c_1 => ?_)
  · refine V.aload_n hC dX0_makeStep_45 rfl ?_
    refine V.callV0i hC (c_X0_zoneFirst hd) mwX0_zoneFirst mlX0_151 hd.s hd.k rfl ⟨rfl, rfl⟩ dX0_makeStep_46 rfl ?_
    refine V.aload_n hC dX0_makeStep_49 rfl ?_
    refine gfX0_49 hd hC dX0_makeStep_50 ?_
    refine V.iadd hC dX0_makeStep_53 ?_
    refine V.aload_n hC dX0_makeStep_54 rfl ?_
    refine V.callV0i hC (c_X0_zoneEnd hd) mwX0_zoneEnd mlX0_172 hd.s hd.k rfl ⟨rfl, rfl⟩ dX0_makeStep_55 rfl ?_
    refine V.icmp_ge hC 77 dX0_makeStep_58 (by decide) (fun c_2 => ?_) (fun c_2 => ?_)
    · refine V.aload_n hC dX0_makeStep_77 rfl ?_
      refine V.aload_n hC dX0_makeStep_78 rfl ?_
      refine gfX0_42 hd hC dX0_makeStep_79 ?_
      refine V.if_eq hC 92 dX0_makeStep_82 (by decide) (fun c_3 => ?_) (fun c_3 => ?_)
      · refine V.aload_n hC dX0_makeStep_92 rfl ?_
        refine V.callV0i hC (c_X0_zoneFirst hd) mwX0_zoneFirst mlX0_151 hd.s hd.k rfl ⟨rfl, rfl⟩ dX0_makeStep_93 rfl ?_
        refine pfX0_46 hd hC dX0_makeStep_96 ?_
        refine V.aload_n hC dX0_makeStep_99 rfl ?_
        refine V.callV0v hC (c_X0_closeZone hd) mwX0_closeZone mlX0_75 hd.s hd.k rfl ⟨rfl, rfl⟩ dX0_makeStep_100 rfl ?_
        refine V.aload_n hC dX0_makeStep_103 rfl ?_
        refine V.callV0v hC (c_X0_endIfThrough hd) mwX0_endIfThrough mlX0_100 hd.s hd.k rfl ⟨rfl, rfl⟩ dX0_makeStep_104 rfl ?_
        exact V.vret hC (by first | (simp [dStep, hj, hke]; done) | simp [dStep, c_1, c_2, dk_le1 c_2, c_3]) dX0_makeStep_107
      · refine V.aload_n hC dX0_makeStep_85 rfl ?_
        refine V.callV0i hC (c_X0_zoneEnd hd) mwX0_zoneEnd mlX0_172 hd.s hd.k rfl ⟨rfl, rfl⟩ dX0_makeStep_86 rfl ?_
        refine V.goto hC 96 dX0_makeStep_89 (by decide) ?_
        refine pfX0_46 hd hC dX0_makeStep_96 ?_
        refine V.aload_n hC dX0_makeStep_99 rfl ?_
        refine V.callV0v hC (c_X0_closeZone hd) mwX0_closeZone mlX0_75 hd.s hd.k rfl ⟨rfl, rfl⟩ dX0_makeStep_100 rfl ?_
        refine V.aload_n hC dX0_makeStep_103 rfl ?_
        refine V.callV0v hC (c_X0_endIfThrough hd) mwX0_endIfThrough mlX0_100 hd.s hd.k rfl ⟨rfl, rfl⟩ dX0_makeStep_104 rfl ?_
        exact V.vret hC (by first | (simp [dStep, hj, hke]; done) | simp [dStep, c_1, c_2, dk_le1 c_2, c_3]) dX0_makeStep_107
    · refine V.aload_n hC dX0_makeStep_61 rfl ?_
      refine V.aload_n hC dX0_makeStep_62 rfl ?_
      refine V.callV0i hC (c_X0_zoneFirst hd) mwX0_zoneFirst mlX0_151 hd.s hd.k rfl ⟨rfl, rfl⟩ dX0_makeStep_63 rfl ?_
      refine V.aload_n hC dX0_makeStep_66 rfl ?_
      refine gfX0_49 hd hC dX0_makeStep_67 ?_
      refine V.iadd hC dX0_makeStep_70 ?_
      refine V.callV1v hC (c_X0_rewriteNext hd) mwX0_rewriteNext mlX0_175 hd.s hd.k rfl ⟨rfl, rfl⟩ dX0_makeStep_71 rfl ?_
      refine V.goto hC 107 dX0_makeStep_74 (by decide) ?_
      exact V.vret hC (by first | (simp [dStep, hj, hke]; done) | simp [dStep, c_1, c_2, dk_nle c_2]) dX0_makeStep_107
  · refine V.aload_n hC dX0_makeStep_7 rfl ?_
    refine V.callV0i hC (c_X0_zoneFirst hd) mwX0_zoneFirst mlX0_151 hd.s hd.k rfl ⟨rfl, rfl⟩ dX0_makeStep_8 rfl ?_
    refine V.top (congrArg Value.int (nI_ix hz0.1)) ?_
    refine V.istore_n hC dX0_makeStep_11 rfl rfl ?_
    exact V.sub (dk_sc rfl (dk_sc rfl (dk_sn))) (loop_12 (ix (zEnd M d) - ix (zFirst M d) + 1) 0 c_1 (Nat.zero_le _) (by omega))
set_option maxHeartbeats 2000000 in
set_option maxRecDepth 20000 in
theorem c_X0_stepsAhead {l : Launch} {G : dkG} {d : Nat} {M : dkM} (hd : dk_disk G d)  : dk_Con l yX0_stepsAhead cX0_stepsAhead 4 (some .int) 3 62 G [.ref (G.1 + d)] M (some (.int (sAhead M d)), M) := by
  refine dk_Con.of mwX0_stepsAhead.1 (Nat.le_of_ble_eq_true rfl) (fun E hE hC => ?_)
  subst hE
  refine V.aload_n hC dX0_stepsAhead_0 rfl ?_
  refine V.callV0i hC (c_X0_isRekeying hd) mwX0_isRekeying mlX0_91 hd.s hd.k rfl ⟨rfl, rfl⟩ dX0_stepsAhead_1 rfl ?_
  refine V.if_neB hC 9 dX0_stepsAhead_4 (by decide) (fun c_1 => ?_) (fun c_1 => ?_)
  · refine V.aload_n hC dX0_stepsAhead_9 rfl ?_
    refine V.callV0i hC (c_X0_needsJournal hd) mwX0_needsJournal mlX0_169 hd.s hd.k rfl ⟨rfl, rfl⟩ dX0_stepsAhead_10 rfl ?_
    refine V.if_eqB hC 20 dX0_stepsAhead_13 (by decide) (fun c_2 => ?_) (fun c_2 => ?_)
    · refine V.iconst hC 0 dX0_stepsAhead_20 (by decide) ?_
      refine V.aload_n hC dX0_stepsAhead_21 rfl ?_
      refine V.callV0i hC (c_X0_zoneEnd hd) mwX0_zoneEnd mlX0_172 hd.s hd.k rfl ⟨rfl, rfl⟩ dX0_stepsAhead_22 rfl ?_
      refine V.iadd hC dX0_stepsAhead_25 ?_
      refine V.aload_n hC dX0_stepsAhead_26 rfl ?_
      refine V.callV0i hC (c_X0_zoneFirst hd) mwX0_zoneFirst mlX0_151 hd.s hd.k rfl ⟨rfl, rfl⟩ dX0_stepsAhead_27 rfl ?_
      refine V.isub hC dX0_stepsAhead_30 ?_
      refine V.aload_n hC dX0_stepsAhead_31 rfl ?_
      refine gfX0_49 hd hC dX0_stepsAhead_32 ?_
      refine V.isub hC dX0_stepsAhead_35 ?_
      refine V.iconst hC 1 dX0_stepsAhead_36 (by decide) ?_
      refine V.iadd hC dX0_stepsAhead_37 ?_
      refine V.istore_n hC dX0_stepsAhead_38 rfl rfl ?_
      refine V.aload_n hC dX0_stepsAhead_39 rfl ?_
      refine gfX0_42 hd hC dX0_stepsAhead_40 ?_
      refine V.if_eq hC 58 dX0_stepsAhead_43 (by decide) (fun c_3 => ?_) (fun c_3 => ?_)
      · refine V.aload_n hC dX0_stepsAhead_58 rfl ?_
        refine V.callV0i hC (c_X0_zoneFirst hd) mwX0_zoneFirst mlX0_151 hd.s hd.k rfl ⟨rfl, rfl⟩ dX0_stepsAhead_59 rfl ?_
        refine V.istore_n hC dX0_stepsAhead_62 rfl rfl ?_
        refine V.aload_n hC dX0_stepsAhead_63 rfl ?_
        refine gfX0_52 hd hC dX0_stepsAhead_64 ?_
        refine V.if_le hC 86 dX0_stepsAhead_67 (by decide) (fun c_4 => ?_) (fun c_4 => ?_)
        · refine V.iconst hC 0 dX0_stepsAhead_86 (by decide) ?_
          refine V.istore_n hC dX0_stepsAhead_87 rfl rfl ?_
          refine V.iload_n hC dX0_stepsAhead_88 rfl ?_
          refine V.iload_n hC dX0_stepsAhead_89 rfl ?_
          refine V.iadd hC dX0_stepsAhead_90 ?_
          refine V.iload_n hC dX0_stepsAhead_91 rfl ?_
          refine V.aload_n hC dX0_stepsAhead_92 rfl ?_
          refine gfX0_55 hd hC dX0_stepsAhead_93 ?_
          refine V.if_eq hC 103 dX0_stepsAhead_96 (by decide) (fun c_5 => ?_) (fun c_5 => ?_)
          · refine V.iconst hC 1 dX0_stepsAhead_103 (by decide) ?_
            refine V.imul hC dX0_stepsAhead_104 ?_
            refine V.iadd hC dX0_stepsAhead_105 ?_
            exact V.iret hC (by first | (simp [sAhead, c_1, c_2, c_3, c_4, dk_le1 c_4, c_5]; done) | (simp_all [sAhead]; done)) dX0_stepsAhead_106
          · refine V.iconst hC 2 dX0_stepsAhead_99 (by decide) ?_
            refine V.goto hC 104 dX0_stepsAhead_100 (by decide) ?_
            refine V.imul hC dX0_stepsAhead_104 ?_
            refine V.iadd hC dX0_stepsAhead_105 ?_
            exact V.iret hC (by first | (simp [sAhead, c_1, c_2, c_3, c_4, dk_le1 c_4, c_5]; done) | (simp_all [sAhead]; done)) dX0_stepsAhead_106
        · refine V.iload_n hC dX0_stepsAhead_70 rfl ?_
          refine V.aload_n hC dX0_stepsAhead_71 rfl ?_
          refine gfX0_52 hd hC dX0_stepsAhead_72 ?_
          refine V.iadd hC dX0_stepsAhead_75 ?_
          refine V.iconst hC 1 dX0_stepsAhead_76 (by decide) ?_
          refine V.isub hC dX0_stepsAhead_77 ?_
          refine V.aload_n hC dX0_stepsAhead_78 rfl ?_
          refine gfX0_52 hd hC dX0_stepsAhead_79 ?_
          refine V.idiv hC dX0_stepsAhead_82 (fun h => c_4 (by rw [h]; decide)) ?_
          refine V.goto hC 87 dX0_stepsAhead_83 (by decide) ?_
          refine V.istore_n hC dX0_stepsAhead_87 rfl rfl ?_
          refine V.iload_n hC dX0_stepsAhead_88 rfl ?_
          refine V.iload_n hC dX0_stepsAhead_89 rfl ?_
          refine V.iadd hC dX0_stepsAhead_90 ?_
          refine V.iload_n hC dX0_stepsAhead_91 rfl ?_
          refine V.aload_n hC dX0_stepsAhead_92 rfl ?_
          refine gfX0_55 hd hC dX0_stepsAhead_93 ?_
          refine V.if_eq hC 103 dX0_stepsAhead_96 (by decide) (fun c_5 => ?_) (fun c_5 => ?_)
          · refine V.iconst hC 1 dX0_stepsAhead_103 (by decide) ?_
            refine V.imul hC dX0_stepsAhead_104 ?_
            refine V.iadd hC dX0_stepsAhead_105 ?_
            exact V.iret hC (by first | (simp [sAhead, c_1, c_2, c_3, c_4, dk_nle c_4, c_5]; done) | (simp_all [sAhead]; done)) dX0_stepsAhead_106
          · refine V.iconst hC 2 dX0_stepsAhead_99 (by decide) ?_
            refine V.goto hC 104 dX0_stepsAhead_100 (by decide) ?_
            refine V.imul hC dX0_stepsAhead_104 ?_
            refine V.iadd hC dX0_stepsAhead_105 ?_
            exact V.iret hC (by first | (simp [sAhead, c_1, c_2, c_3, c_4, dk_nle c_4, c_5]; done) | (simp_all [sAhead]; done)) dX0_stepsAhead_106
      · refine V.aload_n hC dX0_stepsAhead_46 rfl ?_
        refine gfX0_32 hd hC dX0_stepsAhead_47 ?_
        refine V.aload_n hC dX0_stepsAhead_50 rfl ?_
        refine V.callV0i hC (c_X0_zoneEnd hd) mwX0_zoneEnd mlX0_172 hd.s hd.k rfl ⟨rfl, rfl⟩ dX0_stepsAhead_51 rfl ?_
        refine V.isub hC dX0_stepsAhead_54 ?_
        refine V.goto hC 62 dX0_stepsAhead_55 (by decide) ?_
        refine V.istore_n hC dX0_stepsAhead_62 rfl rfl ?_
        refine V.aload_n hC dX0_stepsAhead_63 rfl ?_
        refine gfX0_52 hd hC dX0_stepsAhead_64 ?_
        refine V.if_le hC 86 dX0_stepsAhead_67 (by decide) (fun c_4 => ?_) (fun c_4 => ?_)
        · refine V.iconst hC 0 dX0_stepsAhead_86 (by decide) ?_
          refine V.istore_n hC dX0_stepsAhead_87 rfl rfl ?_
          refine V.iload_n hC dX0_stepsAhead_88 rfl ?_
          refine V.iload_n hC dX0_stepsAhead_89 rfl ?_
          refine V.iadd hC dX0_stepsAhead_90 ?_
          refine V.iload_n hC dX0_stepsAhead_91 rfl ?_
          refine V.aload_n hC dX0_stepsAhead_92 rfl ?_
          refine gfX0_55 hd hC dX0_stepsAhead_93 ?_
          refine V.if_eq hC 103 dX0_stepsAhead_96 (by decide) (fun c_5 => ?_) (fun c_5 => ?_)
          · refine V.iconst hC 1 dX0_stepsAhead_103 (by decide) ?_
            refine V.imul hC dX0_stepsAhead_104 ?_
            refine V.iadd hC dX0_stepsAhead_105 ?_
            exact V.iret hC (by first | (simp [sAhead, c_1, c_2, c_3, c_4, dk_le1 c_4, c_5]; done) | (simp_all [sAhead]; done)) dX0_stepsAhead_106
          · refine V.iconst hC 2 dX0_stepsAhead_99 (by decide) ?_
            refine V.goto hC 104 dX0_stepsAhead_100 (by decide) ?_
            refine V.imul hC dX0_stepsAhead_104 ?_
            refine V.iadd hC dX0_stepsAhead_105 ?_
            exact V.iret hC (by first | (simp [sAhead, c_1, c_2, c_3, c_4, dk_le1 c_4, c_5]; done) | (simp_all [sAhead]; done)) dX0_stepsAhead_106
        · refine V.iload_n hC dX0_stepsAhead_70 rfl ?_
          refine V.aload_n hC dX0_stepsAhead_71 rfl ?_
          refine gfX0_52 hd hC dX0_stepsAhead_72 ?_
          refine V.iadd hC dX0_stepsAhead_75 ?_
          refine V.iconst hC 1 dX0_stepsAhead_76 (by decide) ?_
          refine V.isub hC dX0_stepsAhead_77 ?_
          refine V.aload_n hC dX0_stepsAhead_78 rfl ?_
          refine gfX0_52 hd hC dX0_stepsAhead_79 ?_
          refine V.idiv hC dX0_stepsAhead_82 (fun h => c_4 (by rw [h]; decide)) ?_
          refine V.goto hC 87 dX0_stepsAhead_83 (by decide) ?_
          refine V.istore_n hC dX0_stepsAhead_87 rfl rfl ?_
          refine V.iload_n hC dX0_stepsAhead_88 rfl ?_
          refine V.iload_n hC dX0_stepsAhead_89 rfl ?_
          refine V.iadd hC dX0_stepsAhead_90 ?_
          refine V.iload_n hC dX0_stepsAhead_91 rfl ?_
          refine V.aload_n hC dX0_stepsAhead_92 rfl ?_
          refine gfX0_55 hd hC dX0_stepsAhead_93 ?_
          refine V.if_eq hC 103 dX0_stepsAhead_96 (by decide) (fun c_5 => ?_) (fun c_5 => ?_)
          · refine V.iconst hC 1 dX0_stepsAhead_103 (by decide) ?_
            refine V.imul hC dX0_stepsAhead_104 ?_
            refine V.iadd hC dX0_stepsAhead_105 ?_
            exact V.iret hC (by first | (simp [sAhead, c_1, c_2, c_3, c_4, dk_nle c_4, c_5]; done) | (simp_all [sAhead]; done)) dX0_stepsAhead_106
          · refine V.iconst hC 2 dX0_stepsAhead_99 (by decide) ?_
            refine V.goto hC 104 dX0_stepsAhead_100 (by decide) ?_
            refine V.imul hC dX0_stepsAhead_104 ?_
            refine V.iadd hC dX0_stepsAhead_105 ?_
            exact V.iret hC (by first | (simp [sAhead, c_1, c_2, c_3, c_4, dk_nle c_4, c_5]; done) | (simp_all [sAhead]; done)) dX0_stepsAhead_106
    · refine V.iconst hC 1 dX0_stepsAhead_16 (by decide) ?_
      refine V.goto hC 21 dX0_stepsAhead_17 (by decide) ?_
      refine V.aload_n hC dX0_stepsAhead_21 rfl ?_
      refine V.callV0i hC (c_X0_zoneEnd hd) mwX0_zoneEnd mlX0_172 hd.s hd.k rfl ⟨rfl, rfl⟩ dX0_stepsAhead_22 rfl ?_
      refine V.iadd hC dX0_stepsAhead_25 ?_
      refine V.aload_n hC dX0_stepsAhead_26 rfl ?_
      refine V.callV0i hC (c_X0_zoneFirst hd) mwX0_zoneFirst mlX0_151 hd.s hd.k rfl ⟨rfl, rfl⟩ dX0_stepsAhead_27 rfl ?_
      refine V.isub hC dX0_stepsAhead_30 ?_
      refine V.aload_n hC dX0_stepsAhead_31 rfl ?_
      refine gfX0_49 hd hC dX0_stepsAhead_32 ?_
      refine V.isub hC dX0_stepsAhead_35 ?_
      refine V.iconst hC 1 dX0_stepsAhead_36 (by decide) ?_
      refine V.iadd hC dX0_stepsAhead_37 ?_
      refine V.istore_n hC dX0_stepsAhead_38 rfl rfl ?_
      refine V.aload_n hC dX0_stepsAhead_39 rfl ?_
      refine gfX0_42 hd hC dX0_stepsAhead_40 ?_
      refine V.if_eq hC 58 dX0_stepsAhead_43 (by decide) (fun c_3 => ?_) (fun c_3 => ?_)
      · refine V.aload_n hC dX0_stepsAhead_58 rfl ?_
        refine V.callV0i hC (c_X0_zoneFirst hd) mwX0_zoneFirst mlX0_151 hd.s hd.k rfl ⟨rfl, rfl⟩ dX0_stepsAhead_59 rfl ?_
        refine V.istore_n hC dX0_stepsAhead_62 rfl rfl ?_
        refine V.aload_n hC dX0_stepsAhead_63 rfl ?_
        refine gfX0_52 hd hC dX0_stepsAhead_64 ?_
        refine V.if_le hC 86 dX0_stepsAhead_67 (by decide) (fun c_4 => ?_) (fun c_4 => ?_)
        · refine V.iconst hC 0 dX0_stepsAhead_86 (by decide) ?_
          refine V.istore_n hC dX0_stepsAhead_87 rfl rfl ?_
          refine V.iload_n hC dX0_stepsAhead_88 rfl ?_
          refine V.iload_n hC dX0_stepsAhead_89 rfl ?_
          refine V.iadd hC dX0_stepsAhead_90 ?_
          refine V.iload_n hC dX0_stepsAhead_91 rfl ?_
          refine V.aload_n hC dX0_stepsAhead_92 rfl ?_
          refine gfX0_55 hd hC dX0_stepsAhead_93 ?_
          refine V.if_eq hC 103 dX0_stepsAhead_96 (by decide) (fun c_5 => ?_) (fun c_5 => ?_)
          · refine V.iconst hC 1 dX0_stepsAhead_103 (by decide) ?_
            refine V.imul hC dX0_stepsAhead_104 ?_
            refine V.iadd hC dX0_stepsAhead_105 ?_
            exact V.iret hC (by first | (simp [sAhead, c_1, c_2, c_3, c_4, dk_le1 c_4, c_5]; done) | (simp_all [sAhead]; done)) dX0_stepsAhead_106
          · refine V.iconst hC 2 dX0_stepsAhead_99 (by decide) ?_
            refine V.goto hC 104 dX0_stepsAhead_100 (by decide) ?_
            refine V.imul hC dX0_stepsAhead_104 ?_
            refine V.iadd hC dX0_stepsAhead_105 ?_
            exact V.iret hC (by first | (simp [sAhead, c_1, c_2, c_3, c_4, dk_le1 c_4, c_5]; done) | (simp_all [sAhead]; done)) dX0_stepsAhead_106
        · refine V.iload_n hC dX0_stepsAhead_70 rfl ?_
          refine V.aload_n hC dX0_stepsAhead_71 rfl ?_
          refine gfX0_52 hd hC dX0_stepsAhead_72 ?_
          refine V.iadd hC dX0_stepsAhead_75 ?_
          refine V.iconst hC 1 dX0_stepsAhead_76 (by decide) ?_
          refine V.isub hC dX0_stepsAhead_77 ?_
          refine V.aload_n hC dX0_stepsAhead_78 rfl ?_
          refine gfX0_52 hd hC dX0_stepsAhead_79 ?_
          refine V.idiv hC dX0_stepsAhead_82 (fun h => c_4 (by rw [h]; decide)) ?_
          refine V.goto hC 87 dX0_stepsAhead_83 (by decide) ?_
          refine V.istore_n hC dX0_stepsAhead_87 rfl rfl ?_
          refine V.iload_n hC dX0_stepsAhead_88 rfl ?_
          refine V.iload_n hC dX0_stepsAhead_89 rfl ?_
          refine V.iadd hC dX0_stepsAhead_90 ?_
          refine V.iload_n hC dX0_stepsAhead_91 rfl ?_
          refine V.aload_n hC dX0_stepsAhead_92 rfl ?_
          refine gfX0_55 hd hC dX0_stepsAhead_93 ?_
          refine V.if_eq hC 103 dX0_stepsAhead_96 (by decide) (fun c_5 => ?_) (fun c_5 => ?_)
          · refine V.iconst hC 1 dX0_stepsAhead_103 (by decide) ?_
            refine V.imul hC dX0_stepsAhead_104 ?_
            refine V.iadd hC dX0_stepsAhead_105 ?_
            exact V.iret hC (by first | (simp [sAhead, c_1, c_2, c_3, c_4, dk_nle c_4, c_5]; done) | (simp_all [sAhead]; done)) dX0_stepsAhead_106
          · refine V.iconst hC 2 dX0_stepsAhead_99 (by decide) ?_
            refine V.goto hC 104 dX0_stepsAhead_100 (by decide) ?_
            refine V.imul hC dX0_stepsAhead_104 ?_
            refine V.iadd hC dX0_stepsAhead_105 ?_
            exact V.iret hC (by first | (simp [sAhead, c_1, c_2, c_3, c_4, dk_nle c_4, c_5]; done) | (simp_all [sAhead]; done)) dX0_stepsAhead_106
      · refine V.aload_n hC dX0_stepsAhead_46 rfl ?_
        refine gfX0_32 hd hC dX0_stepsAhead_47 ?_
        refine V.aload_n hC dX0_stepsAhead_50 rfl ?_
        refine V.callV0i hC (c_X0_zoneEnd hd) mwX0_zoneEnd mlX0_172 hd.s hd.k rfl ⟨rfl, rfl⟩ dX0_stepsAhead_51 rfl ?_
        refine V.isub hC dX0_stepsAhead_54 ?_
        refine V.goto hC 62 dX0_stepsAhead_55 (by decide) ?_
        refine V.istore_n hC dX0_stepsAhead_62 rfl rfl ?_
        refine V.aload_n hC dX0_stepsAhead_63 rfl ?_
        refine gfX0_52 hd hC dX0_stepsAhead_64 ?_
        refine V.if_le hC 86 dX0_stepsAhead_67 (by decide) (fun c_4 => ?_) (fun c_4 => ?_)
        · refine V.iconst hC 0 dX0_stepsAhead_86 (by decide) ?_
          refine V.istore_n hC dX0_stepsAhead_87 rfl rfl ?_
          refine V.iload_n hC dX0_stepsAhead_88 rfl ?_
          refine V.iload_n hC dX0_stepsAhead_89 rfl ?_
          refine V.iadd hC dX0_stepsAhead_90 ?_
          refine V.iload_n hC dX0_stepsAhead_91 rfl ?_
          refine V.aload_n hC dX0_stepsAhead_92 rfl ?_
          refine gfX0_55 hd hC dX0_stepsAhead_93 ?_
          refine V.if_eq hC 103 dX0_stepsAhead_96 (by decide) (fun c_5 => ?_) (fun c_5 => ?_)
          · refine V.iconst hC 1 dX0_stepsAhead_103 (by decide) ?_
            refine V.imul hC dX0_stepsAhead_104 ?_
            refine V.iadd hC dX0_stepsAhead_105 ?_
            exact V.iret hC (by first | (simp [sAhead, c_1, c_2, c_3, c_4, dk_le1 c_4, c_5]; done) | (simp_all [sAhead]; done)) dX0_stepsAhead_106
          · refine V.iconst hC 2 dX0_stepsAhead_99 (by decide) ?_
            refine V.goto hC 104 dX0_stepsAhead_100 (by decide) ?_
            refine V.imul hC dX0_stepsAhead_104 ?_
            refine V.iadd hC dX0_stepsAhead_105 ?_
            exact V.iret hC (by first | (simp [sAhead, c_1, c_2, c_3, c_4, dk_le1 c_4, c_5]; done) | (simp_all [sAhead]; done)) dX0_stepsAhead_106
        · refine V.iload_n hC dX0_stepsAhead_70 rfl ?_
          refine V.aload_n hC dX0_stepsAhead_71 rfl ?_
          refine gfX0_52 hd hC dX0_stepsAhead_72 ?_
          refine V.iadd hC dX0_stepsAhead_75 ?_
          refine V.iconst hC 1 dX0_stepsAhead_76 (by decide) ?_
          refine V.isub hC dX0_stepsAhead_77 ?_
          refine V.aload_n hC dX0_stepsAhead_78 rfl ?_
          refine gfX0_52 hd hC dX0_stepsAhead_79 ?_
          refine V.idiv hC dX0_stepsAhead_82 (fun h => c_4 (by rw [h]; decide)) ?_
          refine V.goto hC 87 dX0_stepsAhead_83 (by decide) ?_
          refine V.istore_n hC dX0_stepsAhead_87 rfl rfl ?_
          refine V.iload_n hC dX0_stepsAhead_88 rfl ?_
          refine V.iload_n hC dX0_stepsAhead_89 rfl ?_
          refine V.iadd hC dX0_stepsAhead_90 ?_
          refine V.iload_n hC dX0_stepsAhead_91 rfl ?_
          refine V.aload_n hC dX0_stepsAhead_92 rfl ?_
          refine gfX0_55 hd hC dX0_stepsAhead_93 ?_
          refine V.if_eq hC 103 dX0_stepsAhead_96 (by decide) (fun c_5 => ?_) (fun c_5 => ?_)
          · refine V.iconst hC 1 dX0_stepsAhead_103 (by decide) ?_
            refine V.imul hC dX0_stepsAhead_104 ?_
            refine V.iadd hC dX0_stepsAhead_105 ?_
            exact V.iret hC (by first | (simp [sAhead, c_1, c_2, c_3, c_4, dk_nle c_4, c_5]; done) | (simp_all [sAhead]; done)) dX0_stepsAhead_106
          · refine V.iconst hC 2 dX0_stepsAhead_99 (by decide) ?_
            refine V.goto hC 104 dX0_stepsAhead_100 (by decide) ?_
            refine V.imul hC dX0_stepsAhead_104 ?_
            refine V.iadd hC dX0_stepsAhead_105 ?_
            exact V.iret hC (by first | (simp [sAhead, c_1, c_2, c_3, c_4, dk_nle c_4, c_5]; done) | (simp_all [sAhead]; done)) dX0_stepsAhead_106
  · refine V.iconst hC 0 dX0_stepsAhead_7 (by decide) ?_
    exact V.iret hC (by first | (simp [sAhead, c_1]; done) | (simp_all [sAhead]; done)) dX0_stepsAhead_8
set_option maxHeartbeats 2000000 in
set_option maxRecDepth 20000 in
theorem c_X0_reformat {l : Launch} {G : dkG} {d : Nat} {M : dkM} (hd : dk_disk G d) {n : Int32}  : dk_Con l yX0_reformat cX0_reformat 3 (some .int) 3 66 G [.ref (G.1 + d), .int n] M (some (.int (dFormat M d n).1), (dFormat M d n).2) := by
  refine dk_Con.of mwX0_reformat.1 (Nat.le_of_ble_eq_true rfl) (fun E hE hC => ?_)
  subst hE
  refine V.iload_n hC dX0_reformat_0 rfl ?_
  refine V.iconst hC 4 dX0_reformat_1 (by decide) ?_
  refine V.icmp_lt hC 11 dX0_reformat_2 (by decide) (fun c_1 => ?_) (fun c_1 => ?_)
  · refine V.bipush hC (-2) dX0_reformat_11 (by decide) ?_
    exact V.iret hC (by first | (simp [dFormat, put_k, put_same, c_1, dk_lt1 c_1]; done) | (simp_all [dFormat, put_k, put_same]; done)) dX0_reformat_13
  · refine V.iload_n hC dX0_reformat_5 rfl ?_
    refine V.bipush hC 64 dX0_reformat_6 (by decide) ?_
    refine V.icmp_le hC 14 dX0_reformat_8 (by decide) (fun c_2 => ?_) (fun c_2 => ?_)
    · refine V.aload_n hC dX0_reformat_14 rfl ?_
      refine gfX0_32 hd hC dX0_reformat_15 ?_
      refine V.istore_n hC dX0_reformat_18 rfl rfl ?_
      refine V.aload_n hC dX0_reformat_19 rfl ?_
      refine V.iload_n hC dX0_reformat_20 rfl ?_
      refine pfX0_32 hd hC dX0_reformat_21 ?_
      refine V.aload_n hC dX0_reformat_24 rfl ?_
      refine V.iconst hC 0 dX0_reformat_25 (by decide) ?_
      refine pfX0_39 hd hC dX0_reformat_26 ?_
      refine V.aload_n hC dX0_reformat_29 rfl ?_
      refine V.callV0v hC (c_X0_closeZone hd) mwX0_closeZone mlX0_75 hd.s hd.k rfl ⟨rfl, rfl⟩ dX0_reformat_30 rfl ?_
      refine V.aload_n hC dX0_reformat_33 rfl ?_
      refine V.callV0v hC (c_X0_fillWithZeros hd) mwX0_fillWithZeros mlX0_68 hd.s hd.k rfl ⟨rfl, rfl⟩ dX0_reformat_34 rfl ?_
      refine V.iload_n hC dX0_reformat_37 rfl ?_
      exact V.iret hC (by first | (simp [dFormat, put_k, put_same, c_1, dk_nlt c_1, c_2, dk_le1 c_2]; done) | (simp_all [dFormat, put_k, put_same]; done)) dX0_reformat_38
    · refine V.bipush hC (-2) dX0_reformat_11 (by decide) ?_
      exact V.iret hC (by first | (simp [dFormat, put_k, put_same, c_1, dk_nlt c_1, c_2, dk_nle c_2]; done) | (simp_all [dFormat, put_k, put_same]; done)) dX0_reformat_13
set_option maxHeartbeats 2000000 in
set_option maxRecDepth 20000 in
theorem c_X0_insertKey {l : Launch} {G : dkG} {d : Nat} {M : dkM} (hd : dk_disk G d) {k : Int32} {c : Int32}  : dk_Con l yX0_insertKey cX0_insertKey 3 (some .int) 2 42 G [.ref (G.1 + d), .int k, .int c] M (some (.int (dAdd M d k c).1), (dAdd M d k c).2) := by
  refine dk_Con.of mwX0_insertKey.1 (Nat.le_of_ble_eq_true rfl) (fun E hE hC => ?_)
  subst hE
  refine V.iload_n hC dX0_insertKey_0 rfl ?_
  refine V.iconst hC 1 dX0_insertKey_1 (by decide) ?_
  refine V.icmp_lt hC 21 dX0_insertKey_2 (by decide) (fun c_1 => ?_) (fun c_1 => ?_)
  · refine V.bipush hC (-2) dX0_insertKey_21 (by decide) ?_
    exact V.iret hC (by first | (simp [dAdd, c_1, dk_lt1 c_1]; done) | (simp_all [dAdd]; done)) dX0_insertKey_23
  · refine V.iload_n hC dX0_insertKey_5 rfl ?_
    refine V.bipush hC 99 dX0_insertKey_6 (by decide) ?_
    refine V.icmp_gt hC 21 dX0_insertKey_8 (by decide) (fun c_2 => ?_) (fun c_2 => ?_)
    · refine V.bipush hC (-2) dX0_insertKey_21 (by decide) ?_
      exact V.iret hC (by first | (simp [dAdd, c_1, dk_nlt c_1, c_2, dk_lt1 c_2]; done) | (simp_all [dAdd]; done)) dX0_insertKey_23
    · refine V.iload_n hC dX0_insertKey_11 rfl ?_
      refine V.if_lt hC 21 dX0_insertKey_12 (by decide) (fun c_3 => ?_) (fun c_3 => ?_)
      · refine V.bipush hC (-2) dX0_insertKey_21 (by decide) ?_
        exact V.iret hC (by first | (simp [dAdd, c_1, dk_nlt c_1, c_2, dk_nlt c_2, c_3, dk_lt1 c_3]; done) | (simp_all [dAdd]; done)) dX0_insertKey_23
      · refine V.iload_n hC dX0_insertKey_15 rfl ?_
        refine V.ldc hC klX0_78 dX0_insertKey_16 ?_
        refine V.icmp_le hC 24 dX0_insertKey_18 (by decide) (fun c_4 => ?_) (fun c_4 => ?_)
        · refine V.aload_n hC dX0_insertKey_24 rfl ?_
          refine V.iload_n hC dX0_insertKey_25 rfl ?_
          refine V.callV1i hC (c_X0_hasKey hd) mwX0_hasKey mlX0_79 hd.s hd.k rfl ⟨rfl, rfl⟩ dX0_insertKey_26 rfl ?_
          refine V.if_eqB hC 35 dX0_insertKey_29 (by decide) (fun c_5 => ?_) (fun c_5 => ?_)
          · refine V.aload_n hC dX0_insertKey_35 rfl ?_
            refine gfX0_29 hd hC dX0_insertKey_36 ?_
            refine V.callV0i hC (c_X2_filled hd.r9) mwX2_filled mlX0_83 hd.r9.s hd.r9.k rfl ⟨rfl, rfl⟩ dX0_insertKey_39 rfl ?_
            refine V.bipush hC 8 dX0_insertKey_42 (by decide) ?_
            refine V.icmp_lt hC 50 dX0_insertKey_44 (by decide) (fun c_6 => ?_) (fun c_6 => ?_)
            · refine V.aload_n hC dX0_insertKey_50 rfl ?_
              refine gfX0_29 hd hC dX0_insertKey_51 ?_
              refine V.iload_n hC dX0_insertKey_54 rfl ?_
              refine V.iload_n hC dX0_insertKey_55 rfl ?_
              refine V.callV2v hC (c_X2_set hd.r9) mwX2_set mlX0_64 hd.r9.s hd.r9.k rfl ⟨rfl, rfl⟩ dX0_insertKey_56 rfl ?_
              refine V.aload_n hC dX0_insertKey_59 rfl ?_
              refine gfX0_29 hd hC dX0_insertKey_60 ?_
              refine V.callV0i hC (c_X2_filled hd.r9) mwX2_filled mlX0_83 hd.r9.s hd.r9.k rfl ⟨rfl, rfl⟩ dX0_insertKey_63 rfl ?_
              exact V.iret hC (by first | (simp [dAdd, c_1, dk_nlt c_1, c_2, dk_nlt c_2, c_3, dk_nlt c_3, c_4, dk_le1 c_4, c_5, c_6, dk_lt1 c_6]; done) | (simp_all [dAdd]; done)) dX0_insertKey_66
            · refine V.bipush hC (-4) dX0_insertKey_47 (by decide) ?_
              exact V.iret hC (by first | (simp [dAdd, c_1, dk_nlt c_1, c_2, dk_nlt c_2, c_3, dk_nlt c_3, c_4, dk_le1 c_4, c_5, c_6, dk_nlt c_6]; done) | (simp_all [dAdd]; done)) dX0_insertKey_49
          · refine V.bipush hC (-3) dX0_insertKey_32 (by decide) ?_
            exact V.iret hC (by first | (simp [dAdd, c_1, dk_nlt c_1, c_2, dk_nlt c_2, c_3, dk_nlt c_3, c_4, dk_le1 c_4, c_5]; done) | (simp_all [dAdd]; done)) dX0_insertKey_34
        · refine V.bipush hC (-2) dX0_insertKey_21 (by decide) ?_
          exact V.iret hC (by first | (simp [dAdd, c_1, dk_nlt c_1, c_2, dk_nlt c_2, c_3, dk_nlt c_3, c_4, dk_nle c_4]; done) | (simp_all [dAdd]; done)) dX0_insertKey_23
set_option maxHeartbeats 2000000 in
set_option maxRecDepth 20000 in
theorem c_X0_dropKey {l : Launch} {G : dkG} {d : Nat} {M : dkM} (hd : dk_disk G d) {k : Int32}  : dk_Con l yX0_dropKey cX0_dropKey 2 (some .int) 2 42 G [.ref (G.1 + d), .int k] M (some (.int (dDrop M d k).1), (dDrop M d k).2) := by
  refine dk_Con.of mwX0_dropKey.1 (Nat.le_of_ble_eq_true rfl) (fun E hE hC => ?_)
  subst hE
  refine V.aload_n hC dX0_dropKey_0 rfl ?_
  refine V.iload_n hC dX0_dropKey_1 rfl ?_
  refine V.callV1i hC (c_X0_hasKey hd) mwX0_hasKey mlX0_79 hd.s hd.k rfl ⟨rfl, rfl⟩ dX0_dropKey_2 rfl ?_
  refine V.if_neB hC 10 dX0_dropKey_5 (by decide) (fun c_1 => ?_) (fun c_1 => ?_)
  · refine V.iload_n hC dX0_dropKey_10 rfl ?_
    refine V.aload_n hC dX0_dropKey_11 rfl ?_
    refine gfX0_36 hd hC dX0_dropKey_12 ?_
    refine V.icmp_eq hC 26 dX0_dropKey_15 (by decide) (fun c_2 => ?_) (fun c_2 => ?_)
    · refine V.bipush hC (-3) dX0_dropKey_26 (by decide) ?_
      exact V.iret hC (by first | (simp [dDrop, c_1, c_2]; done) | (simp_all [dDrop]; done)) dX0_dropKey_28
    · refine V.iload_n hC dX0_dropKey_18 rfl ?_
      refine V.aload_n hC dX0_dropKey_19 rfl ?_
      refine gfX0_39 hd hC dX0_dropKey_20 ?_
      refine V.icmp_ne hC 29 dX0_dropKey_23 (by decide) (fun c_3 => ?_) (fun c_3 => ?_)
      · refine V.aload_n hC dX0_dropKey_29 rfl ?_
        refine gfX0_29 hd hC dX0_dropKey_30 ?_
        refine V.iload_n hC dX0_dropKey_33 rfl ?_
        refine V.iconst hC (-1) dX0_dropKey_34 (by decide) ?_
        refine V.callV2v hC (c_X2_set hd.r9) mwX2_set mlX0_64 hd.r9.s hd.r9.k rfl ⟨rfl, rfl⟩ dX0_dropKey_35 rfl ?_
        refine V.aload_n hC dX0_dropKey_38 rfl ?_
        refine gfX0_29 hd hC dX0_dropKey_39 ?_
        refine V.callV0i hC (c_X2_filled hd.r9) mwX2_filled mlX0_83 hd.r9.s hd.r9.k rfl ⟨rfl, rfl⟩ dX0_dropKey_42 rfl ?_
        exact V.iret hC (by first | (simp [dDrop, c_1, c_2, c_3]; done) | (simp_all [dDrop]; done)) dX0_dropKey_45
      · refine V.bipush hC (-3) dX0_dropKey_26 (by decide) ?_
        exact V.iret hC (by first | (simp [dDrop, c_1, c_2, c_3]; done) | (simp_all [dDrop]; done)) dX0_dropKey_28
  · refine V.iconst hC (-1) dX0_dropKey_8 (by decide) ?_
    exact V.iret hC (by first | (simp [dDrop, c_1]; done) | (simp_all [dDrop]; done)) dX0_dropKey_9
set_option maxHeartbeats 2000000 in
set_option maxRecDepth 20000 in
theorem c_X0_resizeZone {l : Launch} {G : dkG} {d : Nat} {M : dkM} (hd : dk_disk G d) {z : Int32}  : dk_Con l yX0_resizeZone cX0_resizeZone 3 (some .int) 2 42 G [.ref (G.1 + d), .int z] M (some (.int (dZone M d z).1), (dZone M d z).2) := by
  refine dk_Con.of mwX0_resizeZone.1 (Nat.le_of_ble_eq_true rfl) (fun E hE hC => ?_)
  subst hE
  refine V.iload_n hC dX0_resizeZone_0 rfl ?_
  refine V.iconst hC 1 dX0_resizeZone_1 (by decide) ?_
  refine V.icmp_lt hC 11 dX0_resizeZone_2 (by decide) (fun c_1 => ?_) (fun c_1 => ?_)
  · refine V.bipush hC (-2) dX0_resizeZone_11 (by decide) ?_
    exact V.iret hC (by first | (simp [dZone, c_1, dk_lt1 c_1]; done) | (simp_all [dZone]; done)) dX0_resizeZone_13
  · refine V.iload_n hC dX0_resizeZone_5 rfl ?_
    refine V.bipush hC 8 dX0_resizeZone_6 (by decide) ?_
    refine V.icmp_le hC 14 dX0_resizeZone_8 (by decide) (fun c_2 => ?_) (fun c_2 => ?_)
    · refine V.aload_n hC dX0_resizeZone_14 rfl ?_
      refine V.callV0i hC (c_X0_isZoneOpen hd) mwX0_isZoneOpen mlX0_87 hd.s hd.k rfl ⟨rfl, rfl⟩ dX0_resizeZone_15 rfl ?_
      refine V.if_eqB hC 24 dX0_resizeZone_18 (by decide) (fun c_3 => ?_) (fun c_3 => ?_)
      · refine V.aload_n hC dX0_resizeZone_24 rfl ?_
        refine gfX0_52 hd hC dX0_resizeZone_25 ?_
        refine V.istore_n hC dX0_resizeZone_28 rfl rfl ?_
        refine V.aload_n hC dX0_resizeZone_29 rfl ?_
        refine V.iload_n hC dX0_resizeZone_30 rfl ?_
        refine pfX0_52 hd hC dX0_resizeZone_31 ?_
        refine V.iload_n hC dX0_resizeZone_34 rfl ?_
        exact V.iret hC (by first | (simp [dZone, c_1, dk_nlt c_1, c_2, dk_le1 c_2, c_3]; done) | (simp_all [dZone]; done)) dX0_resizeZone_35
      · refine V.bipush hC (-3) dX0_resizeZone_21 (by decide) ?_
        exact V.iret hC (by first | (simp [dZone, c_1, dk_nlt c_1, c_2, dk_le1 c_2, c_3]; done) | (simp_all [dZone]; done)) dX0_resizeZone_23
    · refine V.bipush hC (-2) dX0_resizeZone_11 (by decide) ?_
      exact V.iret hC (by first | (simp [dZone, c_1, dk_nlt c_1, c_2, dk_nle c_2]; done) | (simp_all [dZone]; done)) dX0_resizeZone_13
set_option maxHeartbeats 2000000 in
set_option maxRecDepth 20000 in
theorem c_X0_switchJournal {l : Launch} {G : dkG} {d : Nat} {M : dkM} (hd : dk_disk G d) {on : Int32}  : dk_Con l yX0_switchJournal cX0_switchJournal 3 (some .int) 2 42 G [.ref (G.1 + d), .int on] M (some (.int (dJour M d on).1), (dJour M d on).2) := by
  refine dk_Con.of mwX0_switchJournal.1 (Nat.le_of_ble_eq_true rfl) (fun E hE hC => ?_)
  subst hE
  refine V.iload_n hC dX0_switchJournal_0 rfl ?_
  refine V.if_eq hC 12 dX0_switchJournal_1 (by decide) (fun c_1 => ?_) (fun c_1 => ?_)
  · refine V.aload_n hC dX0_switchJournal_12 rfl ?_
    refine V.callV0i hC (c_X0_isZoneOpen hd) mwX0_isZoneOpen mlX0_87 hd.s hd.k rfl ⟨rfl, rfl⟩ dX0_switchJournal_13 rfl ?_
    refine V.if_eqB hC 22 dX0_switchJournal_16 (by decide) (fun c_2 => ?_) (fun c_2 => ?_)
    · refine V.aload_n hC dX0_switchJournal_22 rfl ?_
      refine gfX0_55 hd hC dX0_switchJournal_23 ?_
      refine V.if_eq hC 33 dX0_switchJournal_26 (by decide) (fun c_3 => ?_) (fun c_3 => ?_)
      · refine V.iconst hC 0 dX0_switchJournal_33 (by decide) ?_
        refine V.istore_n hC dX0_switchJournal_34 rfl rfl ?_
        refine V.aload_n hC dX0_switchJournal_35 rfl ?_
        refine V.iload_n hC dX0_switchJournal_36 rfl ?_
        refine V.iconst hC 1 dX0_switchJournal_37 (by decide) ?_
        refine V.icmp_ne hC 45 dX0_switchJournal_38 (by decide) (fun c_4 => ?_) (fun c_4 => ?_)
        · refine V.iconst hC 0 dX0_switchJournal_45 (by decide) ?_
          refine pfX0_55 hd hC (by decide) dX0_switchJournal_46 ?_
          refine V.iload_n hC dX0_switchJournal_49 rfl ?_
          exact V.iret hC (by first | exact absurd c_1 c_2 | (simp_all [dJour]; done) | simp [dJour, c_1, c_2, c_3, c_4]) dX0_switchJournal_50
        · refine V.iconst hC 1 dX0_switchJournal_41 (by decide) ?_
          refine V.goto hC 46 dX0_switchJournal_42 (by decide) ?_
          refine pfX0_55 hd hC (by decide) dX0_switchJournal_46 ?_
          refine V.iload_n hC dX0_switchJournal_49 rfl ?_
          exact V.iret hC (by first | exact absurd c_1 c_2 | (simp_all [dJour]; done) | simp [dJour, c_1, c_2, c_3, c_4]) dX0_switchJournal_50
      · refine V.iconst hC 1 dX0_switchJournal_29 (by decide) ?_
        refine V.goto hC 34 dX0_switchJournal_30 (by decide) ?_
        refine V.istore_n hC dX0_switchJournal_34 rfl rfl ?_
        refine V.aload_n hC dX0_switchJournal_35 rfl ?_
        refine V.iload_n hC dX0_switchJournal_36 rfl ?_
        refine V.iconst hC 1 dX0_switchJournal_37 (by decide) ?_
        refine V.icmp_ne hC 45 dX0_switchJournal_38 (by decide) (fun c_4 => ?_) (fun c_4 => ?_)
        · refine V.iconst hC 0 dX0_switchJournal_45 (by decide) ?_
          refine pfX0_55 hd hC (by decide) dX0_switchJournal_46 ?_
          refine V.iload_n hC dX0_switchJournal_49 rfl ?_
          exact V.iret hC (by first | exact absurd c_1 c_2 | (simp_all [dJour]; done) | simp [dJour, c_1, c_2, c_3, c_4]) dX0_switchJournal_50
        · refine V.iconst hC 1 dX0_switchJournal_41 (by decide) ?_
          refine V.goto hC 46 dX0_switchJournal_42 (by decide) ?_
          refine pfX0_55 hd hC (by decide) dX0_switchJournal_46 ?_
          refine V.iload_n hC dX0_switchJournal_49 rfl ?_
          exact V.iret hC (by first | exact absurd c_1 c_2 | (simp_all [dJour]; done) | simp [dJour, c_1, c_2, c_3, c_4]) dX0_switchJournal_50
    · refine V.bipush hC (-3) dX0_switchJournal_19 (by decide) ?_
      exact V.iret hC (by first | exact absurd c_1 c_2 | (simp_all [dJour]; done) | simp [dJour, c_1, c_2]) dX0_switchJournal_21
  · refine V.iload_n hC dX0_switchJournal_4 rfl ?_
    refine V.iconst hC 1 dX0_switchJournal_5 (by decide) ?_
    refine V.icmp_eq hC 12 dX0_switchJournal_6 (by decide) (fun c_2 => ?_) (fun c_2 => ?_)
    · refine V.aload_n hC dX0_switchJournal_12 rfl ?_
      refine V.callV0i hC (c_X0_isZoneOpen hd) mwX0_isZoneOpen mlX0_87 hd.s hd.k rfl ⟨rfl, rfl⟩ dX0_switchJournal_13 rfl ?_
      refine V.if_eqB hC 22 dX0_switchJournal_16 (by decide) (fun c_3 => ?_) (fun c_3 => ?_)
      · refine V.aload_n hC dX0_switchJournal_22 rfl ?_
        refine gfX0_55 hd hC dX0_switchJournal_23 ?_
        refine V.if_eq hC 33 dX0_switchJournal_26 (by decide) (fun c_4 => ?_) (fun c_4 => ?_)
        · refine V.iconst hC 0 dX0_switchJournal_33 (by decide) ?_
          refine V.istore_n hC dX0_switchJournal_34 rfl rfl ?_
          refine V.aload_n hC dX0_switchJournal_35 rfl ?_
          refine V.iload_n hC dX0_switchJournal_36 rfl ?_
          refine V.iconst hC 1 dX0_switchJournal_37 (by decide) ?_
          refine V.icmp_ne hC 45 dX0_switchJournal_38 (by decide) (fun c_5 => ?_) (fun c_5 => ?_)
          · refine V.iconst hC 0 dX0_switchJournal_45 (by decide) ?_
            refine pfX0_55 hd hC (by decide) dX0_switchJournal_46 ?_
            refine V.iload_n hC dX0_switchJournal_49 rfl ?_
            exact V.iret hC (by first | exact absurd c_1 c_2 | (simp_all [dJour]; done) | simp [dJour, c_1, c_2, c_3, c_4, c_5]) dX0_switchJournal_50
          · refine V.iconst hC 1 dX0_switchJournal_41 (by decide) ?_
            refine V.goto hC 46 dX0_switchJournal_42 (by decide) ?_
            refine pfX0_55 hd hC (by decide) dX0_switchJournal_46 ?_
            refine V.iload_n hC dX0_switchJournal_49 rfl ?_
            exact V.iret hC (by first | exact absurd c_1 c_2 | (simp_all [dJour]; done) | simp [dJour, c_1, c_2, c_3, c_4, c_5]) dX0_switchJournal_50
        · refine V.iconst hC 1 dX0_switchJournal_29 (by decide) ?_
          refine V.goto hC 34 dX0_switchJournal_30 (by decide) ?_
          refine V.istore_n hC dX0_switchJournal_34 rfl rfl ?_
          refine V.aload_n hC dX0_switchJournal_35 rfl ?_
          refine V.iload_n hC dX0_switchJournal_36 rfl ?_
          refine V.iconst hC 1 dX0_switchJournal_37 (by decide) ?_
          refine V.icmp_ne hC 45 dX0_switchJournal_38 (by decide) (fun c_5 => ?_) (fun c_5 => ?_)
          · refine V.iconst hC 0 dX0_switchJournal_45 (by decide) ?_
            refine pfX0_55 hd hC (by decide) dX0_switchJournal_46 ?_
            refine V.iload_n hC dX0_switchJournal_49 rfl ?_
            exact V.iret hC (by first | exact absurd c_1 c_2 | (simp_all [dJour]; done) | simp [dJour, c_1, c_2, c_3, c_4, c_5]) dX0_switchJournal_50
          · refine V.iconst hC 1 dX0_switchJournal_41 (by decide) ?_
            refine V.goto hC 46 dX0_switchJournal_42 (by decide) ?_
            refine pfX0_55 hd hC (by decide) dX0_switchJournal_46 ?_
            refine V.iload_n hC dX0_switchJournal_49 rfl ?_
            exact V.iret hC (by first | exact absurd c_1 c_2 | (simp_all [dJour]; done) | simp [dJour, c_1, c_2, c_3, c_4, c_5]) dX0_switchJournal_50
      · refine V.bipush hC (-3) dX0_switchJournal_19 (by decide) ?_
        exact V.iret hC (by first | exact absurd c_1 c_2 | (simp_all [dJour]; done) | simp [dJour, c_1, c_2, c_3]) dX0_switchJournal_21
    · refine V.bipush hC (-2) dX0_switchJournal_9 (by decide) ?_
      exact V.iret hC (by first | exact absurd c_1 c_2 | (simp_all [dJour]; done) | simp [dJour, c_1, c_2]) dX0_switchJournal_11
set_option maxHeartbeats 2000000 in
set_option maxRecDepth 20000 in
theorem c_X0_begin {l : Launch} {G : dkG} {d : Nat} {M : dkM} (hd : dk_disk G d) {k : Int32}  : dk_Con l yX0_begin cX0_begin 2 (some .int) 4 85 G [.ref (G.1 + d), .int k] M (some (.int (dBegin M d k).1), (dBegin M d k).2) := by
  refine dk_Con.of mwX0_begin.1 (Nat.le_of_ble_eq_true rfl) (fun E hE hC => ?_)
  subst hE
  refine V.aload_n hC dX0_begin_0 rfl ?_
  refine V.iload_n hC dX0_begin_1 rfl ?_
  refine V.callV1i hC (c_X0_hasKey hd) mwX0_hasKey mlX0_79 hd.s hd.k rfl ⟨rfl, rfl⟩ dX0_begin_2 rfl ?_
  refine V.if_neB hC 10 dX0_begin_5 (by decide) (fun c_1 => ?_) (fun c_1 => ?_)
  · refine V.aload_n hC dX0_begin_10 rfl ?_
    refine V.callV0i hC (c_X0_isRekeying hd) mwX0_isRekeying mlX0_91 hd.s hd.k rfl ⟨rfl, rfl⟩ dX0_begin_11 rfl ?_
    refine V.if_neB hC 25 dX0_begin_14 (by decide) (fun c_2 => ?_) (fun c_2 => ?_)
    · refine V.bipush hC (-3) dX0_begin_25 (by decide) ?_
      exact V.iret hC (by first | (simp [dBegin, c_1, c_2]; done) | (simp_all [dBegin]; done)) dX0_begin_27
    · refine V.iload_n hC dX0_begin_17 rfl ?_
      refine V.aload_n hC dX0_begin_18 rfl ?_
      refine gfX0_36 hd hC dX0_begin_19 ?_
      refine V.icmp_ne hC 28 dX0_begin_22 (by decide) (fun c_3 => ?_) (fun c_3 => ?_)
      · refine V.aload_n hC dX0_begin_28 rfl ?_
        refine V.iload_n hC dX0_begin_29 rfl ?_
        refine pfX0_39 hd hC dX0_begin_30 ?_
        refine V.aload_n hC dX0_begin_33 rfl ?_
        refine V.iconst hC 1 dX0_begin_34 (by decide) ?_
        refine pfX0_42 hd hC (by decide) dX0_begin_35 ?_
        refine V.aload_n hC dX0_begin_38 rfl ?_
        refine V.iconst hC 0 dX0_begin_39 (by decide) ?_
        refine pfX0_46 hd hC dX0_begin_40 ?_
        refine V.aload_n hC dX0_begin_43 rfl ?_
        refine V.callV0i hC (c_X0_stepsAhead hd) mwX0_stepsAhead mlX0_94 hd.s hd.k rfl ⟨rfl, rfl⟩ dX0_begin_44 rfl ?_
        exact V.iret hC (by first | (simp [dBegin, c_1, c_2, c_3]; done) | (simp_all [dBegin]; done)) dX0_begin_47
      · refine V.bipush hC (-3) dX0_begin_25 (by decide) ?_
        exact V.iret hC (by first | (simp [dBegin, c_1, c_2, c_3]; done) | (simp_all [dBegin]; done)) dX0_begin_27
  · refine V.iconst hC (-1) dX0_begin_8 (by decide) ?_
    exact V.iret hC (by first | (simp [dBegin, c_1]; done) | (simp_all [dBegin]; done)) dX0_begin_9
set_option maxHeartbeats 2000000 in
set_option maxRecDepth 20000 in
theorem c_X0_turn {l : Launch} {G : dkG} {d : Nat} {M : dkM} (hd : dk_disk G d)  : dk_Con l yX0_turn cX0_turn 1 (some .int) 4 85 G [.ref (G.1 + d)] M (some (.int (dTurn M d).1), (dTurn M d).2) := by
  refine dk_Con.of mwX0_turn.1 (Nat.le_of_ble_eq_true rfl) (fun E hE hC => ?_)
  subst hE
  refine V.aload_n hC dX0_turn_0 rfl ?_
  refine V.callV0i hC (c_X0_isRekeying hd) mwX0_isRekeying mlX0_91 hd.s hd.k rfl ⟨rfl, rfl⟩ dX0_turn_1 rfl ?_
  refine V.if_eqB hC 14 dX0_turn_4 (by decide) (fun c_1 => ?_) (fun c_1 => ?_)
  · refine V.bipush hC (-3) dX0_turn_14 (by decide) ?_
    exact V.iret hC (by first | (simp [dTurn, c_1]; done) | (simp_all [dTurn]; done)) dX0_turn_16
  · refine V.aload_n hC dX0_turn_7 rfl ?_
    refine V.callV0i hC (c_X0_isZoneOpen hd) mwX0_isZoneOpen mlX0_87 hd.s hd.k rfl ⟨rfl, rfl⟩ dX0_turn_8 rfl ?_
    refine V.if_eqB hC 17 dX0_turn_11 (by decide) (fun c_2 => ?_) (fun c_2 => ?_)
    · refine V.aload_n hC dX0_turn_17 rfl ?_
      refine V.aload_n hC dX0_turn_18 rfl ?_
      refine gfX0_42 hd hC dX0_turn_19 ?_
      refine V.if_ne hC 29 dX0_turn_22 (by decide) (fun c_3 => ?_) (fun c_3 => ?_)
      · refine V.iconst hC 0 dX0_turn_29 (by decide) ?_
        refine pfX0_42 hd hC (by decide) dX0_turn_30 ?_
        refine V.aload_n hC dX0_turn_33 rfl ?_
        refine V.callV0v hC (c_X0_endIfThrough hd) mwX0_endIfThrough mlX0_100 hd.s hd.k rfl ⟨rfl, rfl⟩ dX0_turn_34 rfl ?_
        refine V.aload_n hC dX0_turn_37 rfl ?_
        refine V.callV0i hC (c_X0_stepsAhead hd) mwX0_stepsAhead mlX0_94 hd.s hd.k rfl ⟨rfl, rfl⟩ dX0_turn_38 rfl ?_
        exact V.iret hC (by first | (simp [dTurn, c_1, c_2, c_3]; done) | (simp_all [dTurn]; done)) dX0_turn_41
      · refine V.iconst hC 1 dX0_turn_25 (by decide) ?_
        refine V.goto hC 30 dX0_turn_26 (by decide) ?_
        refine pfX0_42 hd hC (by decide) dX0_turn_30 ?_
        refine V.aload_n hC dX0_turn_33 rfl ?_
        refine V.callV0v hC (c_X0_endIfThrough hd) mwX0_endIfThrough mlX0_100 hd.s hd.k rfl ⟨rfl, rfl⟩ dX0_turn_34 rfl ?_
        refine V.aload_n hC dX0_turn_37 rfl ?_
        refine V.callV0i hC (c_X0_stepsAhead hd) mwX0_stepsAhead mlX0_94 hd.s hd.k rfl ⟨rfl, rfl⟩ dX0_turn_38 rfl ?_
        exact V.iret hC (by first | (simp [dTurn, c_1, c_2, c_3]; done) | (simp_all [dTurn]; done)) dX0_turn_41
    · refine V.bipush hC (-3) dX0_turn_14 (by decide) ?_
      exact V.iret hC (by first | (simp [dTurn, c_1, c_2]; done) | (simp_all [dTurn]; done)) dX0_turn_16
set_option maxHeartbeats 2000000 in
set_option maxRecDepth 20000 in
theorem c_X0_put {l : Launch} {G : dkG} {d : Nat} {M : dkM} (hd : dk_disk G d) {s : Int32} {v : Int32}  : dk_Con l yX0_put cX0_put 3 (some .int) 1 22 G [.ref (G.1 + d), .int s, .int v] M (some (.int (dPut M d s v).1), (dPut M d s v).2) := by
  refine dk_Con.of mwX0_put.1 (Nat.le_of_ble_eq_true rfl) (fun E hE hC => ?_)
  subst hE
  refine V.aload_n hC dX0_put_0 rfl ?_
  refine V.iload_n hC dX0_put_1 rfl ?_
  refine V.callV1i hC (c_X0_hasSector hd) mwX0_hasSector mlX0_103 hd.s hd.k rfl ⟨rfl, rfl⟩ dX0_put_2 rfl ?_
  refine V.if_neB hC 10 dX0_put_5 (by decide) (fun c_1 => ?_) (fun c_1 => ?_)
  · refine V.iload_n hC dX0_put_10 rfl ?_
    refine V.if_lt hC 20 dX0_put_11 (by decide) (fun c_2 => ?_) (fun c_2 => ?_)
    · refine V.bipush hC (-2) dX0_put_20 (by decide) ?_
      exact V.iret hC (by first | (simp [dPut, c_1, c_2, dk_lt1 c_2]; done) | (simp_all [dPut]; done)) dX0_put_22
    · refine V.iload_n hC dX0_put_14 rfl ?_
      refine V.ldc hC klX0_78 dX0_put_15 ?_
      refine V.icmp_le hC 23 dX0_put_17 (by decide) (fun c_3 => ?_) (fun c_3 => ?_)
      · refine V.aload_n hC dX0_put_23 rfl ?_
        refine gfX0_23 hd hC dX0_put_24 ?_
        refine V.iload_n hC dX0_put_27 rfl ?_
        refine V.callV1i hC (c_X2_get hd.r5) mwX2_get mlX0_106 hd.r5.s hd.r5.k rfl ⟨rfl, rfl⟩ dX0_put_28 rfl ?_
        refine V.iconst hC (-1) dX0_put_31 (by decide) ?_
        refine V.icmp_ne hC 50 dX0_put_32 (by decide) (fun c_4 => ?_) (fun c_4 => ?_)
        · refine V.aload_n hC dX0_put_50 rfl ?_
          refine gfX0_23 hd hC dX0_put_51 ?_
          refine V.iload_n hC dX0_put_54 rfl ?_
          refine V.iload_n hC dX0_put_55 rfl ?_
          refine V.callV2v hC (c_X2_set hd.r5) mwX2_set mlX0_64 hd.r5.s hd.r5.k rfl ⟨rfl, rfl⟩ dX0_put_56 rfl ?_
          refine V.aload_n hC dX0_put_59 rfl ?_
          refine gfX0_20 hd hC dX0_put_60 ?_
          refine V.iload_n hC dX0_put_63 rfl ?_
          refine V.iload_n hC dX0_put_64 rfl ?_
          refine V.callV2v hC (c_X2_set hd.r3) mwX2_set mlX0_64 hd.r3.s hd.r3.k rfl ⟨rfl, rfl⟩ dX0_put_65 rfl ?_
          refine V.aload_n hC dX0_put_68 rfl ?_
          refine gfX0_23 hd hC dX0_put_69 ?_
          refine V.callV0i hC (c_X2_filled hd.r5) mwX2_filled mlX0_83 hd.r5.s hd.r5.k rfl ⟨rfl, rfl⟩ dX0_put_72 rfl ?_
          exact V.iret hC (by first | (simp [dPut, c_1, c_2, dk_nlt c_2, c_3, dk_le1 c_3, c_4]; done) | (simp_all [dPut]; done)) dX0_put_75
        · refine V.aload_n hC dX0_put_35 rfl ?_
          refine gfX0_23 hd hC dX0_put_36 ?_
          refine V.callV0i hC (c_X2_filled hd.r5) mwX2_filled mlX0_83 hd.r5.s hd.r5.k rfl ⟨rfl, rfl⟩ dX0_put_39 rfl ?_
          refine V.bipush hC 8 dX0_put_42 (by decide) ?_
          refine V.icmp_lt hC 50 dX0_put_44 (by decide) (fun c_5 => ?_) (fun c_5 => ?_)
          · refine V.aload_n hC dX0_put_50 rfl ?_
            refine gfX0_23 hd hC dX0_put_51 ?_
            refine V.iload_n hC dX0_put_54 rfl ?_
            refine V.iload_n hC dX0_put_55 rfl ?_
            refine V.callV2v hC (c_X2_set hd.r5) mwX2_set mlX0_64 hd.r5.s hd.r5.k rfl ⟨rfl, rfl⟩ dX0_put_56 rfl ?_
            refine V.aload_n hC dX0_put_59 rfl ?_
            refine gfX0_20 hd hC dX0_put_60 ?_
            refine V.iload_n hC dX0_put_63 rfl ?_
            refine V.iload_n hC dX0_put_64 rfl ?_
            refine V.callV2v hC (c_X2_set hd.r3) mwX2_set mlX0_64 hd.r3.s hd.r3.k rfl ⟨rfl, rfl⟩ dX0_put_65 rfl ?_
            refine V.aload_n hC dX0_put_68 rfl ?_
            refine gfX0_23 hd hC dX0_put_69 ?_
            refine V.callV0i hC (c_X2_filled hd.r5) mwX2_filled mlX0_83 hd.r5.s hd.r5.k rfl ⟨rfl, rfl⟩ dX0_put_72 rfl ?_
            exact V.iret hC (by first | (simp [dPut, c_1, c_2, dk_nlt c_2, c_3, dk_le1 c_3, c_4, c_5, dk_lt1 c_5]; done) | (simp_all [dPut]; done)) dX0_put_75
          · refine V.bipush hC (-4) dX0_put_47 (by decide) ?_
            exact V.iret hC (by first | (simp [dPut, c_1, c_2, dk_nlt c_2, c_3, dk_le1 c_3, c_4, c_5, dk_nlt c_5]; done) | (simp_all [dPut]; done)) dX0_put_49
      · refine V.bipush hC (-2) dX0_put_20 (by decide) ?_
        exact V.iret hC (by first | (simp [dPut, c_1, c_2, dk_nlt c_2, c_3, dk_nle c_3]; done) | (simp_all [dPut]; done)) dX0_put_22
  · refine V.iconst hC (-1) dX0_put_8 (by decide) ?_
    exact V.iret hC (by first | (simp [dPut, c_1]; done) | (simp_all [dPut]; done)) dX0_put_9
set_option maxHeartbeats 2000000 in
set_option maxRecDepth 20000 in
theorem c_X0_advance {l : Launch} {G : dkG} {d : Nat} {M : dkM} (hd : dk_disk G d) {st : Int32} (hI : dI M d) : dk_Con l yX0_advance cX0_advance 3 (some .int) 4 89 G [.ref (G.1 + d), .int st] M (some (.int (dAdv M d st).1), (dAdv M d st).2) := by
  refine dk_Con.of mwX0_advance.1 (Nat.le_of_ble_eq_true rfl) (fun E hE hC => ?_)
  subst hE
  have loop_27 : ∀ (n : Nat) (k : Nat) (M1 : dkM), (¬ st < 1) → (¬ 999 < st) → (isRek M d = true) → (dI M1 d) → (k ≤ ix st) → (ix st < k + n) → (advL d (ix st - k) M1 k = advL d (ix st) M 0) →  V E G 3 (some (.int (dAdv M d st).1), (dAdv M d st).2) (M1) 27 [(0, some (.ref (G.1 + d))), (1, some (.int st)), (2, some (.int (nI k)))] [] := by
    intro n
    induction n with
    | zero => intro k M1 h1 h2 h3 hI1 hk hn hT; exact absurd hn (by omega)
    | succ n ih_27 =>
      intro k M1 h1 h2 h3 hI1 hk hn hT
      have hsz := ix_lt st
      refine V.iload_n hC dX0_advance_27 rfl ?_
      refine V.iload_n hC dX0_advance_28 rfl ?_
      refine V.icmp_ge hC 49 dX0_advance_29 (by decide) (fun c_1 => ?_) (fun c_1 => ?_)
      · have hke : k = ix st := by have := (dk_gek (k := k) (by omega)).mp c_1; omega
        refine V.iload_n hC dX0_advance_49 rfl ?_
        exact V.iret hC (by first | (rw [hke, Nat.sub_self, advL] at hT; simp only [dAdv, h1, h2, h3, if_true, if_false, ← hT]; rw [hke]; done) | (simp only [dAdv, h1, h2, h3, if_true, if_false, ← hT]; done)) dX0_advance_50
      · have hkl : k < ix st := by have := mt (dk_gek (k := k) (by omega)).mpr c_1; omega
        refine V.aload_n hC dX0_advance_32 rfl ?_
        refine V.callV0i hC (c_X0_isRekeying hd) mwX0_isRekeying mlX0_91 hd.s hd.k rfl ⟨rfl, rfl⟩ dX0_advance_33 rfl ?_
        refine V.if_eqB hC 49 dX0_advance_36 (by decide) (fun c_2 => ?_) (fun c_2 => ?_)
        · rw [show ix st - k = ix st - (k + 1) + 1 by omega, advL, if_neg (by rw [c_2]; decide)] at hT
          refine V.iload_n hC dX0_advance_49 rfl ?_
          exact V.iret hC (by first | (rw [hke, Nat.sub_self, advL] at hT; simp only [dAdv, h1, h2, h3, if_true, if_false, ← hT]; rw [hke]; done) | (simp only [dAdv, h1, h2, h3, if_true, if_false, ← hT]; done)) dX0_advance_50
        · refine V.aload_n hC dX0_advance_39 rfl ?_
          refine V.callV0v hC (c_X0_makeStep hd hI1) mwX0_makeStep mlX0_97 hd.s hd.k rfl ⟨rfl, rfl⟩ dX0_advance_40 rfl ?_
          refine V.iinc hC dX0_advance_43 rfl (dk_incN _) rfl ?_
          refine V.goto hC 27 dX0_advance_46 (by decide) ?_
          exact V.sub (dk_sc rfl (dk_sc rfl (dk_sc rfl (dk_sn)))) (ih_27 (k + 1) (dStep M1 d) h1 h2 h3 (dI_step hI1) (by omega) (by omega) (by rw [show ix st - k = ix st - (k + 1) + 1 by omega, advL, if_pos c_2] at hT; exact hT))
  refine V.iload_n hC dX0_advance_0 rfl ?_
  refine V.iconst hC 1 dX0_advance_1 (by decide) ?_
  refine V.icmp_lt hC 12 dX0_advance_2 (by decide) (fun c_1 => ?_) (fun c_1 => ?_)
  · refine V.bipush hC (-2) dX0_advance_12 (by decide) ?_
    exact V.iret hC (by first | (simp [dAdv, c_1, dk_lt1 c_1]; done) | (simp_all [dAdv]; done)) dX0_advance_14
  · refine V.iload_n hC dX0_advance_5 rfl ?_
    refine V.sipush hC 999 dX0_advance_6 (by decide) ?_
    refine V.icmp_le hC 15 dX0_advance_9 (by decide) (fun c_2 => ?_) (fun c_2 => ?_)
    · refine V.aload_n hC dX0_advance_15 rfl ?_
      refine V.callV0i hC (c_X0_isRekeying hd) mwX0_isRekeying mlX0_91 hd.s hd.k rfl ⟨rfl, rfl⟩ dX0_advance_16 rfl ?_
      refine V.if_neB hC 25 dX0_advance_19 (by decide) (fun c_3 => ?_) (fun c_3 => ?_)
      · refine V.iconst hC 0 dX0_advance_25 (by decide) ?_
        refine V.istore_n hC dX0_advance_26 rfl rfl ?_
        exact V.sub (dk_sc rfl (dk_sc rfl (dk_sc rfl (dk_sn)))) (loop_27 (ix st + 1) 0 M c_1 (dk_le1 c_2) c_3 hI (Nat.zero_le _) (by omega) rfl)
      · refine V.bipush hC (-3) dX0_advance_22 (by decide) ?_
        exact V.iret hC (by first | (simp [dAdv, c_1, dk_nlt c_1, c_2, dk_le1 c_2, c_3]; done) | (simp_all [dAdv]; done)) dX0_advance_24
    · refine V.bipush hC (-2) dX0_advance_12 (by decide) ?_
      exact V.iret hC (by first | (simp [dAdv, c_1, dk_nlt c_1, c_2, dk_nle c_2]; done) | (simp_all [dAdv]; done)) dX0_advance_14
set_option maxHeartbeats 2000000 in
set_option maxRecDepth 20000 in
theorem c_X0_obey {l : Launch} {G : dkG} {d : Nat} {M : dkM} (hd : dk_disk G d) {c : Int32} {s : Int32} {v : Int32} (hI : dI M d) : dk_Con l yX0_obey cX0_obey 4 (some .int) 5 111 G [.ref (G.1 + d), .int c, .int s, .int v] M (some (.int (dObey M d c s v).1), (dObey M d c s v).2) := by
  refine dk_Con.of mwX0_obey.1 (Nat.le_of_ble_eq_true rfl) (fun E hE hC => ?_)
  subst hE
  refine V.iload_n hC dX0_obey_0 rfl ?_
  by_cases c_1_0 : c = 98
  · refine V.swi hC 75 dX0_obey_1 (by decide) (by rw [c_1_0]; decide) ?_
    refine V.aload_n hC dX0_obey_75 rfl ?_
    refine V.callV0i hC (c_X0_turn hd) mwX0_turn mlX0_141 hd.s hd.k rfl ⟨rfl, rfl⟩ dX0_obey_76 rfl ?_
    exact V.iret hC (by first | (simp [dObey, c_1_0]; done) | (simp_all [dObey]; done)) dX0_obey_79
  by_cases c_1_1 : c = 102
  · refine V.swi hC 59 dX0_obey_1 (by decide) (by rw [c_1_1]; decide) ?_
    refine V.aload_n hC dX0_obey_59 rfl ?_
    refine V.callV0i hC (c_X0_flushCache hd) mwX0_flushCache mlX0_132 hd.s hd.k rfl ⟨rfl, rfl⟩ dX0_obey_60 rfl ?_
    exact V.iret hC (by first | (simp [dObey, c_1_0, c_1_1]; done) | (simp_all [dObey]; done)) dX0_obey_63
  by_cases c_1_2 : c = 115
  · refine V.swi hC 64 dX0_obey_1 (by decide) (by rw [c_1_2]; decide) ?_
    refine V.aload_n hC dX0_obey_64 rfl ?_
    refine V.iload_n hC dX0_obey_65 rfl ?_
    refine V.callV1i hC (c_X0_advance hd hI) mwX0_advance mlX0_135 hd.s hd.k rfl ⟨rfl, rfl⟩ dX0_obey_66 rfl ?_
    exact V.iret hC (by first | (simp [dObey, c_1_0, c_1_1, c_1_2]; done) | (simp_all [dObey]; done)) dX0_obey_69
  by_cases c_1_3 : c = 119
  · refine V.swi hC 52 dX0_obey_1 (by decide) (by rw [c_1_3]; decide) ?_
    refine V.aload_n hC dX0_obey_52 rfl ?_
    refine V.iload_n hC dX0_obey_53 rfl ?_
    refine V.iload_n hC dX0_obey_54 rfl ?_
    refine V.callV2i hC (c_X0_put hd) mwX0_put mlX0_128 hd.s hd.k rfl ⟨rfl, rfl⟩ dX0_obey_55 rfl ?_
    exact V.iret hC (by first | (simp [dObey, c_1_0, c_1_1, c_1_2, c_1_3]; done) | (simp_all [dObey]; done)) dX0_obey_58
  by_cases c_1_4 : c = 120
  · refine V.swi hC 70 dX0_obey_1 (by decide) (by rw [c_1_4]; decide) ?_
    refine V.aload_n hC dX0_obey_70 rfl ?_
    refine V.callV0i hC (c_X0_losePower hd) mwX0_losePower mlX0_138 hd.s hd.k rfl ⟨rfl, rfl⟩ dX0_obey_71 rfl ?_
    exact V.iret hC (by first | (simp [dObey, c_1_0, c_1_1, c_1_2, c_1_3, c_1_4]; done) | (simp_all [dObey]; done)) dX0_obey_74
  refine V.swi hC 80 dX0_obey_1 (by decide) (by rw [(dk_off_ne c_1_0 (by decide)).trans ((dk_off_ne c_1_1 (by decide)).trans ((dk_off_ne c_1_2 (by decide)).trans ((dk_off_ne c_1_3 (by decide)).trans ((dk_off_ne c_1_4 (by decide)).trans (rfl)))))]; rfl) ?_
  refine V.bipush hC (-5) dX0_obey_80 (by decide) ?_
  exact V.iret hC (by first | (simp [dObey, c_1_0, c_1_1, c_1_2, c_1_3, c_1_4]; done) | (simp_all [dObey]; done)) dX0_obey_82
set_option maxHeartbeats 2000000 in
set_option maxRecDepth 20000 in
theorem c_X0_numberOfRekeying {l : Launch} {G : dkG} {d : Nat} {M : dkM} (hd : dk_disk G d) {w : Int32}  : dk_Con l yX0_numberOfRekeying cX0_numberOfRekeying 2 (some .int) 1 20 G [.ref (G.1 + d), .int w] M (some (.int (dNumR M d w)), M) := by
  refine dk_Con.of mwX0_numberOfRekeying.1 (Nat.le_of_ble_eq_true rfl) (fun E hE hC => ?_)
  subst hE
  refine V.aload_n hC dX0_numberOfRekeying_0 rfl ?_
  refine V.callV0i hC (c_X0_isRekeying hd) mwX0_isRekeying mlX0_91 hd.s hd.k rfl ⟨rfl, rfl⟩ dX0_numberOfRekeying_1 rfl ?_
  refine V.if_neB hC 10 dX0_numberOfRekeying_4 (by decide) (fun c_1 => ?_) (fun c_1 => ?_)
  · refine V.iload_n hC dX0_numberOfRekeying_10 rfl ?_
    refine V.iconst hC 2 dX0_numberOfRekeying_11 (by decide) ?_
    refine V.icmp_ne hC 20 dX0_numberOfRekeying_12 (by decide) (fun c_2 => ?_) (fun c_2 => ?_)
    · refine V.iload_n hC dX0_numberOfRekeying_20 rfl ?_
      refine V.iconst hC 3 dX0_numberOfRekeying_21 (by decide) ?_
      refine V.icmp_ne hC 30 dX0_numberOfRekeying_22 (by decide) (fun c_3 => ?_) (fun c_3 => ?_)
      · refine V.aload_n hC dX0_numberOfRekeying_30 rfl ?_
        refine gfX0_42 hd hC dX0_numberOfRekeying_31 ?_
        refine V.if_eq hC 41 dX0_numberOfRekeying_34 (by decide) (fun c_4 => ?_) (fun c_4 => ?_)
        · refine V.iconst hC 0 dX0_numberOfRekeying_41 (by decide) ?_
          exact V.iret hC (by first | (simp [dNumR, c_1, c_2, c_3, c_4]; done) | (simp_all [dNumR]; done)) dX0_numberOfRekeying_42
        · refine V.iconst hC 1 dX0_numberOfRekeying_37 (by decide) ?_
          refine V.goto hC 42 dX0_numberOfRekeying_38 (by decide) ?_
          exact V.iret hC (by first | (simp [dNumR, c_1, c_2, c_3, c_4]; done) | (simp_all [dNumR]; done)) dX0_numberOfRekeying_42
      · refine V.aload_n hC dX0_numberOfRekeying_25 rfl ?_
        refine gfX0_46 hd hC dX0_numberOfRekeying_26 ?_
        exact V.iret hC (by first | (simp [dNumR, c_1, c_2, c_3]; done) | (simp_all [dNumR]; done)) dX0_numberOfRekeying_29
    · refine V.aload_n hC dX0_numberOfRekeying_15 rfl ?_
      refine gfX0_39 hd hC dX0_numberOfRekeying_16 ?_
      exact V.iret hC (by first | (simp [dNumR, c_1, c_2]; done) | (simp_all [dNumR]; done)) dX0_numberOfRekeying_19
  · refine V.bipush hC (-6) dX0_numberOfRekeying_7 (by decide) ?_
    exact V.iret hC (by first | (simp [dNumR, c_1]; done) | (simp_all [dNumR]; done)) dX0_numberOfRekeying_9
set_option maxHeartbeats 2000000 in
set_option maxRecDepth 20000 in
theorem c_X0_number {l : Launch} {G : dkG} {d : Nat} {M : dkM} (hd : dk_disk G d) {w : Int32}  : dk_Con l yX0_number cX0_number 2 (some .int) 1 22 G [.ref (G.1 + d), .int w] M (some (.int (dNum M d w)), M) := by
  refine dk_Con.of mwX0_number.1 (Nat.le_of_ble_eq_true rfl) (fun E hE hC => ?_)
  subst hE
  refine V.iload_n hC dX0_number_0 rfl ?_
  by_cases c_1_0 : w = 0
  · refine V.swt hC 68 dX0_number_1 (by rw [c_1_0]; decide) ?_
    refine V.aload_n hC dX0_number_68 rfl ?_
    refine gfX0_32 hd hC dX0_number_69 ?_
    exact V.iret hC (by first | (simp [dNum, c_1_0]; done) | (simp_all [dNum]; done)) dX0_number_72
  by_cases c_1_1 : w = 1
  · refine V.swt hC 73 dX0_number_1 (by rw [c_1_1]; decide) ?_
    refine V.aload_n hC dX0_number_73 rfl ?_
    refine gfX0_36 hd hC dX0_number_74 ?_
    exact V.iret hC (by first | (simp [dNum, c_1_0, c_1_1]; done) | (simp_all [dNum]; done)) dX0_number_77
  by_cases c_1_2 : w = 5
  · refine V.swt hC 78 dX0_number_1 (by rw [c_1_2]; decide) ?_
    refine V.aload_n hC dX0_number_78 rfl ?_
    refine gfX0_49 hd hC dX0_number_79 ?_
    exact V.iret hC (by first | (simp [dNum, c_1_0, c_1_1, c_1_2]; done) | (simp_all [dNum]; done)) dX0_number_82
  by_cases c_1_3 : w = 6
  · refine V.swt hC 83 dX0_number_1 (by rw [c_1_3]; decide) ?_
    refine V.aload_n hC dX0_number_83 rfl ?_
    refine gfX0_26 hd hC dX0_number_84 ?_
    refine V.callV0i hC (c_X2_filled hd.r7) mwX2_filled mlX0_83 hd.r7.s hd.r7.k rfl ⟨rfl, rfl⟩ dX0_number_87 rfl ?_
    exact V.iret hC (by first | (simp [dNum, c_1_0, c_1_1, c_1_2, c_1_3]; done) | (simp_all [dNum]; done)) dX0_number_90
  by_cases c_1_4 : w = 7
  · refine V.swt hC 91 dX0_number_1 (by rw [c_1_4]; decide) ?_
    refine V.aload_n hC dX0_number_91 rfl ?_
    refine gfX0_23 hd hC dX0_number_92 ?_
    refine V.callV0i hC (c_X2_filled hd.r5) mwX2_filled mlX0_83 hd.r5.s hd.r5.k rfl ⟨rfl, rfl⟩ dX0_number_95 rfl ?_
    exact V.iret hC (by first | (simp [dNum, c_1_0, c_1_1, c_1_2, c_1_3, c_1_4]; done) | (simp_all [dNum]; done)) dX0_number_98
  by_cases c_1_5 : w = 8
  · refine V.swt hC 99 dX0_number_1 (by rw [c_1_5]; decide) ?_
    refine V.aload_n hC dX0_number_99 rfl ?_
    refine gfX0_52 hd hC dX0_number_100 ?_
    exact V.iret hC (by first | (simp [dNum, c_1_0, c_1_1, c_1_2, c_1_3, c_1_4, c_1_5]; done) | (simp_all [dNum]; done)) dX0_number_103
  by_cases c_1_6 : w = 9
  · refine V.swt hC 104 dX0_number_1 (by rw [c_1_6]; decide) ?_
    refine V.aload_n hC dX0_number_104 rfl ?_
    refine gfX0_55 hd hC dX0_number_105 ?_
    refine V.if_eq hC 115 dX0_number_108 (by decide) (fun c_8 => ?_) (fun c_8 => ?_)
    · refine V.iconst hC 0 dX0_number_115 (by decide) ?_
      exact V.iret hC (by first | (simp [dNum, c_1_0, c_1_1, c_1_2, c_1_3, c_1_4, c_1_5, c_1_6, c_8]; done) | (simp_all [dNum]; done)) dX0_number_116
    · refine V.iconst hC 1 dX0_number_111 (by decide) ?_
      refine V.goto hC 116 dX0_number_112 (by decide) ?_
      exact V.iret hC (by first | (simp [dNum, c_1_0, c_1_1, c_1_2, c_1_3, c_1_4, c_1_5, c_1_6, c_8]; done) | (simp_all [dNum]; done)) dX0_number_116
  by_cases c_1_7 : w = 10
  · refine V.swt hC 117 dX0_number_1 (by rw [c_1_7]; decide) ?_
    refine V.aload_n hC dX0_number_117 rfl ?_
    refine gfX0_29 hd hC dX0_number_118 ?_
    refine V.callV0i hC (c_X2_filled hd.r9) mwX2_filled mlX0_83 hd.r9.s hd.r9.k rfl ⟨rfl, rfl⟩ dX0_number_121 rfl ?_
    exact V.iret hC (by first | (simp [dNum, c_1_0, c_1_1, c_1_2, c_1_3, c_1_4, c_1_5, c_1_6, c_1_7]; done) | (simp_all [dNum]; done)) dX0_number_124
  by_cases c_1_8 : w = 11
  · refine V.swt hC 125 dX0_number_1 (by rw [c_1_8]; decide) ?_
    refine V.aload_n hC dX0_number_125 rfl ?_
    refine gfX0_58 hd hC dX0_number_126 ?_
    exact V.iret hC (by first | (simp [dNum, c_1_0, c_1_1, c_1_2, c_1_3, c_1_4, c_1_5, c_1_6, c_1_7, c_1_8]; done) | (simp_all [dNum]; done)) dX0_number_129
  by_cases c_1_9 : w = 12
  · refine V.swt hC 130 dX0_number_1 (by rw [c_1_9]; decide) ?_
    refine V.aload_n hC dX0_number_130 rfl ?_
    refine gfX0_61 hd hC dX0_number_131 ?_
    exact V.iret hC (by first | (simp [dNum, c_1_0, c_1_1, c_1_2, c_1_3, c_1_4, c_1_5, c_1_6, c_1_7, c_1_8, c_1_9]; done) | (simp_all [dNum]; done)) dX0_number_134
  refine V.swd hC 135 dX0_number_1 (by decide) (fun h1 h2 => by
      have q0 := dk_neL c_1_0 (show _ = (0 : Int) by decide)
      have q1 := dk_neL c_1_1 (show _ = (1 : Int) by decide)
      have q2 := dk_neL c_1_2 (show _ = (5 : Int) by decide)
      have q3 := dk_neL c_1_3 (show _ = (6 : Int) by decide)
      have q4 := dk_neL c_1_4 (show _ = (7 : Int) by decide)
      have q5 := dk_neL c_1_5 (show _ = (8 : Int) by decide)
      have q6 := dk_neL c_1_6 (show _ = (9 : Int) by decide)
      have q7 := dk_neL c_1_7 (show _ = (10 : Int) by decide)
      have q8 := dk_neL c_1_8 (show _ = (11 : Int) by decide)
      have q9 := dk_neL c_1_9 (show _ = (12 : Int) by decide)
      have e : w.toInt = 2 ∨ w.toInt = 3 ∨ w.toInt = 4 := by omega
      rcases e with e | e | e <;> rw [e] <;> rfl) ?_
  refine V.bipush hC (-2) dX0_number_135 (by decide) ?_
  exact V.iret hC (by first | (simp [dNum, c_1_0, c_1_1, c_1_2, c_1_3, c_1_4, c_1_5, c_1_6, c_1_7, c_1_8, c_1_9]; done) | (simp_all [dNum]; done)) dX0_number_137
set_option maxHeartbeats 2000000 in
set_option maxRecDepth 20000 in
theorem c_X0_takeOver {l : Launch} {G : dkG} {d : Nat} {M : dkM} (hd : dk_disk G d) {e : Nat} (he : dk_disk G e) (ha : apart d e) (hz : dZ M e) : dk_Con l yX0_takeOver cX0_takeOver 2 none 2 43 G [.ref (G.1 + d), .ref (G.1 + e)] M (none, dCopy M d e) := by
  refine dk_Con.of mwX0_takeOver.1 (Nat.le_of_ble_eq_true rfl) (fun E hE hC => ?_)
  subst hE
  have hne : e ≠ d := by unfold apart at ha; omega
  have hab := ha
  unfold apart at hab
  have ht : dTake M d e e = M e := dTake_ne ha (by omega)
  refine V.aload_n hC dX0_takeOver_0 rfl ?_
  refine gfX0_14 hd hC dX0_takeOver_1 ?_
  refine V.aload_n hC dX0_takeOver_4 rfl ?_
  refine gfX0_14 he hC dX0_takeOver_5 ?_
  refine V.callV1v hC (c_X2_takeOver hd.r1 he.r1 (by omega)) mwX2_takeOver mlX0_71 hd.r1.s hd.r1.k rfl ⟨rfl, rfl⟩ dX0_takeOver_8 rfl ?_
  refine V.aload_n hC dX0_takeOver_11 rfl ?_
  refine gfX0_20 hd hC dX0_takeOver_12 ?_
  refine V.aload_n hC dX0_takeOver_15 rfl ?_
  refine gfX0_20 he hC dX0_takeOver_16 ?_
  refine V.callV1v hC (c_X2_takeOver hd.r3 he.r3 (by omega)) mwX2_takeOver mlX0_71 hd.r3.s hd.r3.k rfl ⟨rfl, rfl⟩ dX0_takeOver_19 rfl ?_
  refine V.aload_n hC dX0_takeOver_22 rfl ?_
  refine gfX0_23 hd hC dX0_takeOver_23 ?_
  refine V.aload_n hC dX0_takeOver_26 rfl ?_
  refine gfX0_23 he hC dX0_takeOver_27 ?_
  refine V.callV1v hC (c_X2_takeOver hd.r5 he.r5 (by omega)) mwX2_takeOver mlX0_71 hd.r5.s hd.r5.k rfl ⟨rfl, rfl⟩ dX0_takeOver_30 rfl ?_
  refine V.aload_n hC dX0_takeOver_33 rfl ?_
  refine gfX0_26 hd hC dX0_takeOver_34 ?_
  refine V.aload_n hC dX0_takeOver_37 rfl ?_
  refine gfX0_26 he hC dX0_takeOver_38 ?_
  refine V.callV1v hC (c_X2_takeOver hd.r7 he.r7 (by omega)) mwX2_takeOver mlX0_71 hd.r7.s hd.r7.k rfl ⟨rfl, rfl⟩ dX0_takeOver_41 rfl ?_
  refine V.aload_n hC dX0_takeOver_44 rfl ?_
  refine gfX0_29 hd hC dX0_takeOver_45 ?_
  refine V.aload_n hC dX0_takeOver_48 rfl ?_
  refine gfX0_29 he hC dX0_takeOver_49 ?_
  refine V.callV1v hC (c_X2_takeOver hd.r9 he.r9 (by omega)) mwX2_takeOver mlX0_71 hd.r9.s hd.r9.k rfl ⟨rfl, rfl⟩ dX0_takeOver_52 rfl ?_
  refine V.eqM (M' := dTake M d e) rfl ?_
  refine V.aload_n hC dX0_takeOver_55 rfl ?_
  refine V.aload_n hC dX0_takeOver_56 rfl ?_
  refine gfX0_32 he hC dX0_takeOver_57 ?_
  refine V.top (x' := .int (M e 5)) (by simp only [dk_put_ne hne, ht]) ?_
  refine pfX0_32 hd hC dX0_takeOver_60 ?_
  refine V.aload_n hC dX0_takeOver_63 rfl ?_
  refine V.aload_n hC dX0_takeOver_64 rfl ?_
  refine gfX0_36 he hC dX0_takeOver_65 ?_
  refine V.top (x' := .int (M e 6)) (by simp only [dk_put_ne hne, ht]) ?_
  refine pfX0_36 hd hC dX0_takeOver_68 ?_
  refine V.aload_n hC dX0_takeOver_71 rfl ?_
  refine V.aload_n hC dX0_takeOver_72 rfl ?_
  refine gfX0_39 he hC dX0_takeOver_73 ?_
  refine V.top (x' := .int (M e 7)) (by simp only [dk_put_ne hne, ht]) ?_
  refine pfX0_39 hd hC dX0_takeOver_76 ?_
  refine V.aload_n hC dX0_takeOver_79 rfl ?_
  refine V.aload_n hC dX0_takeOver_80 rfl ?_
  refine gfX0_42 he hC dX0_takeOver_81 ?_
  refine V.top (x' := .int (M e 8)) (by simp only [dk_put_ne hne, ht]) ?_
  refine pfX0_42 hd hC (hz.1) dX0_takeOver_84 ?_
  refine V.aload_n hC dX0_takeOver_87 rfl ?_
  refine V.aload_n hC dX0_takeOver_88 rfl ?_
  refine gfX0_46 he hC dX0_takeOver_89 ?_
  refine V.top (x' := .int (M e 9)) (by simp only [dk_put_ne hne, ht]) ?_
  refine pfX0_46 hd hC dX0_takeOver_92 ?_
  refine V.aload_n hC dX0_takeOver_95 rfl ?_
  refine V.aload_n hC dX0_takeOver_96 rfl ?_
  refine gfX0_49 he hC dX0_takeOver_97 ?_
  refine V.top (x' := .int (M e 10)) (by simp only [dk_put_ne hne, ht]) ?_
  refine pfX0_49 hd hC dX0_takeOver_100 ?_
  refine V.aload_n hC dX0_takeOver_103 rfl ?_
  refine V.aload_n hC dX0_takeOver_104 rfl ?_
  refine gfX0_52 he hC dX0_takeOver_105 ?_
  refine V.top (x' := .int (M e 11)) (by simp only [dk_put_ne hne, ht]) ?_
  refine pfX0_52 hd hC dX0_takeOver_108 ?_
  refine V.aload_n hC dX0_takeOver_111 rfl ?_
  refine V.aload_n hC dX0_takeOver_112 rfl ?_
  refine gfX0_55 he hC dX0_takeOver_113 ?_
  refine V.top (x' := .int (M e 12)) (by simp only [dk_put_ne hne, ht]) ?_
  refine pfX0_55 hd hC (hz.2) dX0_takeOver_116 ?_
  refine V.aload_n hC dX0_takeOver_119 rfl ?_
  refine V.aload_n hC dX0_takeOver_120 rfl ?_
  refine gfX0_58 he hC dX0_takeOver_121 ?_
  refine V.top (x' := .int (M e 13)) (by simp only [dk_put_ne hne, ht]) ?_
  refine pfX0_58 hd hC dX0_takeOver_124 ?_
  refine V.aload_n hC dX0_takeOver_127 rfl ?_
  refine V.aload_n hC dX0_takeOver_128 rfl ?_
  refine gfX0_61 he hC dX0_takeOver_129 ?_
  refine V.top (x' := .int (M e 14)) (by simp only [dk_put_ne hne, ht]) ?_
  refine pfX0_61 hd hC dX0_takeOver_132 ?_
  exact V.vret hC (rfl) dX0_takeOver_135
end
section
/-! Script (102), History (23), DiskRekeying (0) -/
def isDig (c : Int32) : Bool := if c < 48 then false else if 57 < c then false else true
def pbl (c : Int32) : Int32 := if c = 98 then 1 else if c = 102 then 1 else if c = 115 then 20 else if c = 119 then 10 else if c = 120 then 1 else -1
def pb (p c : Int32) : Int32 := if p = 0 then pbl c else if p = 1 then (if c = 59 then 0 else -1) else if p < 20 then (if isDig c = true then (if p < 10 + 5 then p + 1 else -1) else if p = 10 then -1 else (if c = 61 then 20 else -1)) else (if isDig c = true then (if p < 20 + 5 then p + 1 else -1) else if p = 20 then -1 else (if c = 59 then 0 else -1))
def feL (M : dkM) : Nat → Nat → Int32 → Int32
  | 0, _, p => if p = 1 then -6 else if 20 < p then -6 else M 102 4
  | n + 1, i, p => if pb p (rget M 103 80 (nI i)) = -1 then nI i else feL M n (i + 1) (pb p (rget M 103 80 (nI i)))
def xErr (M : dkM) : Int32 := feL M (ix (M 102 4)) 0 0
def sApp (M : dkM) (c : Int32) : Int32 × dkM := if c < 33 then (-2, M) else if 126 < c then (-2, M) else if 80 ≤ M 102 4 then (-4, M) else (M 102 4 + 1, dk_put (rset M 103 80 (M 102 4) c) 102 4 (M 102 4 + 1))
def spStep (q : Int32 × Int32 × dkM) (c : Int32) : Int32 × Int32 × dkM := if isDig c = true then (q.1, 10 * q.2.1 + c - 48, rset q.2.2 109 40 (q.1 - 1) (10 * q.2.1 + c - 48)) else if c = 61 then (q.1, 0, rset q.2.2 107 40 (q.1 - 1) q.2.1) else if c = 59 then q else (q.1 + 1, 0, rset q.2.2 105 40 q.1 c)
def spL (M : dkM) : Nat → Int32 × Int32 × dkM
  | 0 => (0, 0, M)
  | k + 1 => spStep (spL M k) (rget (spL M k).2.2 103 80 (nI k))
def xSplit (M : dkM) : Int32 × dkM := ((spL M (ix (M 102 4))).1, (spL M (ix (M 102 4))).2.2)
theorem spStep_ne (q : Int32 × Int32 × dkM) (c : Int32) {a : Nat} (h1 : a ≠ 106) (h2 : a ≠ 108) (h3 : a ≠ 110) : (spStep q c).2.2 a = q.2.2 a := by
  unfold spStep
  split
  · exact rset_ne h3
  · split
    · exact rset_ne h2
    · split
      · rfl
      · exact rset_ne h1
theorem spL_ne (M : dkM) (k : Nat) {a : Nat} (h1 : a ≠ 106) (h2 : a ≠ 108) (h3 : a ≠ 110) : (spL M k).2.2 a = M a := by
  induction k with
  | zero => rfl
  | succ k ih => rw [spL, spStep_ne _ _ h1 h2 h3, ih]
def iRem (x y : Int32) : Int32 := x - x / y * y
def hI (M : dkM) : Prop := 0 ≤ (M 23 1).toInt ∧ (M 23 1).toInt < 7
theorem hI.j {M : dkM} (h : hI M) : ix (M 23 1) < 7 := by have := ix_toInt h.1; have := h.2; omega
theorem hI.n {M : dkM} (h : hI M) : M 23 1 = nI (ix (M 23 1)) := nI_ix h.1
theorem hI.l {M : dkM} (h : hI M) : (M 23 1 + 7 - 1) - (M 23 1 + 7 - 1) / 7 * 7 = nI ((ix (M 23 1) + 6) % 7) := by
  have hj := h.j
  rw [h.n]
  generalize ix (M 23 1) = j at hj
  match j, hj with
  | 0, _ => decide
  | 1, _ => decide
  | 2, _ => decide
  | 3, _ => decide
  | 4, _ => decide
  | 5, _ => decide
  | 6, _ => decide
  | k + 7, h => omega
def hSlot (M : dkM) : Nat := 24 + 1 + 11 * ix (M 23 1)
def hDraft (M : dkM) : dkM := dCopy M (hSlot M) 1
def hKeep (M : dkM) (a : Int32) : dkM := if a < 0 then M else dk_put (dk_put M 23 1 (iRem (M 23 1 + 1) 7)) 23 2 (dk_min (M 23 2 + 1) 6)
def hBack (M : dkM) : Int32 × dkM := if M 23 2 = 0 then (-3, M) else (dCopy M 1 (24 + 1 + 11 * ((ix (M 23 1) + 6) % 7)) 23 2 - 1, dk_put (dk_put (dCopy M 1 (24 + 1 + 11 * ((ix (M 23 1) + 6) % 7))) 23 1 (nI ((ix (M 23 1) + 6) % 7))) 23 2 (dCopy M 1 (24 + 1 + 11 * ((ix (M 23 1) + 6) % 7)) 23 2 - 1))
def hZ (M : dkM) : Prop := ∀ j, j < 7 → dZ M (24 + 1 + 11 * j)
theorem dCopy_ne {M : dkM} {d e a : Nat} (h : ¬ (d ≤ a ∧ a < d + 11)) : dCopy M d e a = M a := by
  unfold dCopy dTake
  rw [dk_put_ne (by omega), dk_put_ne (by omega), dk_put_ne (by omega), dk_put_ne (by omega), dk_put_ne (by omega), dk_put_ne (by omega), dk_put_ne (by omega), dk_put_ne (by omega), dk_put_ne (by omega), dk_put_ne (by omega), rtake_ne (by omega), rtake_ne (by omega), rtake_ne (by omega), rtake_ne (by omega), rtake_ne (by omega)]
theorem dCopy_f {M : dkM} {d e j : Nat} (h5 : 5 ≤ j) (h : j < 15) : dCopy M d e d j = M e j := by
  unfold dCopy
  rcases (show j = 5 ∨ j = 6 ∨ j = 7 ∨ j = 8 ∨ j = 9 ∨ j = 10 ∨ j = 11 ∨ j = 12 ∨ j = 13 ∨ j = 14 by omega) with rfl | rfl | rfl | rfl | rfl | rfl | rfl | rfl | rfl | rfl <;> simp [dk_put]
/-- what the class's calls rest on -/
def xI (M : dkM) : Prop := hI M ∧ hZ M ∧ dZ M 1 ∧ dI M 1
theorem hDraft_ne {M : dkM} (h : hI M) {a : Nat} (ha : ¬ (25 ≤ a ∧ a < 102)) : hDraft M a = M a := by
  have := h.j
  exact dCopy_ne (by unfold hSlot; omega)
theorem dI_of {M M' : dkM} {d : Nat} (h : M' d = M d) (hI : dI M d) : dI M' d := dI_congr (by rw [h]) (by rw [h]) (by rw [h]) hI
theorem xI.draft {M : dkM} (h : xI M) : dI (hDraft M) 1 := dI_of (hDraft_ne h.1 (by omega)) h.2.2.2
def xU (r : Int32 × dkM) : Int32 × dkM := (r.1, hKeep r.2 r.1)
def xCount (M : dkM) (w : Int32) : Int32 := if w < 0 then -2 else if 13 ≤ w then -2 else if w < 2 then dNum M 1 w else if 4 < w then dNum M 1 w else dNumR M 1 w
def orN (x : Int32) : Int32 := if x = -1 then -6 else x
def xRead (M : dkM) (s : Int32) : Int32 := if hasSec M 1 s = true then valIn M 1 s else -1
def xStored (M : dkM) (s : Int32) : Int32 := if hasSec M 1 s = true then rget M (1 + 1) 64 s else -1
def xKeyOf (M : dkM) (s : Int32) : Int32 := if hasSec M 1 s = true then keyAt M 1 s else -1
def xJournal (M : dkM) (s : Int32) : Int32 := if hasSec M 1 s = true then orN (rget M (1 + 7) 64 s) else -1
def xCached (M : dkM) (s : Int32) : Int32 := if hasSec M 1 s = true then orN (rget M (1 + 5) 64 s) else -1
def xZone (M : dkM) : Int32 := if isRek M 1 = true then zFirst M 1 else -3
def xDam (M : dkM) : Int32 := nI (dcN M 1 (ix (M 1 5)))
def xFirst (M : dkM) : Int32 := orN (fdL M 1 (ix (M 1 5)) 0)
def xLeft (M : dkM) : Int32 := if isRek M 1 = true then sAhead M 1 else -3
def xIfFl (M : dkM) (s : Int32) : Int32 := if hasSec M 1 s = true then saFl M 1 s else -1
def xSecret (M : dkM) (k : Int32) : Int32 := if hasKey M 1 k = true then rget M (1 + 9) 100 k else -1
def dDaf (M : dkM) : Int32 := nI (dafN M 12 (ix (M 12 5)))
def xIfFail (M : dkM) (n : Int32) : Int32 × dkM := if n < 0 then (-2, M) else if 999 < n then (-2, M) else (dDaf (advL 12 (ix n) (dCopy M 12 1) 0).2, (advL 12 (ix n) (dCopy M 12 1) 0).2)
def wtL : Nat → dkM → Int32 → Int32 → Nat → Int32 × dkM
  | 0, M, w, _, _ => (w, M)
  | n + 1, M, w, most, t => if isRek M 12 = true then (if most < dDaf (dStep M 12) then wtL n (dStep M 12) (nI t) (dDaf (dStep M 12)) (t + 1) else wtL n (dStep M 12) w most (t + 1)) else (w, M)
def xWorst (M : dkM) : Int32 × dkM := wtL 99 (dCopy M 12 1) 0 (dDaf (dCopy M 12 1)) 1
def coR (M : dkM) (k : Nat) : Int32 × dkM := dObey M 1 (rget M 105 40 (nI k)) (rget M 107 40 (nI k)) (rget M 109 40 (nI k))
def coL : Nat → dkM → Nat → Nat × dkM
  | 0, M, k => (k, M)
  | n + 1, M, k => if (coR M k).1 < 0 then (k, (coR M k).2) else coL n (coR M k).2 (k + 1)
def xCo (M : dkM) : Nat × dkM := coL (ix (xSplit (hDraft M)).1) (xSplit (hDraft M)).2 0
def xCarry (M : dkM) : Int32 × dkM := if xErr M = -6 then (nI (xCo M).1, hKeep (dk_put (xCo M).2 102 4 0) (nI (xCo M).1)) else (-5, M)
def dg (h : Int64) (v : Int32) : Int64 := 31 * h + v.toInt64
def dgC (M : dkM) : Nat → Int64
  | 0 => 392
  | k + 1 => dg (dgC M k) (xCount M (nI k))
def dgK (M : dkM) (h : Int64) : Nat → Int64
  | 0 => h
  | k + 1 => if hasKey M 1 (nI (k + 1)) = true then dg (dg (dgK M h k) (nI (k + 1))) (xSecret M (nI (k + 1))) else dgK M h k
def dgS (M : dkM) (h : Int64) : Nat → Int64
  | 0 => h
  | k + 1 => dg (dg (dg (dg (dg (dgS M h k) (xRead M (nI k))) (xStored M (nI k))) (xKeyOf M (nI k))) (xJournal M (nI k))) (xCached M (nI k))
/-- how many sectors the hash takes: until one is none -/
def dgN (M : dkM) : Nat := min 64 (ix (M 1 5))
def xDg1 (M : dkM) : Int64 := dg (dg (dgS M (dgK M (dgC M 13) 99) (dgN M)) (xDam M)) (xFirst M)
def xDigest (M : dkM) : Int64 := if isRek M 1 = true then dg (dg (xDg1 M) (xZone M)) (xLeft M) else xDg1 M
theorem hasSec_nI {M : dkM} {d k : Nat} (hk : k < 2 ^ 31) : hasSec M d (nI k) = decide (k < ix (M d 5)) := by
  unfold hasSec
  rw [if_neg (nI_pos hk)]
  by_cases h : k < ix (M d 5)
  · rw [if_neg (fun z => by have := (dk_gek hk).mp z; omega)]; simp [h]
  · rw [if_pos ((dk_gek hk).mpr (by omega))]; simp [h]
/-- the disk's calls keep the bounds -/
theorem dI_fl {M : dkM} {d : Nat} (h : dI M d) (k : Nat) : dI (flM M d k) d := dI_of (flM_d M d k) h
theorem dI_fail {M : dkM} {d : Nat} (h : dI M d) : dI (dFail M d) d := by
  have e : ∀ j, j ≠ 10 → j ≠ 14 → dFail M d d j = M d j := fun j a b => by
    rw [dFail, put_k b, dFailM, dClose_d _ _ _ a, rclear_ne (by omega), lpM_d]
  exact dI_congr (e 9 (by decide) (by decide)) (e 11 (by decide) (by decide)) (e 5 (by decide) (by decide)) h
theorem dI_put {M : dkM} {d : Nat} (h : dI M d) (s v : Int32) : dI (dPut M d s v).2 d := by
  unfold dPut
  repeat' split
  all_goals first | exact h | exact dI_of (by dsimp only; rw [rset_ne (by omega), rset_ne (by omega)]) h
theorem dI_adv {M : dkM} {d : Nat} (h : dI M d) (n : Int32) : dI (dAdv M d n).2 d := by
  unfold dAdv
  repeat' split
  all_goals first | exact h | exact advL_I _ _ _ h
theorem dI_turn {M : dkM} {d : Nat} (h : dI M d) : dI (dTurn M d).2 d := by
  have e : ∀ x j, j ≠ 6 → j ≠ 13 → j ≠ 7 → j ≠ 8 → endThru (dk_put M d 8 x) d d j = M d j := fun x j a b c f => by rw [endThru_d _ _ _ a b c, put_k f]
  unfold dTurn
  split
  · split
    · exact h
    · exact dI_congr (e _ 9 (by decide) (by decide) (by decide) (by decide)) (e _ 11 (by decide) (by decide) (by decide) (by decide)) (e _ 5 (by decide) (by decide) (by decide) (by decide)) h
  · exact h
theorem dI_obey {M : dkM} {d : Nat} (h : dI M d) (c s n : Int32) : dI (dObey M d c s n).2 d := by
  unfold dObey
  split
  · exact dI_put h _ _
  · split
    · exact dI_fl h _
    · split
      · exact dI_adv h _
      · split
        · exact dI_fail h
        · split
          · exact dI_turn h
          · exact h
theorem xSplit_ne (M : dkM) {a : Nat} (h1 : a ≠ 106) (h2 : a ≠ 108) (h3 : a ≠ 110) : (xSplit M).2 a = M a := spL_ne M _ h1 h2 h3
end
section
set_option maxHeartbeats 2000000 in
set_option maxRecDepth 20000 in
theorem c_X3_isDigit {l : Launch} {G : dkG}  {M : dkM} {c : Int32}  : dk_Con l yX3_isDigit cX3_isDigit 1 (some .boolean) 0 0 G [.int c] M (some (.int (bI (isDig c))), M) := by
  refine dk_Con.of mwX3_isDigit.1 (Nat.le_of_ble_eq_true rfl) (fun E hE hC => ?_)
  subst hE
  refine V.iload_n hC dX3_isDigit_0 rfl ?_
  refine V.bipush hC 48 dX3_isDigit_1 (by decide) ?_
  refine V.icmp_lt hC 16 dX3_isDigit_3 (by decide) (fun c_1 => ?_) (fun c_1 => ?_)
  · refine V.iconst hC 0 dX3_isDigit_16 (by decide) ?_
    exact V.zret hC (by first | (simp [isDig, bI, c_1, dk_lt1 c_1]; done) | (simp_all [isDig, bI]; done)) (by decide) dX3_isDigit_17
  · refine V.iload_n hC dX3_isDigit_6 rfl ?_
    refine V.bipush hC 57 dX3_isDigit_7 (by decide) ?_
    refine V.icmp_gt hC 16 dX3_isDigit_9 (by decide) (fun c_2 => ?_) (fun c_2 => ?_)
    · refine V.iconst hC 0 dX3_isDigit_16 (by decide) ?_
      exact V.zret hC (by first | (simp [isDig, bI, c_1, dk_nlt c_1, c_2, dk_lt1 c_2]; done) | (simp_all [isDig, bI]; done)) (by decide) dX3_isDigit_17
    · refine V.iconst hC 1 dX3_isDigit_12 (by decide) ?_
      refine V.goto hC 17 dX3_isDigit_13 (by decide) ?_
      exact V.zret hC (by first | (simp [isDig, bI, c_1, dk_nlt c_1, c_2, dk_nlt c_2]; done) | (simp_all [isDig, bI]; done)) (by decide) dX3_isDigit_17
set_option maxHeartbeats 2000000 in
set_option maxRecDepth 20000 in
theorem c_X3_placeBehindLetter {l : Launch} {G : dkG}  {M : dkM} {c : Int32}  : dk_Con l yX3_placeBehindLetter cX3_placeBehindLetter 1 (some .int) 0 0 G [.int c] M (some (.int (pbl c)), M) := by
  refine dk_Con.of mwX3_placeBehindLetter.1 (Nat.le_of_ble_eq_true rfl) (fun E hE hC => ?_)
  subst hE
  refine V.iload_n hC dX3_placeBehindLetter_0 rfl ?_
  by_cases c_1_0 : c = 98
  · refine V.swi hC 58 dX3_placeBehindLetter_1 (by decide) (by rw [c_1_0]; decide) ?_
    refine V.iconst hC 1 dX3_placeBehindLetter_58 (by decide) ?_
    exact V.iret hC (by first | (simp [pbl, c_1_0]; done) | (simp_all [pbl]; done)) dX3_placeBehindLetter_59
  by_cases c_1_1 : c = 102
  · refine V.swi hC 58 dX3_placeBehindLetter_1 (by decide) (by rw [c_1_1]; decide) ?_
    refine V.iconst hC 1 dX3_placeBehindLetter_58 (by decide) ?_
    exact V.iret hC (by first | (simp [pbl, c_1_0, c_1_1]; done) | (simp_all [pbl]; done)) dX3_placeBehindLetter_59
  by_cases c_1_2 : c = 115
  · refine V.swi hC 55 dX3_placeBehindLetter_1 (by decide) (by rw [c_1_2]; decide) ?_
    refine V.bipush hC 20 dX3_placeBehindLetter_55 (by decide) ?_
    exact V.iret hC (by first | (simp [pbl, c_1_0, c_1_1, c_1_2]; done) | (simp_all [pbl]; done)) dX3_placeBehindLetter_57
  by_cases c_1_3 : c = 119
  · refine V.swi hC 52 dX3_placeBehindLetter_1 (by decide) (by rw [c_1_3]; decide) ?_
    refine V.bipush hC 10 dX3_placeBehindLetter_52 (by decide) ?_
    exact V.iret hC (by first | (simp [pbl, c_1_0, c_1_1, c_1_2, c_1_3]; done) | (simp_all [pbl]; done)) dX3_placeBehindLetter_54
  by_cases c_1_4 : c = 120
  · refine V.swi hC 58 dX3_placeBehindLetter_1 (by decide) (by rw [c_1_4]; decide) ?_
    refine V.iconst hC 1 dX3_placeBehindLetter_58 (by decide) ?_
    exact V.iret hC (by first | (simp [pbl, c_1_0, c_1_1, c_1_2, c_1_3, c_1_4]; done) | (simp_all [pbl]; done)) dX3_placeBehindLetter_59
  refine V.swi hC 60 dX3_placeBehindLetter_1 (by decide) (by rw [(dk_off_ne c_1_0 (by decide)).trans ((dk_off_ne c_1_1 (by decide)).trans ((dk_off_ne c_1_2 (by decide)).trans ((dk_off_ne c_1_3 (by decide)).trans ((dk_off_ne c_1_4 (by decide)).trans (rfl)))))]; rfl) ?_
  refine V.iconst hC (-1) dX3_placeBehindLetter_60 (by decide) ?_
  exact V.iret hC (by first | (simp [pbl, c_1_0, c_1_1, c_1_2, c_1_3, c_1_4]; done) | (simp_all [pbl]; done)) dX3_placeBehindLetter_61
set_option maxHeartbeats 2000000 in
set_option maxRecDepth 20000 in
theorem c_X3_placeBehind {l : Launch} {G : dkG}  {M : dkM} {p : Int32} {c : Int32}  : dk_Con l yX3_placeBehind cX3_placeBehind 3 (some .int) 1 20 G [.int p, .int c] M (some (.int (pb p c)), M) := by
  refine dk_Con.of mwX3_placeBehind.1 (Nat.le_of_ble_eq_true rfl) (fun E hE hC => ?_)
  subst hE
  refine V.iload_n hC dX3_placeBehind_0 rfl ?_
  refine V.if_ne hC 9 dX3_placeBehind_1 (by decide) (fun c_1 => ?_) (fun c_1 => ?_)
  · refine V.iload_n hC dX3_placeBehind_9 rfl ?_
    refine V.iconst hC 1 dX3_placeBehind_10 (by decide) ?_
    refine V.icmp_ne hC 26 dX3_placeBehind_11 (by decide) (fun c_2 => ?_) (fun c_2 => ?_)
    · refine V.iload_n hC dX3_placeBehind_26 rfl ?_
      refine V.bipush hC 20 dX3_placeBehind_27 (by decide) ?_
      refine V.icmp_ge hC 37 dX3_placeBehind_29 (by decide) (fun c_3 => ?_) (fun c_3 => ?_)
      · refine V.bipush hC 20 dX3_placeBehind_37 (by decide) ?_
        refine V.istore_n hC dX3_placeBehind_39 rfl rfl ?_
        refine V.iload_n hC dX3_placeBehind_40 rfl ?_
        refine V.callS1i hC (c_X3_isDigit) mwX3_isDigit mlX3_48 ⟨rfl, rfl⟩ dX3_placeBehind_41 rfl ?_
        refine V.if_eqB hC 62 dX3_placeBehind_44 (by decide) (fun c_4 => ?_) (fun c_4 => ?_)
        · refine V.iload_n hC dX3_placeBehind_62 rfl ?_
          refine V.iload_n hC dX3_placeBehind_63 rfl ?_
          refine V.icmp_ne hC 69 dX3_placeBehind_64 (by decide) (fun c_5 => ?_) (fun c_5 => ?_)
          · refine V.iload_n hC dX3_placeBehind_69 rfl ?_
            refine V.bipush hC 10 dX3_placeBehind_70 (by decide) ?_
            refine V.icmp_ne_t hC 88 dX3_placeBehind_72 (by decide) (by decide) ?_
            refine V.iload_n hC dX3_placeBehind_88 rfl ?_
            refine V.bipush hC 59 dX3_placeBehind_89 (by decide) ?_
            refine V.icmp_ne hC 98 dX3_placeBehind_91 (by decide) (fun c_6 => ?_) (fun c_6 => ?_)
            · refine V.iconst hC (-1) dX3_placeBehind_98 (by decide) ?_
              exact V.iret hC (by first | (simp [pb, c_1, c_2, c_3, dk_le1 c_3, c_4, c_5, c_6]; done) | (simp only [show (10 : Int32) + 5 = 15 from by decide, show (20 : Int32) + 5 = 25 from by decide] at c_5; simp [pb, c_1, c_2, c_3, dk_le1 c_3, c_4, c_5, c_6]; done) | (simp_all [pb]; done)) dX3_placeBehind_99
            · refine V.iconst hC 0 dX3_placeBehind_94 (by decide) ?_
              refine V.goto hC 99 dX3_placeBehind_95 (by decide) ?_
              exact V.iret hC (by first | (simp [pb, c_1, c_2, c_3, dk_le1 c_3, c_4, c_5, c_6]; done) | (simp only [show (10 : Int32) + 5 = 15 from by decide, show (20 : Int32) + 5 = 25 from by decide] at c_5; simp [pb, c_1, c_2, c_3, dk_le1 c_3, c_4, c_5, c_6]; done) | (simp_all [pb]; done)) dX3_placeBehind_99
          · refine V.iconst hC (-1) dX3_placeBehind_67 (by decide) ?_
            exact V.iret hC (by first | (simp [pb, c_1, c_2, c_3, dk_le1 c_3, c_4, c_5]; done) | (simp only [show (10 : Int32) + 5 = 15 from by decide, show (20 : Int32) + 5 = 25 from by decide] at c_5; simp [pb, c_1, c_2, c_3, dk_le1 c_3, c_4, c_5]; done) | (simp_all [pb]; done)) dX3_placeBehind_68
        · refine V.iload_n hC dX3_placeBehind_47 rfl ?_
          refine V.iload_n hC dX3_placeBehind_48 rfl ?_
          refine V.iconst hC 5 dX3_placeBehind_49 (by decide) ?_
          refine V.iadd hC dX3_placeBehind_50 ?_
          refine V.icmp_ge hC 60 dX3_placeBehind_51 (by decide) (fun c_5 => ?_) (fun c_5 => ?_)
          · refine V.iconst hC (-1) dX3_placeBehind_60 (by decide) ?_
            exact V.iret hC (by first | (simp [pb, c_1, c_2, c_3, dk_le1 c_3, c_4, c_5, dk_le1 c_5]; done) | (simp only [show (10 : Int32) + 5 = 15 from by decide, show (20 : Int32) + 5 = 25 from by decide] at c_5; simp [pb, c_1, c_2, c_3, dk_le1 c_3, c_4, c_5, dk_le1 c_5]; done) | (simp_all [pb]; done)) dX3_placeBehind_61
          · refine V.iload_n hC dX3_placeBehind_54 rfl ?_
            refine V.iconst hC 1 dX3_placeBehind_55 (by decide) ?_
            refine V.iadd hC dX3_placeBehind_56 ?_
            refine V.goto hC 61 dX3_placeBehind_57 (by decide) ?_
            exact V.iret hC (by first | (simp [pb, c_1, c_2, c_3, dk_le1 c_3, c_4, c_5, dk_nle c_5]; done) | (simp only [show (10 : Int32) + 5 = 15 from by decide, show (20 : Int32) + 5 = 25 from by decide] at c_5; simp [pb, c_1, c_2, c_3, dk_le1 c_3, c_4, c_5, dk_nle c_5]; done) | (simp_all [pb]; done)) dX3_placeBehind_61
      · refine V.bipush hC 10 dX3_placeBehind_32 (by decide) ?_
        refine V.goto hC 39 dX3_placeBehind_34 (by decide) ?_
        refine V.istore_n hC dX3_placeBehind_39 rfl rfl ?_
        refine V.iload_n hC dX3_placeBehind_40 rfl ?_
        refine V.callS1i hC (c_X3_isDigit) mwX3_isDigit mlX3_48 ⟨rfl, rfl⟩ dX3_placeBehind_41 rfl ?_
        refine V.if_eqB hC 62 dX3_placeBehind_44 (by decide) (fun c_4 => ?_) (fun c_4 => ?_)
        · refine V.iload_n hC dX3_placeBehind_62 rfl ?_
          refine V.iload_n hC dX3_placeBehind_63 rfl ?_
          refine V.icmp_ne hC 69 dX3_placeBehind_64 (by decide) (fun c_5 => ?_) (fun c_5 => ?_)
          · refine V.iload_n hC dX3_placeBehind_69 rfl ?_
            refine V.bipush hC 10 dX3_placeBehind_70 (by decide) ?_
            refine V.icmp_ne_f hC 88 dX3_placeBehind_72 (by decide) (by decide) ?_
            refine V.iload_n hC dX3_placeBehind_75 rfl ?_
            refine V.bipush hC 61 dX3_placeBehind_76 (by decide) ?_
            refine V.icmp_ne hC 86 dX3_placeBehind_78 (by decide) (fun c_6 => ?_) (fun c_6 => ?_)
            · refine V.iconst hC (-1) dX3_placeBehind_86 (by decide) ?_
              exact V.iret hC (by first | (simp [pb, c_1, c_2, c_3, dk_nle c_3, c_4, c_5, c_6]; done) | (simp only [show (10 : Int32) + 5 = 15 from by decide, show (20 : Int32) + 5 = 25 from by decide] at c_5; simp [pb, c_1, c_2, c_3, dk_nle c_3, c_4, c_5, c_6]; done) | (simp_all [pb]; done)) dX3_placeBehind_87
            · refine V.bipush hC 20 dX3_placeBehind_81 (by decide) ?_
              refine V.goto hC 87 dX3_placeBehind_83 (by decide) ?_
              exact V.iret hC (by first | (simp [pb, c_1, c_2, c_3, dk_nle c_3, c_4, c_5, c_6]; done) | (simp only [show (10 : Int32) + 5 = 15 from by decide, show (20 : Int32) + 5 = 25 from by decide] at c_5; simp [pb, c_1, c_2, c_3, dk_nle c_3, c_4, c_5, c_6]; done) | (simp_all [pb]; done)) dX3_placeBehind_87
          · refine V.iconst hC (-1) dX3_placeBehind_67 (by decide) ?_
            exact V.iret hC (by first | (simp [pb, c_1, c_2, c_3, dk_nle c_3, c_4, c_5]; done) | (simp only [show (10 : Int32) + 5 = 15 from by decide, show (20 : Int32) + 5 = 25 from by decide] at c_5; simp [pb, c_1, c_2, c_3, dk_nle c_3, c_4, c_5]; done) | (simp_all [pb]; done)) dX3_placeBehind_68
        · refine V.iload_n hC dX3_placeBehind_47 rfl ?_
          refine V.iload_n hC dX3_placeBehind_48 rfl ?_
          refine V.iconst hC 5 dX3_placeBehind_49 (by decide) ?_
          refine V.iadd hC dX3_placeBehind_50 ?_
          refine V.icmp_ge hC 60 dX3_placeBehind_51 (by decide) (fun c_5 => ?_) (fun c_5 => ?_)
          · refine V.iconst hC (-1) dX3_placeBehind_60 (by decide) ?_
            exact V.iret hC (by first | (simp [pb, c_1, c_2, c_3, dk_nle c_3, c_4, c_5, dk_le1 c_5]; done) | (simp only [show (10 : Int32) + 5 = 15 from by decide, show (20 : Int32) + 5 = 25 from by decide] at c_5; simp [pb, c_1, c_2, c_3, dk_nle c_3, c_4, c_5, dk_le1 c_5]; done) | (simp_all [pb]; done)) dX3_placeBehind_61
          · refine V.iload_n hC dX3_placeBehind_54 rfl ?_
            refine V.iconst hC 1 dX3_placeBehind_55 (by decide) ?_
            refine V.iadd hC dX3_placeBehind_56 ?_
            refine V.goto hC 61 dX3_placeBehind_57 (by decide) ?_
            exact V.iret hC (by first | (simp [pb, c_1, c_2, c_3, dk_nle c_3, c_4, c_5, dk_nle c_5]; done) | (simp only [show (10 : Int32) + 5 = 15 from by decide, show (20 : Int32) + 5 = 25 from by decide] at c_5; simp [pb, c_1, c_2, c_3, dk_nle c_3, c_4, c_5, dk_nle c_5]; done) | (simp_all [pb]; done)) dX3_placeBehind_61
    · refine V.iload_n hC dX3_placeBehind_14 rfl ?_
      refine V.bipush hC 59 dX3_placeBehind_15 (by decide) ?_
      refine V.icmp_ne hC 24 dX3_placeBehind_17 (by decide) (fun c_3 => ?_) (fun c_3 => ?_)
      · refine V.iconst hC (-1) dX3_placeBehind_24 (by decide) ?_
        exact V.iret hC (by first | (simp [pb, c_1, c_2, c_3]; done) | (simp only [show (10 : Int32) + 5 = 15 from by decide, show (20 : Int32) + 5 = 25 from by decide] at c_5; simp [pb, c_1, c_2, c_3]; done) | (simp_all [pb]; done)) dX3_placeBehind_25
      · refine V.iconst hC 0 dX3_placeBehind_20 (by decide) ?_
        refine V.goto hC 25 dX3_placeBehind_21 (by decide) ?_
        exact V.iret hC (by first | (simp [pb, c_1, c_2, c_3]; done) | (simp only [show (10 : Int32) + 5 = 15 from by decide, show (20 : Int32) + 5 = 25 from by decide] at c_5; simp [pb, c_1, c_2, c_3]; done) | (simp_all [pb]; done)) dX3_placeBehind_25
  · refine V.iload_n hC dX3_placeBehind_4 rfl ?_
    refine V.callS1i hC (c_X3_placeBehindLetter) mwX3_placeBehindLetter mlX3_45 ⟨rfl, rfl⟩ dX3_placeBehind_5 rfl ?_
    exact V.iret hC (by first | (simp [pb, c_1]; done) | (simp only [show (10 : Int32) + 5 = 15 from by decide, show (20 : Int32) + 5 = 25 from by decide] at c_5; simp [pb, c_1]; done) | (simp_all [pb]; done)) dX3_placeBehind_8
set_option maxHeartbeats 2000000 in
set_option maxRecDepth 20000 in
theorem c_X3_append {l : Launch} {G : dkG}  {M : dkM} (hG : dk_cls G) {c : Int32}  : dk_Con l yX3_append cX3_append 2 (some .int) 1 22 G [.ref (G.1 + 102), .int c] M (some (.int (sApp M c).1), (sApp M c).2) := by
  refine dk_Con.of mwX3_append.1 (Nat.le_of_ble_eq_true rfl) (fun E hE hC => ?_)
  subst hE
  refine V.iload_n hC dX3_append_0 rfl ?_
  refine V.bipush hC 33 dX3_append_1 (by decide) ?_
  refine V.icmp_lt hC 12 dX3_append_3 (by decide) (fun c_1 => ?_) (fun c_1 => ?_)
  · refine V.bipush hC (-2) dX3_append_12 (by decide) ?_
    exact V.iret hC (by first | (simp [sApp, c_1, dk_lt1 c_1]; done) | (simp [sApp, rset_ne, dk_put, c_1, dk_lt1 c_1]; done)) dX3_append_14
  · refine V.iload_n hC dX3_append_6 rfl ?_
    refine V.bipush hC 126 dX3_append_7 (by decide) ?_
    refine V.icmp_le hC 15 dX3_append_9 (by decide) (fun c_2 => ?_) (fun c_2 => ?_)
    · refine V.aload_n hC dX3_append_15 rfl ?_
      refine gfX3_29 hG hC dX3_append_16 ?_
      refine V.bipush hC 80 dX3_append_19 (by decide) ?_
      refine V.icmp_lt hC 27 dX3_append_21 (by decide) (fun c_3 => ?_) (fun c_3 => ?_)
      · refine V.aload_n hC dX3_append_27 rfl ?_
        refine gfX3_14 hG hC dX3_append_28 ?_
        refine V.aload_n hC dX3_append_31 rfl ?_
        refine gfX3_29 hG hC dX3_append_32 ?_
        refine V.iload_n hC dX3_append_35 rfl ?_
        refine V.callV2v hC (c_X2_set (dk_rowAt hG 103 80 rfl)) mwX2_set mlX3_33 (dk_rowAt hG 103 80 rfl).s (dk_rowAt hG 103 80 rfl).k rfl ⟨rfl, rfl⟩ dX3_append_36 rfl ?_
        refine V.aload_n hC dX3_append_39 rfl ?_
        refine V.dup hC dX3_append_40 rfl ?_
        refine gfX3_29 hG hC dX3_append_41 ?_
        refine V.iconst hC 1 dX3_append_44 (by decide) ?_
        refine V.iadd hC dX3_append_45 ?_
        refine pfX3_29 hG hC dX3_append_46 ?_
        refine V.aload_n hC dX3_append_49 rfl ?_
        refine gfX3_29 hG hC dX3_append_50 ?_
        exact V.iret hC (by first | (simp [sApp, c_1, dk_nlt c_1, c_2, dk_le1 c_2, c_3, dk_lt1 c_3]; done) | (simp [sApp, rset_ne, dk_put, c_1, dk_nlt c_1, c_2, dk_le1 c_2, c_3, dk_lt1 c_3]; done)) dX3_append_53
      · refine V.bipush hC (-4) dX3_append_24 (by decide) ?_
        exact V.iret hC (by first | (simp [sApp, c_1, dk_nlt c_1, c_2, dk_le1 c_2, c_3, dk_nlt c_3]; done) | (simp [sApp, rset_ne, dk_put, c_1, dk_nlt c_1, c_2, dk_le1 c_2, c_3, dk_nlt c_3]; done)) dX3_append_26
    · refine V.bipush hC (-2) dX3_append_12 (by decide) ?_
      exact V.iret hC (by first | (simp [sApp, c_1, dk_nlt c_1, c_2, dk_nle c_2]; done) | (simp [sApp, rset_ne, dk_put, c_1, dk_nlt c_1, c_2, dk_nle c_2]; done)) dX3_append_14
set_option maxHeartbeats 2000000 in
set_option maxRecDepth 20000 in
theorem c_X3_empty {l : Launch} {G : dkG}  {M : dkM} (hG : dk_cls G)  : dk_Con l yX3_empty cX3_empty 2 (some .int) 0 0 G [.ref (G.1 + 102)] M (some (.int (M 102 4)), dk_put M 102 4 0) := by
  refine dk_Con.of mwX3_empty.1 (Nat.le_of_ble_eq_true rfl) (fun E hE hC => ?_)
  subst hE
  refine V.aload_n hC dX3_empty_0 rfl ?_
  refine gfX3_29 hG hC dX3_empty_1 ?_
  refine V.istore_n hC dX3_empty_4 rfl rfl ?_
  refine V.aload_n hC dX3_empty_5 rfl ?_
  refine V.iconst hC 0 dX3_empty_6 (by decide) ?_
  refine pfX3_29 hG hC dX3_empty_7 ?_
  refine V.iload_n hC dX3_empty_10 rfl ?_
  exact V.iret hC (rfl) dX3_empty_11
set_option maxHeartbeats 2000000 in
set_option maxRecDepth 20000 in
theorem c_X3_firstError {l : Launch} {G : dkG}  {M : dkM} (hG : dk_cls G)  : dk_Con l yX3_firstError cX3_firstError 3 (some .int) 2 42 G [.ref (G.1 + 102)] M (some (.int (xErr M)), M) := by
  refine dk_Con.of mwX3_firstError.1 (Nat.le_of_ble_eq_true rfl) (fun E hE hC => ?_)
  subst hE
  obtain ⟨N, hN⟩ : ∃ N, ix (M 102 4) = N := ⟨_, rfl⟩
  have hsz : N < 2 ^ 31 := hN ▸ ix_lt _
  have loop_4 : ∀ (n : Nat) (k : Nat) (p : Int32), (k ≤ N) → (N < k + n) → (feL M (N - k) k p = feL M N 0 0) →  V E G 3 (some (.int (xErr M)), M) (M) 4 [(0, some (.ref (G.1 + 102))), (1, some (.int p)), (2, some (.int (nI k)))] [] := by
    intro n
    induction n with
    | zero => intro k p hk hn hT; exact absurd hn (by omega)
    | succ n ih_4 =>
      intro k p hk hn hT
      refine V.iload_n hC dX3_firstError_4 rfl ?_
      refine V.aload_n hC dX3_firstError_5 rfl ?_
      refine gfX3_29 hG hC dX3_firstError_6 ?_
      refine V.icmp_ge hC 38 dX3_firstError_9 (by decide) (fun c_1 => ?_) (fun c_1 => ?_)
      · have hke : k = N := by have := (dk_gek (k := k) (by omega)).mp c_1; omega
        subst hke
        refine V.iload_n hC dX3_firstError_38 rfl ?_
        refine V.iconst hC 1 dX3_firstError_39 (by decide) ?_
        refine V.icmp_eq hC 49 dX3_firstError_40 (by decide) (fun c_2 => ?_) (fun c_2 => ?_)
        · refine V.iconst hC 1 dX3_firstError_49 (by decide) ?_
          refine V.goto hC 54 dX3_firstError_50 (by decide) ?_
          refine V.istore_n hC dX3_firstError_54 rfl rfl ?_
          refine V.iload_n hC dX3_firstError_55 rfl ?_
          refine V.if_eq_f hC 64 dX3_firstError_56 (by decide) (by decide) ?_
          refine V.bipush hC (-6) dX3_firstError_59 (by decide) ?_
          refine V.goto hC 68 dX3_firstError_61 (by decide) ?_
          exact V.iret hC (by first | (simp [xErr, hN, ← hT, feL, c_2]; done) | (simp [xErr, hN, ← hT, feL, c_2, c_3, dk_nle c_3]; done) | (simp [xErr, hN, ← hT, feL, c_2, c_3, dk_le1 c_3]; done)) dX3_firstError_68
        · refine V.iload_n hC dX3_firstError_43 rfl ?_
          refine V.bipush hC 20 dX3_firstError_44 (by decide) ?_
          refine V.icmp_le hC 53 dX3_firstError_46 (by decide) (fun c_3 => ?_) (fun c_3 => ?_)
          · refine V.iconst hC 0 dX3_firstError_53 (by decide) ?_
            refine V.istore_n hC dX3_firstError_54 rfl rfl ?_
            refine V.iload_n hC dX3_firstError_55 rfl ?_
            refine V.if_eq_t hC 64 dX3_firstError_56 (by decide) (by decide) ?_
            refine V.aload_n hC dX3_firstError_64 rfl ?_
            refine gfX3_29 hG hC dX3_firstError_65 ?_
            exact V.iret hC (by first | (simp [xErr, hN, ← hT, feL, c_2]; done) | (simp [xErr, hN, ← hT, feL, c_2, c_3, dk_nle c_3]; done) | (simp [xErr, hN, ← hT, feL, c_2, c_3, dk_le1 c_3]; done)) dX3_firstError_68
          · refine V.iconst hC 1 dX3_firstError_49 (by decide) ?_
            refine V.goto hC 54 dX3_firstError_50 (by decide) ?_
            refine V.istore_n hC dX3_firstError_54 rfl rfl ?_
            refine V.iload_n hC dX3_firstError_55 rfl ?_
            refine V.if_eq_f hC 64 dX3_firstError_56 (by decide) (by decide) ?_
            refine V.bipush hC (-6) dX3_firstError_59 (by decide) ?_
            refine V.goto hC 68 dX3_firstError_61 (by decide) ?_
            exact V.iret hC (by first | (simp [xErr, hN, ← hT, feL, c_2]; done) | (simp [xErr, hN, ← hT, feL, c_2, c_3, dk_nle c_3]; done) | (simp [xErr, hN, ← hT, feL, c_2, c_3, dk_le1 c_3]; done)) dX3_firstError_68
      · have hkl : k < N := by have := mt (dk_gek (k := k) (by omega)).mpr c_1; omega
        refine V.iload_n hC dX3_firstError_12 rfl ?_
        refine V.aload_n hC dX3_firstError_13 rfl ?_
        refine gfX3_14 hG hC dX3_firstError_14 ?_
        refine V.iload_n hC dX3_firstError_17 rfl ?_
        refine V.callV1i hC (c_X2_get (dk_rowAt hG 103 80 rfl)) mwX2_get mlX3_37 (dk_rowAt hG 103 80 rfl).s (dk_rowAt hG 103 80 rfl).k rfl ⟨rfl, rfl⟩ dX3_firstError_18 rfl ?_
        refine V.callS2i hC (c_X3_placeBehind) mwX3_placeBehind mlX3_41 ⟨rfl, rfl⟩ dX3_firstError_21 rfl ?_
        refine V.istore_n hC dX3_firstError_24 rfl rfl ?_
        refine V.iload_n hC dX3_firstError_25 rfl ?_
        refine V.iconst hC (-1) dX3_firstError_26 (by decide) ?_
        refine V.icmp_ne hC 32 dX3_firstError_27 (by decide) (fun c_2 => ?_) (fun c_2 => ?_)
        · refine V.iinc hC dX3_firstError_32 rfl (dk_incN _) rfl ?_
          refine V.goto hC 4 dX3_firstError_35 (by decide) ?_
          exact V.sub (dk_sc rfl (dk_sc rfl (dk_sc rfl (dk_sn)))) (ih_4 (k + 1) _ (by omega) (by omega) (by rw [show N - k = N - (k + 1) + 1 by omega, feL, if_neg c_2] at hT; exact hT))
        · refine V.iload_n hC dX3_firstError_30 rfl ?_
          exact V.iret hC (by unfold xErr; rw [hN, ← hT, show N - k = N - (k + 1) + 1 by omega, feL, if_pos c_2]) dX3_firstError_31
  refine V.iconst hC 0 dX3_firstError_0 (by decide) ?_
  refine V.istore_n hC dX3_firstError_1 rfl rfl ?_
  refine V.iconst hC 0 dX3_firstError_2 (by decide) ?_
  refine V.istore_n hC dX3_firstError_3 rfl rfl ?_
  exact V.sub (dk_sc rfl (dk_sc rfl (dk_sc rfl (dk_sn)))) (loop_4 (N + 1) 0 0 (Nat.zero_le _) (by omega) rfl)
set_option maxHeartbeats 2000000 in
set_option maxRecDepth 20000 in
theorem c_X3_split {l : Launch} {G : dkG}  {M : dkM} (hG : dk_cls G)  : dk_Con l yX3_split cX3_split 5 (some .int) 1 22 G [.ref (G.1 + 102)] M (some (.int (xSplit M).1), (xSplit M).2) := by
  refine dk_Con.of mwX3_split.1 (Nat.le_of_ble_eq_true rfl) (fun E hE hC => ?_)
  subst hE
  obtain ⟨N, hN⟩ : ∃ N, ix (M 102 4) = N := ⟨_, rfl⟩
  have hsz : N < 2 ^ 31 := hN ▸ ix_lt _
  have loop_6 : ∀ (n : Nat) (k : Nat), (k ≤ N) → (N < k + n) →  V E G 5 (some (.int (xSplit M).1), (xSplit M).2) ((spL M k).2.2) 6 [(0, some (.ref (G.1 + 102))), (1, some (.int (spL M k).1)), (2, some (.int (spL M k).2.1)), (3, some (.int (nI k)))] [] := by
    intro n
    induction n with
    | zero => intro k hk hn; exact absurd hn (by omega)
    | succ n ih_6 =>
      intro k hk hn
      refine V.iload_n hC dX3_split_6 rfl ?_
      refine V.aload_n hC dX3_split_7 rfl ?_
      refine gfX3_29 hG hC dX3_split_8 ?_
      refine V.icmp_ge hC 108 dX3_split_11 (by decide) (fun c_1 => ?_) (fun c_1 => ?_)
      · have hke : k = N := by have hc := c_1; rw [spL_ne _ _ (by decide) (by decide) (by decide)] at hc; have := (dk_gek (k := k) (by omega)).mp hc; omega
        subst hke
        refine V.iload_n hC dX3_split_108 rfl ?_
        exact V.iret hC (by unfold xSplit; rw [hN]) dX3_split_109
      · have hkl : k < N := by have hc := c_1; rw [spL_ne _ _ (by decide) (by decide) (by decide)] at hc; have := mt (dk_gek (k := k) (by omega)).mpr hc; omega
        refine V.aload_n hC dX3_split_14 rfl ?_
        refine gfX3_14 hG hC dX3_split_15 ?_
        refine V.iload_n hC dX3_split_18 rfl ?_
        refine V.callV1i hC (c_X2_get (dk_rowAt hG 103 80 rfl)) mwX2_get mlX3_37 (dk_rowAt hG 103 80 rfl).s (dk_rowAt hG 103 80 rfl).k rfl ⟨rfl, rfl⟩ dX3_split_19 rfl ?_
        refine V.istore hC dX3_split_22 rfl rfl ?_
        refine V.iload hC dX3_split_24 rfl ?_
        refine V.callS1i hC (c_X3_isDigit) mwX3_isDigit mlX3_48 ⟨rfl, rfl⟩ dX3_split_26 rfl ?_
        refine V.if_eqB hC 57 dX3_split_29 (by decide) (fun c_2 => ?_) (fun c_2 => ?_)
        · refine V.iload hC dX3_split_57 rfl ?_
          refine V.bipush hC 61 dX3_split_59 (by decide) ?_
          refine V.icmp_ne hC 80 dX3_split_61 (by decide) (fun c_3 => ?_) (fun c_3 => ?_)
          · refine V.iload hC dX3_split_80 rfl ?_
            refine V.bipush hC 59 dX3_split_82 (by decide) ?_
            refine V.icmp_eq hC 102 dX3_split_84 (by decide) (fun c_4 => ?_) (fun c_4 => ?_)
            · refine V.iinc hC dX3_split_102 rfl (dk_incN _) rfl ?_
              refine V.goto hC 6 dX3_split_105 (by decide) ?_
              have ih2 := ih_6 (k + 1) (by omega) (by omega)
              first | simp only [spL, spStep, c_2, c_3, c_4, if_true, if_false, Bool.false_eq_true] at ih2 | simp only [spL, spStep, c_2, c_3, if_true, if_false, Bool.false_eq_true] at ih2 | simp only [spL, spStep, c_2, if_true, if_false, Bool.false_eq_true] at ih2
              exact V.sub (dk_sc rfl (dk_sc rfl (dk_sc rfl (dk_sc rfl (dk_sn))))) ih2
            · refine V.aload_n hC dX3_split_87 rfl ?_
              refine gfX3_20 hG hC dX3_split_88 ?_
              refine V.iload_n hC dX3_split_91 rfl ?_
              refine V.iload hC dX3_split_92 rfl ?_
              refine V.callV2v hC (c_X2_set (dk_rowAt hG 105 40 rfl)) mwX2_set mlX3_33 (dk_rowAt hG 105 40 rfl).s (dk_rowAt hG 105 40 rfl).k rfl ⟨rfl, rfl⟩ dX3_split_94 rfl ?_
              refine V.iinc hC dX3_split_97 rfl (dk_inc _) rfl ?_
              refine V.iconst hC 0 dX3_split_100 (by decide) ?_
              refine V.istore_n hC dX3_split_101 rfl rfl ?_
              refine V.iinc hC dX3_split_102 rfl (dk_incN _) rfl ?_
              refine V.goto hC 6 dX3_split_105 (by decide) ?_
              have ih2 := ih_6 (k + 1) (by omega) (by omega)
              first | simp only [spL, spStep, c_2, c_3, c_4, if_true, if_false, Bool.false_eq_true] at ih2 | simp only [spL, spStep, c_2, c_3, if_true, if_false, Bool.false_eq_true] at ih2 | simp only [spL, spStep, c_2, if_true, if_false, Bool.false_eq_true] at ih2
              exact V.sub (dk_sc rfl (dk_sc rfl (dk_sc rfl (dk_sc rfl (dk_sn))))) ih2
          · refine V.aload_n hC dX3_split_64 rfl ?_
            refine gfX3_23 hG hC dX3_split_65 ?_
            refine V.iload_n hC dX3_split_68 rfl ?_
            refine V.iconst hC 1 dX3_split_69 (by decide) ?_
            refine V.isub hC dX3_split_70 ?_
            refine V.iload_n hC dX3_split_71 rfl ?_
            refine V.callV2v hC (c_X2_set (dk_rowAt hG 107 40 rfl)) mwX2_set mlX3_33 (dk_rowAt hG 107 40 rfl).s (dk_rowAt hG 107 40 rfl).k rfl ⟨rfl, rfl⟩ dX3_split_72 rfl ?_
            refine V.iconst hC 0 dX3_split_75 (by decide) ?_
            refine V.istore_n hC dX3_split_76 rfl rfl ?_
            refine V.goto hC 102 dX3_split_77 (by decide) ?_
            refine V.iinc hC dX3_split_102 rfl (dk_incN _) rfl ?_
            refine V.goto hC 6 dX3_split_105 (by decide) ?_
            have ih2 := ih_6 (k + 1) (by omega) (by omega)
            first | simp only [spL, spStep, c_2, c_3, c_4, if_true, if_false, Bool.false_eq_true] at ih2 | simp only [spL, spStep, c_2, c_3, if_true, if_false, Bool.false_eq_true] at ih2 | simp only [spL, spStep, c_2, if_true, if_false, Bool.false_eq_true] at ih2
            exact V.sub (dk_sc rfl (dk_sc rfl (dk_sc rfl (dk_sc rfl (dk_sn))))) ih2
        · refine V.bipush hC 10 dX3_split_32 (by decide) ?_
          refine V.iload_n hC dX3_split_34 rfl ?_
          refine V.imul hC dX3_split_35 ?_
          refine V.iload hC dX3_split_36 rfl ?_
          refine V.iadd hC dX3_split_38 ?_
          refine V.bipush hC 48 dX3_split_39 (by decide) ?_
          refine V.isub hC dX3_split_41 ?_
          refine V.istore_n hC dX3_split_42 rfl rfl ?_
          refine V.aload_n hC dX3_split_43 rfl ?_
          refine gfX3_26 hG hC dX3_split_44 ?_
          refine V.iload_n hC dX3_split_47 rfl ?_
          refine V.iconst hC 1 dX3_split_48 (by decide) ?_
          refine V.isub hC dX3_split_49 ?_
          refine V.iload_n hC dX3_split_50 rfl ?_
          refine V.callV2v hC (c_X2_set (dk_rowAt hG 109 40 rfl)) mwX2_set mlX3_33 (dk_rowAt hG 109 40 rfl).s (dk_rowAt hG 109 40 rfl).k rfl ⟨rfl, rfl⟩ dX3_split_51 rfl ?_
          refine V.goto hC 102 dX3_split_54 (by decide) ?_
          refine V.iinc hC dX3_split_102 rfl (dk_incN _) rfl ?_
          refine V.goto hC 6 dX3_split_105 (by decide) ?_
          have ih2 := ih_6 (k + 1) (by omega) (by omega)
          first | simp only [spL, spStep, c_2, c_3, c_4, if_true, if_false, Bool.false_eq_true] at ih2 | simp only [spL, spStep, c_2, c_3, if_true, if_false, Bool.false_eq_true] at ih2 | simp only [spL, spStep, c_2, if_true, if_false, Bool.false_eq_true] at ih2
          exact V.sub (dk_sc rfl (dk_sc rfl (dk_sc rfl (dk_sc rfl (dk_sn))))) ih2
  refine V.iconst hC 0 dX3_split_0 (by decide) ?_
  refine V.istore_n hC dX3_split_1 rfl rfl ?_
  refine V.iconst hC 0 dX3_split_2 (by decide) ?_
  refine V.istore_n hC dX3_split_3 rfl rfl ?_
  refine V.iconst hC 0 dX3_split_4 (by decide) ?_
  refine V.istore_n hC dX3_split_5 rfl rfl ?_
  exact V.sub (dk_sc rfl (dk_sc rfl (dk_sc rfl (dk_sc rfl (dk_sn))))) (loop_6 (N + 1) 0 (Nat.zero_le _) (by omega))
set_option maxHeartbeats 2000000 in
set_option maxRecDepth 20000 in
theorem c_X3_letter {l : Launch} {G : dkG}  {M : dkM} (hG : dk_cls G) {s : Int32}  : dk_Con l yX3_letter cX3_letter 2 (some .int) 1 21 G [.ref (G.1 + 102), .int s] M (some (.int (rget M 105 40 s)), M) := by
  refine dk_Con.of mwX3_letter.1 (Nat.le_of_ble_eq_true rfl) (fun E hE hC => ?_)
  subst hE
  refine V.aload_n hC dX3_letter_0 rfl ?_
  refine gfX3_20 hG hC dX3_letter_1 ?_
  refine V.iload_n hC dX3_letter_4 rfl ?_
  refine V.callV1i hC (c_X2_get (dk_rowAt hG 105 40 rfl)) mwX2_get mlX3_37 (dk_rowAt hG 105 40 rfl).s (dk_rowAt hG 105 40 rfl).k rfl ⟨rfl, rfl⟩ dX3_letter_5 rfl ?_
  exact V.iret hC (rfl) dX3_letter_8
set_option maxHeartbeats 2000000 in
set_option maxRecDepth 20000 in
theorem c_X3_sector {l : Launch} {G : dkG}  {M : dkM} (hG : dk_cls G) {s : Int32}  : dk_Con l yX3_sector cX3_sector 2 (some .int) 1 21 G [.ref (G.1 + 102), .int s] M (some (.int (rget M 107 40 s)), M) := by
  refine dk_Con.of mwX3_sector.1 (Nat.le_of_ble_eq_true rfl) (fun E hE hC => ?_)
  subst hE
  refine V.aload_n hC dX3_sector_0 rfl ?_
  refine gfX3_23 hG hC dX3_sector_1 ?_
  refine V.iload_n hC dX3_sector_4 rfl ?_
  refine V.callV1i hC (c_X2_get (dk_rowAt hG 107 40 rfl)) mwX2_get mlX3_37 (dk_rowAt hG 107 40 rfl).s (dk_rowAt hG 107 40 rfl).k rfl ⟨rfl, rfl⟩ dX3_sector_5 rfl ?_
  exact V.iret hC (rfl) dX3_sector_8
set_option maxHeartbeats 2000000 in
set_option maxRecDepth 20000 in
theorem c_X3_number {l : Launch} {G : dkG}  {M : dkM} (hG : dk_cls G) {s : Int32}  : dk_Con l yX3_number cX3_number 2 (some .int) 1 21 G [.ref (G.1 + 102), .int s] M (some (.int (rget M 109 40 s)), M) := by
  refine dk_Con.of mwX3_number.1 (Nat.le_of_ble_eq_true rfl) (fun E hE hC => ?_)
  subst hE
  refine V.aload_n hC dX3_number_0 rfl ?_
  refine gfX3_26 hG hC dX3_number_1 ?_
  refine V.iload_n hC dX3_number_4 rfl ?_
  refine V.callV1i hC (c_X2_get (dk_rowAt hG 109 40 rfl)) mwX2_get mlX3_37 (dk_rowAt hG 109 40 rfl).s (dk_rowAt hG 109 40 rfl).k rfl ⟨rfl, rfl⟩ dX3_number_5 rfl ?_
  exact V.iret hC (rfl) dX3_number_8
set_option maxHeartbeats 2000000 in
set_option maxRecDepth 20000 in
theorem c_X1_slot {l : Launch} {G : dkG}  {M : dkM} (hG : dk_cls G) {j : Nat} (hj : j < 7) : dk_Con l yX1_slot cX1_slot 2 (some (.object "DiskRekeying$Disk")) 0 0 G [.ref (G.1 + 23), .int (nI j)] M (some (.ref (G.1 + (24 + 1 + 11 * j))), M) := by
  refine dk_Con.of mwX1_slot.1 (Nat.le_of_ble_eq_true rfl) (fun E hE hC => ?_)
  subst hE
  refine V.iload_n hC dX1_slot_0 rfl ?_
  refine V.if_lt hC 22 dX1_slot_1 (by decide) (fun c_1 => ?_) (fun c_1 => ?_)
  · exact absurd c_1 (nI_pos (by omega)) --done
  · refine V.iload_n hC dX1_slot_4 rfl ?_
    refine V.aload_n hC dX1_slot_5 rfl ?_
    refine gfX1_13 hG hC dX1_slot_6 ?_
    refine V.alen7 hC (hG.at 24 rfl) rfl dX1_slot_9 ?_
    refine V.icmp_ge hC 22 dX1_slot_10 (by decide) (fun c_2 => ?_) (fun c_2 => ?_)
    · exact absurd c_2 (nI_ge hj (by decide)) --done
    · refine V.aload_n hC dX1_slot_13 rfl ?_
      refine gfX1_13 hG hC dX1_slot_14 ?_
      refine V.iload_n hC dX1_slot_17 rfl ?_
      refine V.aald hC (hG.at 24 rfl) rfl (hj) dX1_slot_18 ?_
      refine V.goto hC 23 dX1_slot_19 (by decide) ?_
      exact V.aret hC (rfl) dX1_slot_23
set_option maxHeartbeats 2000000 in
set_option maxRecDepth 20000 in
theorem c_X1_draft {l : Launch} {G : dkG}  {M : dkM} (hG : dk_cls G) (hh : hI M) (hz : dZ M 1) : dk_Con l yX1_draft cX1_draft 3 none 3 64 G [.ref (G.1 + 23), .ref (G.1 + 1)] M (none, hDraft M) := by
  refine dk_Con.of mwX1_draft.1 (Nat.le_of_ble_eq_true rfl) (fun E hE hC => ?_)
  subst hE
  refine V.aload_n hC dX1_draft_0 rfl ?_
  refine V.aload_n hC dX1_draft_1 rfl ?_
  refine gfX1_17 hG hC dX1_draft_2 ?_
  refine V.top (congrArg Value.int hh.n) ?_
  refine V.callV1a hC (c_X1_slot hG hh.j) mwX1_slot mlX1_25 (hG.at 23 rfl) rfl rfl ⟨rfl, rfl⟩ dX1_draft_5 rfl ?_
  refine V.astore_n hC dX1_draft_8 rfl rfl ?_
  refine V.aload_n hC dX1_draft_9 rfl ?_
  refine V.ifnull hC dX1_draft_10 ?_
  refine V.aload_n hC dX1_draft_13 rfl ?_
  refine V.aload_n hC dX1_draft_14 rfl ?_
  refine V.callV1v hC (c_X0_takeOver (dk_diskS hG hh.j) (dk_disk1 hG) (by unfold apart; omega) hz) mwX0_takeOver mlX1_29 (dk_diskS hG hh.j).s (dk_diskS hG hh.j).k rfl ⟨rfl, rfl⟩ dX1_draft_15 rfl ?_
  exact V.vret hC (rfl) dX1_draft_18
set_option maxHeartbeats 2000000 in
set_option maxRecDepth 20000 in
theorem c_X1_keep {l : Launch} {G : dkG}  {M : dkM} (hG : dk_cls G) {a : Int32}  : dk_Con l yX1_keep cX1_keep 2 (some .int) 1 21 G [.ref (G.1 + 23), .int a] M (some (.int a), hKeep M a) := by
  refine dk_Con.of mwX1_keep.1 (Nat.le_of_ble_eq_true rfl) (fun E hE hC => ?_)
  subst hE
  refine V.iload_n hC dX1_keep_0 rfl ?_
  refine V.if_lt hC 32 dX1_keep_1 (by decide) (fun c_1 => ?_) (fun c_1 => ?_)
  · refine V.iload_n hC dX1_keep_32 rfl ?_
    exact V.iret hC (by first | (simp [hKeep, iRem, c_1, dk_lt1 c_1]; done) | (simp [hKeep, iRem, dk_put, c_1, dk_lt1 c_1]; done)) dX1_keep_33
  · refine V.aload_n hC dX1_keep_4 rfl ?_
    refine V.aload_n hC dX1_keep_5 rfl ?_
    refine gfX1_17 hG hC dX1_keep_6 ?_
    refine V.iconst hC 1 dX1_keep_9 (by decide) ?_
    refine V.iadd hC dX1_keep_10 ?_
    refine V.bipush hC 7 dX1_keep_11 (by decide) ?_
    refine V.irem hC dX1_keep_13 (by decide) ?_
    refine pfX1_17 hG hC dX1_keep_14 ?_
    refine V.aload_n hC dX1_keep_17 rfl ?_
    refine V.aload_n hC dX1_keep_18 rfl ?_
    refine gfX1_21 hG hC dX1_keep_19 ?_
    refine V.iconst hC 1 dX1_keep_22 (by decide) ?_
    refine V.iadd hC dX1_keep_23 ?_
    refine V.bipush hC 6 dX1_keep_24 (by decide) ?_
    refine V.mmin hC mlX1_33 ⟨rfl, rfl⟩ dX1_keep_26 rfl ?_
    refine pfX1_21 hG hC dX1_keep_29 ?_
    refine V.iload_n hC dX1_keep_32 rfl ?_
    exact V.iret hC (by first | (simp [hKeep, iRem, c_1, dk_nlt c_1]; done) | (simp [hKeep, iRem, dk_put, c_1, dk_nlt c_1]; done)) dX1_keep_33
set_option maxHeartbeats 2000000 in
set_option maxRecDepth 20000 in
theorem c_X1_bringBack {l : Launch} {G : dkG}  {M : dkM} (hG : dk_cls G) (hh : hI M) (hz : hZ M) : dk_Con l yX1_bringBack cX1_bringBack 4 (some .int) 3 64 G [.ref (G.1 + 23), .ref (G.1 + 1)] M (some (.int (hBack M).1), (hBack M).2) := by
  refine dk_Con.of mwX1_bringBack.1 (Nat.le_of_ble_eq_true rfl) (fun E hE hC => ?_)
  subst hE
  have hj2 : (ix (M 23 1) + 6) % 7 < 7 := Nat.mod_lt _ (by decide)
  refine V.aload_n hC dX1_bringBack_0 rfl ?_
  refine gfX1_17 hG hC dX1_bringBack_1 ?_
  refine V.bipush hC 7 dX1_bringBack_4 (by decide) ?_
  refine V.iadd hC dX1_bringBack_6 ?_
  refine V.iconst hC 1 dX1_bringBack_7 (by decide) ?_
  refine V.isub hC dX1_bringBack_8 ?_
  refine V.bipush hC 7 dX1_bringBack_9 (by decide) ?_
  refine V.irem hC dX1_bringBack_11 (by decide) ?_
  refine V.top (congrArg Value.int hh.l) ?_
  refine V.istore_n hC dX1_bringBack_12 rfl rfl ?_
  refine V.aload_n hC dX1_bringBack_13 rfl ?_
  refine V.iload_n hC dX1_bringBack_14 rfl ?_
  refine V.callV1a hC (c_X1_slot hG hj2) mwX1_slot mlX1_25 (hG.at 23 rfl) rfl rfl ⟨rfl, rfl⟩ dX1_bringBack_15 rfl ?_
  refine V.astore_n hC dX1_bringBack_18 rfl rfl ?_
  refine V.aload_n hC dX1_bringBack_19 rfl ?_
  refine gfX1_21 hG hC dX1_bringBack_20 ?_
  refine V.if_eq hC 30 dX1_bringBack_23 (by decide) (fun c_1 => ?_) (fun c_1 => ?_)
  · refine V.bipush hC (-3) dX1_bringBack_30 (by decide) ?_
    exact V.iret hC (by first | (simp [hBack, c_1]; done) | (simp [hBack, dk_put, c_1]; done)) dX1_bringBack_32
  · refine V.aload_n hC dX1_bringBack_26 rfl ?_
    refine V.ifnonnull hC 33 dX1_bringBack_27 (by decide) ?_
    refine V.aload_n hC dX1_bringBack_33 rfl ?_
    refine V.aload_n hC dX1_bringBack_34 rfl ?_
    refine V.callV1v hC (c_X0_takeOver (dk_disk1 hG) (dk_diskS hG hj2) (by unfold apart; omega) (hz _ hj2)) mwX0_takeOver mlX1_29 (dk_disk1 hG).s (dk_disk1 hG).k rfl ⟨rfl, rfl⟩ dX1_bringBack_35 rfl ?_
    refine V.aload_n hC dX1_bringBack_38 rfl ?_
    refine V.iload_n hC dX1_bringBack_39 rfl ?_
    refine pfX1_17 hG hC dX1_bringBack_40 ?_
    refine V.aload_n hC dX1_bringBack_43 rfl ?_
    refine V.dup hC dX1_bringBack_44 rfl ?_
    refine gfX1_21 hG hC dX1_bringBack_45 ?_
    refine V.iconst hC 1 dX1_bringBack_48 (by decide) ?_
    refine V.isub hC dX1_bringBack_49 ?_
    refine pfX1_21 hG hC dX1_bringBack_50 ?_
    refine V.aload_n hC dX1_bringBack_53 rfl ?_
    refine gfX1_21 hG hC dX1_bringBack_54 ?_
    exact V.iret hC (by first | (simp [hBack, c_1]; done) | (simp [hBack, dk_put, c_1]; done)) dX1_bringBack_57
end
section
set_option maxHeartbeats 2000000 in
set_option maxRecDepth 20000 in
theorem c_X4_format {l : Launch} {G : dkG}  {M : dkM} (hG : dk_cls G) (hX : xI M) {n : Int32}  : dk_Con l yX4_format cX4_format 2 (some .int) 4 88 G [.ref (G.1 + 0), .int n] M (some (.int (xU (dFormat (hDraft M) 1 n)).1), (xU (dFormat (hDraft M) 1 n)).2) := by
  refine dk_Con.of mwX4_format.1 (Nat.le_of_ble_eq_true rfl) (fun E hE hC => ?_)
  subst hE
  refine V.aload_n hC dX4_format_0 rfl ?_
  refine gfX4_22 hG hC dX4_format_1 ?_
  refine V.aload_n hC dX4_format_4 rfl ?_
  refine gfX4_12 hG hC dX4_format_5 ?_
  refine V.callV1v hC (c_X1_draft hG hX.1 hX.2.2.1) mwX1_draft mlX4_33 (hG.at 23 rfl) rfl rfl ⟨rfl, rfl⟩ dX4_format_8 rfl ?_
  refine V.aload_n hC dX4_format_11 rfl ?_
  refine gfX4_22 hG hC dX4_format_12 ?_
  refine V.aload_n hC dX4_format_15 rfl ?_
  refine gfX4_12 hG hC dX4_format_16 ?_
  refine V.iload_n hC dX4_format_19 rfl ?_
  refine V.callV1i hC (c_X0_reformat (dk_disk1 hG)) mwX0_reformat mlX4_37 (dk_disk1 hG).s (dk_disk1 hG).k rfl ⟨rfl, rfl⟩ dX4_format_20 rfl ?_
  refine V.callV1i hC (c_X1_keep hG) mwX1_keep mlX4_41 (hG.at 23 rfl) rfl rfl ⟨rfl, rfl⟩ dX4_format_23 rfl ?_
  exact V.iret hC (rfl) dX4_format_26
set_option maxHeartbeats 2000000 in
set_option maxRecDepth 20000 in
theorem c_X4_addKey {l : Launch} {G : dkG}  {M : dkM} (hG : dk_cls G) (hX : xI M) {k : Int32} {c : Int32}  : dk_Con l yX4_addKey cX4_addKey 3 (some .int) 4 86 G [.ref (G.1 + 0), .int k, .int c] M (some (.int (xU (dAdd (hDraft M) 1 k c)).1), (xU (dAdd (hDraft M) 1 k c)).2) := by
  refine dk_Con.of mwX4_addKey.1 (Nat.le_of_ble_eq_true rfl) (fun E hE hC => ?_)
  subst hE
  refine V.aload_n hC dX4_addKey_0 rfl ?_
  refine gfX4_22 hG hC dX4_addKey_1 ?_
  refine V.aload_n hC dX4_addKey_4 rfl ?_
  refine gfX4_12 hG hC dX4_addKey_5 ?_
  refine V.callV1v hC (c_X1_draft hG hX.1 hX.2.2.1) mwX1_draft mlX4_33 (hG.at 23 rfl) rfl rfl ⟨rfl, rfl⟩ dX4_addKey_8 rfl ?_
  refine V.aload_n hC dX4_addKey_11 rfl ?_
  refine gfX4_22 hG hC dX4_addKey_12 ?_
  refine V.aload_n hC dX4_addKey_15 rfl ?_
  refine gfX4_12 hG hC dX4_addKey_16 ?_
  refine V.iload_n hC dX4_addKey_19 rfl ?_
  refine V.iload_n hC dX4_addKey_20 rfl ?_
  refine V.callV2i hC (c_X0_insertKey (dk_disk1 hG)) mwX0_insertKey mlX4_44 (dk_disk1 hG).s (dk_disk1 hG).k rfl ⟨rfl, rfl⟩ dX4_addKey_21 rfl ?_
  refine V.callV1i hC (c_X1_keep hG) mwX1_keep mlX4_41 (hG.at 23 rfl) rfl rfl ⟨rfl, rfl⟩ dX4_addKey_24 rfl ?_
  exact V.iret hC (rfl) dX4_addKey_27
set_option maxHeartbeats 2000000 in
set_option maxRecDepth 20000 in
theorem c_X4_removeKey {l : Launch} {G : dkG}  {M : dkM} (hG : dk_cls G) (hX : xI M) {k : Int32}  : dk_Con l yX4_removeKey cX4_removeKey 2 (some .int) 4 86 G [.ref (G.1 + 0), .int k] M (some (.int (xU (dDrop (hDraft M) 1 k)).1), (xU (dDrop (hDraft M) 1 k)).2) := by
  refine dk_Con.of mwX4_removeKey.1 (Nat.le_of_ble_eq_true rfl) (fun E hE hC => ?_)
  subst hE
  refine V.aload_n hC dX4_removeKey_0 rfl ?_
  refine gfX4_22 hG hC dX4_removeKey_1 ?_
  refine V.aload_n hC dX4_removeKey_4 rfl ?_
  refine gfX4_12 hG hC dX4_removeKey_5 ?_
  refine V.callV1v hC (c_X1_draft hG hX.1 hX.2.2.1) mwX1_draft mlX4_33 (hG.at 23 rfl) rfl rfl ⟨rfl, rfl⟩ dX4_removeKey_8 rfl ?_
  refine V.aload_n hC dX4_removeKey_11 rfl ?_
  refine gfX4_22 hG hC dX4_removeKey_12 ?_
  refine V.aload_n hC dX4_removeKey_15 rfl ?_
  refine gfX4_12 hG hC dX4_removeKey_16 ?_
  refine V.iload_n hC dX4_removeKey_19 rfl ?_
  refine V.callV1i hC (c_X0_dropKey (dk_disk1 hG)) mwX0_dropKey mlX4_48 (dk_disk1 hG).s (dk_disk1 hG).k rfl ⟨rfl, rfl⟩ dX4_removeKey_20 rfl ?_
  refine V.callV1i hC (c_X1_keep hG) mwX1_keep mlX4_41 (hG.at 23 rfl) rfl rfl ⟨rfl, rfl⟩ dX4_removeKey_23 rfl ?_
  exact V.iret hC (rfl) dX4_removeKey_26
set_option maxHeartbeats 2000000 in
set_option maxRecDepth 20000 in
theorem c_X4_setZone {l : Launch} {G : dkG}  {M : dkM} (hG : dk_cls G) (hX : xI M) {z : Int32}  : dk_Con l yX4_setZone cX4_setZone 2 (some .int) 4 86 G [.ref (G.1 + 0), .int z] M (some (.int (xU (dZone (hDraft M) 1 z)).1), (xU (dZone (hDraft M) 1 z)).2) := by
  refine dk_Con.of mwX4_setZone.1 (Nat.le_of_ble_eq_true rfl) (fun E hE hC => ?_)
  subst hE
  refine V.aload_n hC dX4_setZone_0 rfl ?_
  refine gfX4_22 hG hC dX4_setZone_1 ?_
  refine V.aload_n hC dX4_setZone_4 rfl ?_
  refine gfX4_12 hG hC dX4_setZone_5 ?_
  refine V.callV1v hC (c_X1_draft hG hX.1 hX.2.2.1) mwX1_draft mlX4_33 (hG.at 23 rfl) rfl rfl ⟨rfl, rfl⟩ dX4_setZone_8 rfl ?_
  refine V.aload_n hC dX4_setZone_11 rfl ?_
  refine gfX4_22 hG hC dX4_setZone_12 ?_
  refine V.aload_n hC dX4_setZone_15 rfl ?_
  refine gfX4_12 hG hC dX4_setZone_16 ?_
  refine V.iload_n hC dX4_setZone_19 rfl ?_
  refine V.callV1i hC (c_X0_resizeZone (dk_disk1 hG)) mwX0_resizeZone mlX4_58 (dk_disk1 hG).s (dk_disk1 hG).k rfl ⟨rfl, rfl⟩ dX4_setZone_20 rfl ?_
  refine V.callV1i hC (c_X1_keep hG) mwX1_keep mlX4_41 (hG.at 23 rfl) rfl rfl ⟨rfl, rfl⟩ dX4_setZone_23 rfl ?_
  exact V.iret hC (rfl) dX4_setZone_26
set_option maxHeartbeats 2000000 in
set_option maxRecDepth 20000 in
theorem c_X4_setJournal {l : Launch} {G : dkG}  {M : dkM} (hG : dk_cls G) (hX : xI M) {on : Int32}  : dk_Con l yX4_setJournal cX4_setJournal 2 (some .int) 4 86 G [.ref (G.1 + 0), .int on] M (some (.int (xU (dJour (hDraft M) 1 on)).1), (xU (dJour (hDraft M) 1 on)).2) := by
  refine dk_Con.of mwX4_setJournal.1 (Nat.le_of_ble_eq_true rfl) (fun E hE hC => ?_)
  subst hE
  refine V.aload_n hC dX4_setJournal_0 rfl ?_
  refine gfX4_22 hG hC dX4_setJournal_1 ?_
  refine V.aload_n hC dX4_setJournal_4 rfl ?_
  refine gfX4_12 hG hC dX4_setJournal_5 ?_
  refine V.callV1v hC (c_X1_draft hG hX.1 hX.2.2.1) mwX1_draft mlX4_33 (hG.at 23 rfl) rfl rfl ⟨rfl, rfl⟩ dX4_setJournal_8 rfl ?_
  refine V.aload_n hC dX4_setJournal_11 rfl ?_
  refine gfX4_22 hG hC dX4_setJournal_12 ?_
  refine V.aload_n hC dX4_setJournal_15 rfl ?_
  refine gfX4_12 hG hC dX4_setJournal_16 ?_
  refine V.iload_n hC dX4_setJournal_19 rfl ?_
  refine V.callV1i hC (c_X0_switchJournal (dk_disk1 hG)) mwX0_switchJournal mlX4_61 (dk_disk1 hG).s (dk_disk1 hG).k rfl ⟨rfl, rfl⟩ dX4_setJournal_20 rfl ?_
  refine V.callV1i hC (c_X1_keep hG) mwX1_keep mlX4_41 (hG.at 23 rfl) rfl rfl ⟨rfl, rfl⟩ dX4_setJournal_23 rfl ?_
  exact V.iret hC (rfl) dX4_setJournal_26
set_option maxHeartbeats 2000000 in
set_option maxRecDepth 20000 in
theorem c_X4_start {l : Launch} {G : dkG}  {M : dkM} (hG : dk_cls G) (hX : xI M) {k : Int32}  : dk_Con l yX4_start cX4_start 2 (some .int) 5 106 G [.ref (G.1 + 0), .int k] M (some (.int (xU (dBegin (hDraft M) 1 k)).1), (xU (dBegin (hDraft M) 1 k)).2) := by
  refine dk_Con.of mwX4_start.1 (Nat.le_of_ble_eq_true rfl) (fun E hE hC => ?_)
  subst hE
  refine V.aload_n hC dX4_start_0 rfl ?_
  refine gfX4_22 hG hC dX4_start_1 ?_
  refine V.aload_n hC dX4_start_4 rfl ?_
  refine gfX4_12 hG hC dX4_start_5 ?_
  refine V.callV1v hC (c_X1_draft hG hX.1 hX.2.2.1) mwX1_draft mlX4_33 (hG.at 23 rfl) rfl rfl ⟨rfl, rfl⟩ dX4_start_8 rfl ?_
  refine V.aload_n hC dX4_start_11 rfl ?_
  refine gfX4_22 hG hC dX4_start_12 ?_
  refine V.aload_n hC dX4_start_15 rfl ?_
  refine gfX4_12 hG hC dX4_start_16 ?_
  refine V.iload_n hC dX4_start_19 rfl ?_
  refine V.callV1i hC (c_X0_begin (dk_disk1 hG)) mwX0_begin mlX4_64 (dk_disk1 hG).s (dk_disk1 hG).k rfl ⟨rfl, rfl⟩ dX4_start_20 rfl ?_
  refine V.callV1i hC (c_X1_keep hG) mwX1_keep mlX4_41 (hG.at 23 rfl) rfl rfl ⟨rfl, rfl⟩ dX4_start_23 rfl ?_
  exact V.iret hC (rfl) dX4_start_26
set_option maxHeartbeats 2000000 in
set_option maxRecDepth 20000 in
theorem c_X4_steps {l : Launch} {G : dkG}  {M : dkM} (hG : dk_cls G) (hX : xI M) {n : Int32}  : dk_Con l yX4_steps cX4_steps 2 (some .int) 5 111 G [.ref (G.1 + 0), .int n] M (some (.int (xU (dAdv (hDraft M) 1 n)).1), (xU (dAdv (hDraft M) 1 n)).2) := by
  refine dk_Con.of mwX4_steps.1 (Nat.le_of_ble_eq_true rfl) (fun E hE hC => ?_)
  subst hE
  refine V.aload_n hC dX4_steps_0 rfl ?_
  refine gfX4_22 hG hC dX4_steps_1 ?_
  refine V.aload_n hC dX4_steps_4 rfl ?_
  refine gfX4_12 hG hC dX4_steps_5 ?_
  refine V.callV1v hC (c_X1_draft hG hX.1 hX.2.2.1) mwX1_draft mlX4_33 (hG.at 23 rfl) rfl rfl ⟨rfl, rfl⟩ dX4_steps_8 rfl ?_
  refine V.aload_n hC dX4_steps_11 rfl ?_
  refine gfX4_22 hG hC dX4_steps_12 ?_
  refine V.aload_n hC dX4_steps_15 rfl ?_
  refine gfX4_12 hG hC dX4_steps_16 ?_
  refine V.iload_n hC dX4_steps_19 rfl ?_
  refine V.callV1i hC (c_X0_advance (dk_disk1 hG) hX.draft) mwX0_advance mlX4_67 (dk_disk1 hG).s (dk_disk1 hG).k rfl ⟨rfl, rfl⟩ dX4_steps_20 rfl ?_
  refine V.callV1i hC (c_X1_keep hG) mwX1_keep mlX4_41 (hG.at 23 rfl) rfl rfl ⟨rfl, rfl⟩ dX4_steps_23 rfl ?_
  exact V.iret hC (rfl) dX4_steps_26
set_option maxHeartbeats 2000000 in
set_option maxRecDepth 20000 in
theorem c_X4_turnBack {l : Launch} {G : dkG}  {M : dkM} (hG : dk_cls G) (hX : xI M)  : dk_Con l yX4_turnBack cX4_turnBack 1 (some .int) 5 105 G [.ref (G.1 + 0)] M (some (.int (xU (dTurn (hDraft M) 1)).1), (xU (dTurn (hDraft M) 1)).2) := by
  refine dk_Con.of mwX4_turnBack.1 (Nat.le_of_ble_eq_true rfl) (fun E hE hC => ?_)
  subst hE
  refine V.aload_n hC dX4_turnBack_0 rfl ?_
  refine gfX4_22 hG hC dX4_turnBack_1 ?_
  refine V.aload_n hC dX4_turnBack_4 rfl ?_
  refine gfX4_12 hG hC dX4_turnBack_5 ?_
  refine V.callV1v hC (c_X1_draft hG hX.1 hX.2.2.1) mwX1_draft mlX4_33 (hG.at 23 rfl) rfl rfl ⟨rfl, rfl⟩ dX4_turnBack_8 rfl ?_
  refine V.aload_n hC dX4_turnBack_11 rfl ?_
  refine gfX4_22 hG hC dX4_turnBack_12 ?_
  refine V.aload_n hC dX4_turnBack_15 rfl ?_
  refine gfX4_12 hG hC dX4_turnBack_16 ?_
  refine V.callV0i hC (c_X0_turn (dk_disk1 hG)) mwX0_turn mlX4_70 (dk_disk1 hG).s (dk_disk1 hG).k rfl ⟨rfl, rfl⟩ dX4_turnBack_19 rfl ?_
  refine V.callV1i hC (c_X1_keep hG) mwX1_keep mlX4_41 (hG.at 23 rfl) rfl rfl ⟨rfl, rfl⟩ dX4_turnBack_22 rfl ?_
  exact V.iret hC (rfl) dX4_turnBack_25
set_option maxHeartbeats 2000000 in
set_option maxRecDepth 20000 in
theorem c_X4_write {l : Launch} {G : dkG}  {M : dkM} (hG : dk_cls G) (hX : xI M) {s : Int32} {v : Int32}  : dk_Con l yX4_write cX4_write 3 (some .int) 4 86 G [.ref (G.1 + 0), .int s, .int v] M (some (.int (xU (dPut (hDraft M) 1 s v)).1), (xU (dPut (hDraft M) 1 s v)).2) := by
  refine dk_Con.of mwX4_write.1 (Nat.le_of_ble_eq_true rfl) (fun E hE hC => ?_)
  subst hE
  refine V.aload_n hC dX4_write_0 rfl ?_
  refine gfX4_22 hG hC dX4_write_1 ?_
  refine V.aload_n hC dX4_write_4 rfl ?_
  refine gfX4_12 hG hC dX4_write_5 ?_
  refine V.callV1v hC (c_X1_draft hG hX.1 hX.2.2.1) mwX1_draft mlX4_33 (hG.at 23 rfl) rfl rfl ⟨rfl, rfl⟩ dX4_write_8 rfl ?_
  refine V.aload_n hC dX4_write_11 rfl ?_
  refine gfX4_22 hG hC dX4_write_12 ?_
  refine V.aload_n hC dX4_write_15 rfl ?_
  refine gfX4_12 hG hC dX4_write_16 ?_
  refine V.iload_n hC dX4_write_19 rfl ?_
  refine V.iload_n hC dX4_write_20 rfl ?_
  refine V.callV2i hC (c_X0_put (dk_disk1 hG)) mwX0_put mlX4_74 (dk_disk1 hG).s (dk_disk1 hG).k rfl ⟨rfl, rfl⟩ dX4_write_21 rfl ?_
  refine V.callV1i hC (c_X1_keep hG) mwX1_keep mlX4_41 (hG.at 23 rfl) rfl rfl ⟨rfl, rfl⟩ dX4_write_24 rfl ?_
  exact V.iret hC (rfl) dX4_write_27
set_option maxHeartbeats 2000000 in
set_option maxRecDepth 20000 in
theorem c_X4_flush {l : Launch} {G : dkG}  {M : dkM} (hG : dk_cls G) (hX : xI M)  : dk_Con l yX4_flush cX4_flush 1 (some .int) 5 107 G [.ref (G.1 + 0)] M (some (.int (xU (nI (flN (hDraft M) 1 (ix (hDraft M 1 5))), flM (hDraft M) 1 (ix (hDraft M 1 5)))).1), (xU (nI (flN (hDraft M) 1 (ix (hDraft M 1 5))), flM (hDraft M) 1 (ix (hDraft M 1 5)))).2) := by
  refine dk_Con.of mwX4_flush.1 (Nat.le_of_ble_eq_true rfl) (fun E hE hC => ?_)
  subst hE
  refine V.aload_n hC dX4_flush_0 rfl ?_
  refine gfX4_22 hG hC dX4_flush_1 ?_
  refine V.aload_n hC dX4_flush_4 rfl ?_
  refine gfX4_12 hG hC dX4_flush_5 ?_
  refine V.callV1v hC (c_X1_draft hG hX.1 hX.2.2.1) mwX1_draft mlX4_33 (hG.at 23 rfl) rfl rfl ⟨rfl, rfl⟩ dX4_flush_8 rfl ?_
  refine V.aload_n hC dX4_flush_11 rfl ?_
  refine gfX4_22 hG hC dX4_flush_12 ?_
  refine V.aload_n hC dX4_flush_15 rfl ?_
  refine gfX4_12 hG hC dX4_flush_16 ?_
  refine V.callV0i hC (c_X0_flushCache (dk_disk1 hG)) mwX0_flushCache mlX4_77 (dk_disk1 hG).s (dk_disk1 hG).k rfl ⟨rfl, rfl⟩ dX4_flush_19 rfl ?_
  refine V.callV1i hC (c_X1_keep hG) mwX1_keep mlX4_41 (hG.at 23 rfl) rfl rfl ⟨rfl, rfl⟩ dX4_flush_22 rfl ?_
  exact V.iret hC (rfl) dX4_flush_25
set_option maxHeartbeats 2000000 in
set_option maxRecDepth 20000 in
theorem c_X4_fail {l : Launch} {G : dkG}  {M : dkM} (hG : dk_cls G) (hX : xI M)  : dk_Con l yX4_fail cX4_fail 1 (some .int) 5 108 G [.ref (G.1 + 0)] M (some (.int (xU (nI (lpN (hDraft M) 1 (ix (hDraft M 1 5))), dFail (hDraft M) 1)).1), (xU (nI (lpN (hDraft M) 1 (ix (hDraft M 1 5))), dFail (hDraft M) 1)).2) := by
  refine dk_Con.of mwX4_fail.1 (Nat.le_of_ble_eq_true rfl) (fun E hE hC => ?_)
  subst hE
  refine V.aload_n hC dX4_fail_0 rfl ?_
  refine gfX4_22 hG hC dX4_fail_1 ?_
  refine V.aload_n hC dX4_fail_4 rfl ?_
  refine gfX4_12 hG hC dX4_fail_5 ?_
  refine V.callV1v hC (c_X1_draft hG hX.1 hX.2.2.1) mwX1_draft mlX4_33 (hG.at 23 rfl) rfl rfl ⟨rfl, rfl⟩ dX4_fail_8 rfl ?_
  refine V.aload_n hC dX4_fail_11 rfl ?_
  refine gfX4_22 hG hC dX4_fail_12 ?_
  refine V.aload_n hC dX4_fail_15 rfl ?_
  refine gfX4_12 hG hC dX4_fail_16 ?_
  refine V.callV0i hC (c_X0_losePower (dk_disk1 hG)) mwX0_losePower mlX4_80 (dk_disk1 hG).s (dk_disk1 hG).k rfl ⟨rfl, rfl⟩ dX4_fail_19 rfl ?_
  refine V.callV1i hC (c_X1_keep hG) mwX1_keep mlX4_41 (hG.at 23 rfl) rfl rfl ⟨rfl, rfl⟩ dX4_fail_22 rfl ?_
  exact V.iret hC (rfl) dX4_fail_25
set_option maxHeartbeats 2000000 in
set_option maxRecDepth 20000 in
theorem c_X4_secretOf {l : Launch} {G : dkG}  {M : dkM} (hG : dk_cls G) {k : Int32}  : dk_Con l yX4_secretOf cX4_secretOf 2 (some .int) 2 42 G [.ref (G.1 + 0), .int k] M (some (.int (xSecret M k)), M) := by
  refine dk_Con.of mwX4_secretOf.1 (Nat.le_of_ble_eq_true rfl) (fun E hE hC => ?_)
  subst hE
  refine V.aload_n hC dX4_secretOf_0 rfl ?_
  refine gfX4_12 hG hC dX4_secretOf_1 ?_
  refine V.iload_n hC dX4_secretOf_4 rfl ?_
  refine V.callV1i hC (c_X0_hasKey (dk_disk1 hG)) mwX0_hasKey mlX4_51 (dk_disk1 hG).s (dk_disk1 hG).k rfl ⟨rfl, rfl⟩ dX4_secretOf_5 rfl ?_
  refine V.if_eqB hC 22 dX4_secretOf_8 (by decide) (fun c_1 => ?_) (fun c_1 => ?_)
  · refine V.iconst hC (-1) dX4_secretOf_22 (by decide) ?_
    exact V.iret hC (by first | (simp [xSecret, c_1]; done) | (simp_all [xSecret]; done)) dX4_secretOf_23
  · refine V.aload_n hC dX4_secretOf_11 rfl ?_
    refine gfX4_12 hG hC dX4_secretOf_12 ?_
    refine V.iload_n hC dX4_secretOf_15 rfl ?_
    refine V.callV1i hC (c_X0_secretBehind (dk_disk1 hG)) mwX0_secretBehind mlX4_55 (dk_disk1 hG).s (dk_disk1 hG).k rfl ⟨rfl, rfl⟩ dX4_secretOf_16 rfl ?_
    refine V.goto hC 23 dX4_secretOf_19 (by decide) ?_
    exact V.iret hC (by first | (simp [xSecret, c_1]; done) | (simp_all [xSecret]; done)) dX4_secretOf_23
set_option maxHeartbeats 2000000 in
set_option maxRecDepth 20000 in
theorem c_X4_count {l : Launch} {G : dkG}  {M : dkM} (hG : dk_cls G) {w : Int32}  : dk_Con l yX4_count cX4_count 2 (some .int) 2 43 G [.ref (G.1 + 0), .int w] M (some (.int (xCount M w)), M) := by
  refine dk_Con.of mwX4_count.1 (Nat.le_of_ble_eq_true rfl) (fun E hE hC => ?_)
  subst hE
  refine V.iload_n hC dX4_count_0 rfl ?_
  refine V.if_lt hC 10 dX4_count_1 (by decide) (fun c_1 => ?_) (fun c_1 => ?_)
  · refine V.bipush hC (-2) dX4_count_10 (by decide) ?_
    exact V.iret hC (by first | (simp [xCount, c_1, dk_lt1 c_1]; done) | (simp_all [xCount]; done)) dX4_count_12
  · refine V.iload_n hC dX4_count_4 rfl ?_
    refine V.bipush hC 13 dX4_count_5 (by decide) ?_
    refine V.icmp_lt hC 13 dX4_count_7 (by decide) (fun c_2 => ?_) (fun c_2 => ?_)
    · refine V.iload_n hC dX4_count_13 rfl ?_
      refine V.iconst hC 2 dX4_count_14 (by decide) ?_
      refine V.icmp_lt hC 34 dX4_count_15 (by decide) (fun c_3 => ?_) (fun c_3 => ?_)
      · refine V.aload_n hC dX4_count_34 rfl ?_
        refine gfX4_12 hG hC dX4_count_35 ?_
        refine V.iload_n hC dX4_count_38 rfl ?_
        refine V.callV1i hC (c_X0_number (dk_disk1 hG)) mwX0_number mlX4_86 (dk_disk1 hG).s (dk_disk1 hG).k rfl ⟨rfl, rfl⟩ dX4_count_39 rfl ?_
        exact V.iret hC (by first | (simp [xCount, c_1, dk_nlt c_1, c_2, dk_lt1 c_2, c_3, dk_lt1 c_3]; done) | (simp_all [xCount]; done)) dX4_count_42
      · refine V.iload_n hC dX4_count_18 rfl ?_
        refine V.iconst hC 4 dX4_count_19 (by decide) ?_
        refine V.icmp_gt hC 34 dX4_count_20 (by decide) (fun c_4 => ?_) (fun c_4 => ?_)
        · refine V.aload_n hC dX4_count_34 rfl ?_
          refine gfX4_12 hG hC dX4_count_35 ?_
          refine V.iload_n hC dX4_count_38 rfl ?_
          refine V.callV1i hC (c_X0_number (dk_disk1 hG)) mwX0_number mlX4_86 (dk_disk1 hG).s (dk_disk1 hG).k rfl ⟨rfl, rfl⟩ dX4_count_39 rfl ?_
          exact V.iret hC (by first | (simp [xCount, c_1, dk_nlt c_1, c_2, dk_lt1 c_2, c_3, dk_nlt c_3, c_4, dk_lt1 c_4]; done) | (simp_all [xCount]; done)) dX4_count_42
        · refine V.aload_n hC dX4_count_23 rfl ?_
          refine gfX4_12 hG hC dX4_count_24 ?_
          refine V.iload_n hC dX4_count_27 rfl ?_
          refine V.callV1i hC (c_X0_numberOfRekeying (dk_disk1 hG)) mwX0_numberOfRekeying mlX4_83 (dk_disk1 hG).s (dk_disk1 hG).k rfl ⟨rfl, rfl⟩ dX4_count_28 rfl ?_
          refine V.goto hC 42 dX4_count_31 (by decide) ?_
          exact V.iret hC (by first | (simp [xCount, c_1, dk_nlt c_1, c_2, dk_lt1 c_2, c_3, dk_nlt c_3, c_4, dk_nlt c_4]; done) | (simp_all [xCount]; done)) dX4_count_42
    · refine V.bipush hC (-2) dX4_count_10 (by decide) ?_
      exact V.iret hC (by first | (simp [xCount, c_1, dk_nlt c_1, c_2, dk_nlt c_2]; done) | (simp_all [xCount]; done)) dX4_count_12
set_option maxHeartbeats 2000000 in
set_option maxRecDepth 20000 in
theorem c_X4_read {l : Launch} {G : dkG}  {M : dkM} (hG : dk_cls G) {s : Int32}  : dk_Con l yX4_read cX4_read 2 (some .int) 4 86 G [.ref (G.1 + 0), .int s] M (some (.int (xRead M s)), M) := by
  refine dk_Con.of mwX4_read.1 (Nat.le_of_ble_eq_true rfl) (fun E hE hC => ?_)
  subst hE
  refine V.aload_n hC dX4_read_0 rfl ?_
  refine gfX4_12 hG hC dX4_read_1 ?_
  refine V.iload_n hC dX4_read_4 rfl ?_
  refine V.callV1i hC (c_X0_hasSector (dk_disk1 hG)) mwX0_hasSector mlX4_89 (dk_disk1 hG).s (dk_disk1 hG).k rfl ⟨rfl, rfl⟩ dX4_read_5 rfl ?_
  refine V.if_eqB hC 22 dX4_read_8 (by decide) (fun c_1 => ?_) (fun c_1 => ?_)
  · refine V.iconst hC (-1) dX4_read_22 (by decide) ?_
    exact V.iret hC (by first | (simp [xRead, c_1]; done) | (simp_all [xRead]; done)) dX4_read_23
  · refine V.aload_n hC dX4_read_11 rfl ?_
    refine gfX4_12 hG hC dX4_read_12 ?_
    refine V.iload_n hC dX4_read_15 rfl ?_
    refine V.callV1i hC (c_X0_valueIn (dk_disk1 hG)) mwX0_valueIn mlX4_92 (dk_disk1 hG).s (dk_disk1 hG).k rfl ⟨rfl, rfl⟩ dX4_read_16 rfl ?_
    refine V.goto hC 23 dX4_read_19 (by decide) ?_
    exact V.iret hC (by first | (simp [xRead, c_1]; done) | (simp_all [xRead]; done)) dX4_read_23
set_option maxHeartbeats 2000000 in
set_option maxRecDepth 20000 in
theorem c_X4_stored {l : Launch} {G : dkG}  {M : dkM} (hG : dk_cls G) {s : Int32}  : dk_Con l yX4_stored cX4_stored 2 (some .int) 2 42 G [.ref (G.1 + 0), .int s] M (some (.int (xStored M s)), M) := by
  refine dk_Con.of mwX4_stored.1 (Nat.le_of_ble_eq_true rfl) (fun E hE hC => ?_)
  subst hE
  refine V.aload_n hC dX4_stored_0 rfl ?_
  refine gfX4_12 hG hC dX4_stored_1 ?_
  refine V.iload_n hC dX4_stored_4 rfl ?_
  refine V.callV1i hC (c_X0_hasSector (dk_disk1 hG)) mwX0_hasSector mlX4_89 (dk_disk1 hG).s (dk_disk1 hG).k rfl ⟨rfl, rfl⟩ dX4_stored_5 rfl ?_
  refine V.if_eqB hC 22 dX4_stored_8 (by decide) (fun c_1 => ?_) (fun c_1 => ?_)
  · refine V.iconst hC (-1) dX4_stored_22 (by decide) ?_
    exact V.iret hC (by first | (simp [xStored, c_1]; done) | (simp_all [xStored]; done)) dX4_stored_23
  · refine V.aload_n hC dX4_stored_11 rfl ?_
    refine gfX4_12 hG hC dX4_stored_12 ?_
    refine V.iload_n hC dX4_stored_15 rfl ?_
    refine V.callV1i hC (c_X0_scrambledIn (dk_disk1 hG)) mwX0_scrambledIn mlX4_95 (dk_disk1 hG).s (dk_disk1 hG).k rfl ⟨rfl, rfl⟩ dX4_stored_16 rfl ?_
    refine V.goto hC 23 dX4_stored_19 (by decide) ?_
    exact V.iret hC (by first | (simp [xStored, c_1]; done) | (simp_all [xStored]; done)) dX4_stored_23
set_option maxHeartbeats 2000000 in
set_option maxRecDepth 20000 in
theorem c_X4_keyOf {l : Launch} {G : dkG}  {M : dkM} (hG : dk_cls G) {s : Int32}  : dk_Con l yX4_keyOf cX4_keyOf 2 (some .int) 3 64 G [.ref (G.1 + 0), .int s] M (some (.int (xKeyOf M s)), M) := by
  refine dk_Con.of mwX4_keyOf.1 (Nat.le_of_ble_eq_true rfl) (fun E hE hC => ?_)
  subst hE
  refine V.aload_n hC dX4_keyOf_0 rfl ?_
  refine gfX4_12 hG hC dX4_keyOf_1 ?_
  refine V.iload_n hC dX4_keyOf_4 rfl ?_
  refine V.callV1i hC (c_X0_hasSector (dk_disk1 hG)) mwX0_hasSector mlX4_89 (dk_disk1 hG).s (dk_disk1 hG).k rfl ⟨rfl, rfl⟩ dX4_keyOf_5 rfl ?_
  refine V.if_eqB hC 22 dX4_keyOf_8 (by decide) (fun c_1 => ?_) (fun c_1 => ?_)
  · refine V.iconst hC (-1) dX4_keyOf_22 (by decide) ?_
    exact V.iret hC (by first | (simp [xKeyOf, c_1]; done) | (simp_all [xKeyOf]; done)) dX4_keyOf_23
  · refine V.aload_n hC dX4_keyOf_11 rfl ?_
    refine gfX4_12 hG hC dX4_keyOf_12 ?_
    refine V.iload_n hC dX4_keyOf_15 rfl ?_
    refine V.callV1i hC (c_X0_keyAt (dk_disk1 hG)) mwX0_keyAt mlX4_98 (dk_disk1 hG).s (dk_disk1 hG).k rfl ⟨rfl, rfl⟩ dX4_keyOf_16 rfl ?_
    refine V.goto hC 23 dX4_keyOf_19 (by decide) ?_
    exact V.iret hC (by first | (simp [xKeyOf, c_1]; done) | (simp_all [xKeyOf]; done)) dX4_keyOf_23
set_option maxHeartbeats 2000000 in
set_option maxRecDepth 20000 in
theorem c_X4_orNone {l : Launch} {G : dkG}  {M : dkM} {x : Int32}  : dk_Con l yX4_orNone cX4_orNone 1 (some .int) 0 0 G [.int x] M (some (.int (orN x)), M) := by
  refine dk_Con.of mwX4_orNone.1 (Nat.le_of_ble_eq_true rfl) (fun E hE hC => ?_)
  subst hE
  refine V.iload_n hC dX4_orNone_0 rfl ?_
  refine V.iconst hC (-1) dX4_orNone_1 (by decide) ?_
  refine V.icmp_ne hC 10 dX4_orNone_2 (by decide) (fun c_1 => ?_) (fun c_1 => ?_)
  · refine V.iload_n hC dX4_orNone_10 rfl ?_
    exact V.iret hC (by first | (simp [orN, c_1]; done) | (simp_all [orN]; done)) dX4_orNone_11
  · refine V.bipush hC (-6) dX4_orNone_5 (by decide) ?_
    refine V.goto hC 11 dX4_orNone_7 (by decide) ?_
    exact V.iret hC (by first | (simp [orN, c_1]; done) | (simp_all [orN]; done)) dX4_orNone_11
set_option maxHeartbeats 2000000 in
set_option maxRecDepth 20000 in
theorem c_X4_journal {l : Launch} {G : dkG}  {M : dkM} (hG : dk_cls G) {s : Int32}  : dk_Con l yX4_journal cX4_journal 2 (some .int) 2 42 G [.ref (G.1 + 0), .int s] M (some (.int (xJournal M s)), M) := by
  refine dk_Con.of mwX4_journal.1 (Nat.le_of_ble_eq_true rfl) (fun E hE hC => ?_)
  subst hE
  refine V.aload_n hC dX4_journal_0 rfl ?_
  refine gfX4_12 hG hC dX4_journal_1 ?_
  refine V.iload_n hC dX4_journal_4 rfl ?_
  refine V.callV1i hC (c_X0_hasSector (dk_disk1 hG)) mwX0_hasSector mlX4_89 (dk_disk1 hG).s (dk_disk1 hG).k rfl ⟨rfl, rfl⟩ dX4_journal_5 rfl ?_
  refine V.if_eqB hC 25 dX4_journal_8 (by decide) (fun c_1 => ?_) (fun c_1 => ?_)
  · refine V.iconst hC (-1) dX4_journal_25 (by decide) ?_
    exact V.iret hC (by first | (simp [xJournal, c_1]; done) | (simp_all [xJournal]; done)) dX4_journal_26
  · refine V.aload_n hC dX4_journal_11 rfl ?_
    refine gfX4_12 hG hC dX4_journal_12 ?_
    refine V.iload_n hC dX4_journal_15 rfl ?_
    refine V.callV1i hC (c_X0_inJournal (dk_disk1 hG)) mwX0_inJournal mlX4_101 (dk_disk1 hG).s (dk_disk1 hG).k rfl ⟨rfl, rfl⟩ dX4_journal_16 rfl ?_
    refine V.callS1i hC (c_X4_orNone) mwX4_orNone mlX4_104 ⟨rfl, rfl⟩ dX4_journal_19 rfl ?_
    refine V.goto hC 26 dX4_journal_22 (by decide) ?_
    exact V.iret hC (by first | (simp [xJournal, c_1]; done) | (simp_all [xJournal]; done)) dX4_journal_26
set_option maxHeartbeats 2000000 in
set_option maxRecDepth 20000 in
theorem c_X4_cached {l : Launch} {G : dkG}  {M : dkM} (hG : dk_cls G) {s : Int32}  : dk_Con l yX4_cached cX4_cached 2 (some .int) 2 42 G [.ref (G.1 + 0), .int s] M (some (.int (xCached M s)), M) := by
  refine dk_Con.of mwX4_cached.1 (Nat.le_of_ble_eq_true rfl) (fun E hE hC => ?_)
  subst hE
  refine V.aload_n hC dX4_cached_0 rfl ?_
  refine gfX4_12 hG hC dX4_cached_1 ?_
  refine V.iload_n hC dX4_cached_4 rfl ?_
  refine V.callV1i hC (c_X0_hasSector (dk_disk1 hG)) mwX0_hasSector mlX4_89 (dk_disk1 hG).s (dk_disk1 hG).k rfl ⟨rfl, rfl⟩ dX4_cached_5 rfl ?_
  refine V.if_eqB hC 25 dX4_cached_8 (by decide) (fun c_1 => ?_) (fun c_1 => ?_)
  · refine V.iconst hC (-1) dX4_cached_25 (by decide) ?_
    exact V.iret hC (by first | (simp [xCached, c_1]; done) | (simp_all [xCached]; done)) dX4_cached_26
  · refine V.aload_n hC dX4_cached_11 rfl ?_
    refine gfX4_12 hG hC dX4_cached_12 ?_
    refine V.iload_n hC dX4_cached_15 rfl ?_
    refine V.callV1i hC (c_X0_inCache (dk_disk1 hG)) mwX0_inCache mlX4_107 (dk_disk1 hG).s (dk_disk1 hG).k rfl ⟨rfl, rfl⟩ dX4_cached_16 rfl ?_
    refine V.callS1i hC (c_X4_orNone) mwX4_orNone mlX4_104 ⟨rfl, rfl⟩ dX4_cached_19 rfl ?_
    refine V.goto hC 26 dX4_cached_22 (by decide) ?_
    exact V.iret hC (by first | (simp [xCached, c_1]; done) | (simp_all [xCached]; done)) dX4_cached_26
set_option maxHeartbeats 2000000 in
set_option maxRecDepth 20000 in
theorem c_X4_zoneStart {l : Launch} {G : dkG}  {M : dkM} (hG : dk_cls G)  : dk_Con l yX4_zoneStart cX4_zoneStart 1 (some .int) 2 41 G [.ref (G.1 + 0)] M (some (.int (xZone M)), M) := by
  refine dk_Con.of mwX4_zoneStart.1 (Nat.le_of_ble_eq_true rfl) (fun E hE hC => ?_)
  subst hE
  refine V.aload_n hC dX4_zoneStart_0 rfl ?_
  refine gfX4_12 hG hC dX4_zoneStart_1 ?_
  refine V.callV0i hC (c_X0_isRekeying (dk_disk1 hG)) mwX0_isRekeying mlX4_110 (dk_disk1 hG).s (dk_disk1 hG).k rfl ⟨rfl, rfl⟩ dX4_zoneStart_4 rfl ?_
  refine V.if_eqB hC 20 dX4_zoneStart_7 (by decide) (fun c_1 => ?_) (fun c_1 => ?_)
  · refine V.bipush hC (-3) dX4_zoneStart_20 (by decide) ?_
    exact V.iret hC (by first | (simp [xZone, c_1]; done) | (simp_all [xZone]; done)) dX4_zoneStart_22
  · refine V.aload_n hC dX4_zoneStart_10 rfl ?_
    refine gfX4_12 hG hC dX4_zoneStart_11 ?_
    refine V.callV0i hC (c_X0_zoneFirst (dk_disk1 hG)) mwX0_zoneFirst mlX4_114 (dk_disk1 hG).s (dk_disk1 hG).k rfl ⟨rfl, rfl⟩ dX4_zoneStart_14 rfl ?_
    refine V.goto hC 22 dX4_zoneStart_17 (by decide) ?_
    exact V.iret hC (by first | (simp [xZone, c_1]; done) | (simp_all [xZone]; done)) dX4_zoneStart_22
set_option maxHeartbeats 2000000 in
set_option maxRecDepth 20000 in
theorem c_X4_damaged {l : Launch} {G : dkG}  {M : dkM} (hG : dk_cls G)  : dk_Con l yX4_damaged cX4_damaged 1 (some .int) 5 108 G [.ref (G.1 + 0)] M (some (.int (xDam M)), M) := by
  refine dk_Con.of mwX4_damaged.1 (Nat.le_of_ble_eq_true rfl) (fun E hE hC => ?_)
  subst hE
  refine V.aload_n hC dX4_damaged_0 rfl ?_
  refine gfX4_12 hG hC dX4_damaged_1 ?_
  refine V.callV0i hC (c_X0_damageCount (dk_disk1 hG)) mwX0_damageCount mlX4_117 (dk_disk1 hG).s (dk_disk1 hG).k rfl ⟨rfl, rfl⟩ dX4_damaged_4 rfl ?_
  exact V.iret hC (rfl) dX4_damaged_7
set_option maxHeartbeats 2000000 in
set_option maxRecDepth 20000 in
theorem c_X4_firstDamaged {l : Launch} {G : dkG}  {M : dkM} (hG : dk_cls G)  : dk_Con l yX4_firstDamaged cX4_firstDamaged 1 (some .int) 5 107 G [.ref (G.1 + 0)] M (some (.int (xFirst M)), M) := by
  refine dk_Con.of mwX4_firstDamaged.1 (Nat.le_of_ble_eq_true rfl) (fun E hE hC => ?_)
  subst hE
  refine V.aload_n hC dX4_firstDamaged_0 rfl ?_
  refine gfX4_12 hG hC dX4_firstDamaged_1 ?_
  refine V.callV0i hC (c_X0_firstDamage (dk_disk1 hG)) mwX0_firstDamage mlX4_120 (dk_disk1 hG).s (dk_disk1 hG).k rfl ⟨rfl, rfl⟩ dX4_firstDamaged_4 rfl ?_
  refine V.callS1i hC (c_X4_orNone) mwX4_orNone mlX4_104 ⟨rfl, rfl⟩ dX4_firstDamaged_7 rfl ?_
  exact V.iret hC (rfl) dX4_firstDamaged_10
set_option maxHeartbeats 2000000 in
set_option maxRecDepth 20000 in
theorem c_X4_stepsLeft {l : Launch} {G : dkG}  {M : dkM} (hG : dk_cls G)  : dk_Con l yX4_stepsLeft cX4_stepsLeft 1 (some .int) 4 85 G [.ref (G.1 + 0)] M (some (.int (xLeft M)), M) := by
  refine dk_Con.of mwX4_stepsLeft.1 (Nat.le_of_ble_eq_true rfl) (fun E hE hC => ?_)
  subst hE
  refine V.aload_n hC dX4_stepsLeft_0 rfl ?_
  refine gfX4_12 hG hC dX4_stepsLeft_1 ?_
  refine V.callV0i hC (c_X0_isRekeying (dk_disk1 hG)) mwX0_isRekeying mlX4_110 (dk_disk1 hG).s (dk_disk1 hG).k rfl ⟨rfl, rfl⟩ dX4_stepsLeft_4 rfl ?_
  refine V.if_eqB hC 20 dX4_stepsLeft_7 (by decide) (fun c_1 => ?_) (fun c_1 => ?_)
  · refine V.bipush hC (-3) dX4_stepsLeft_20 (by decide) ?_
    exact V.iret hC (by first | (simp [xLeft, c_1]; done) | (simp_all [xLeft]; done)) dX4_stepsLeft_22
  · refine V.aload_n hC dX4_stepsLeft_10 rfl ?_
    refine gfX4_12 hG hC dX4_stepsLeft_11 ?_
    refine V.callV0i hC (c_X0_stepsAhead (dk_disk1 hG)) mwX0_stepsAhead mlX4_123 (dk_disk1 hG).s (dk_disk1 hG).k rfl ⟨rfl, rfl⟩ dX4_stepsLeft_14 rfl ?_
    refine V.goto hC 22 dX4_stepsLeft_17 (by decide) ?_
    exact V.iret hC (by first | (simp [xLeft, c_1]; done) | (simp_all [xLeft]; done)) dX4_stepsLeft_22
set_option maxHeartbeats 2000000 in
set_option maxRecDepth 20000 in
theorem c_X4_ifFlushed {l : Launch} {G : dkG}  {M : dkM} (hG : dk_cls G) {s : Int32}  : dk_Con l yX4_ifFlushed cX4_ifFlushed 2 (some .int) 4 85 G [.ref (G.1 + 0), .int s] M (some (.int (xIfFl M s)), M) := by
  refine dk_Con.of mwX4_ifFlushed.1 (Nat.le_of_ble_eq_true rfl) (fun E hE hC => ?_)
  subst hE
  refine V.aload_n hC dX4_ifFlushed_0 rfl ?_
  refine gfX4_12 hG hC dX4_ifFlushed_1 ?_
  refine V.iload_n hC dX4_ifFlushed_4 rfl ?_
  refine V.callV1i hC (c_X0_hasSector (dk_disk1 hG)) mwX0_hasSector mlX4_89 (dk_disk1 hG).s (dk_disk1 hG).k rfl ⟨rfl, rfl⟩ dX4_ifFlushed_5 rfl ?_
  refine V.if_eqB hC 22 dX4_ifFlushed_8 (by decide) (fun c_1 => ?_) (fun c_1 => ?_)
  · refine V.iconst hC (-1) dX4_ifFlushed_22 (by decide) ?_
    exact V.iret hC (by first | (simp [xIfFl, c_1]; done) | (simp_all [xIfFl]; done)) dX4_ifFlushed_23
  · refine V.aload_n hC dX4_ifFlushed_11 rfl ?_
    refine gfX4_12 hG hC dX4_ifFlushed_12 ?_
    refine V.iload_n hC dX4_ifFlushed_15 rfl ?_
    refine V.callV1i hC (c_X0_scrambledAfterFlush (dk_disk1 hG)) mwX0_scrambledAfterFlush mlX4_135 (dk_disk1 hG).s (dk_disk1 hG).k rfl ⟨rfl, rfl⟩ dX4_ifFlushed_16 rfl ?_
    refine V.goto hC 23 dX4_ifFlushed_19 (by decide) ?_
    exact V.iret hC (by first | (simp [xIfFl, c_1]; done) | (simp_all [xIfFl]; done)) dX4_ifFlushed_23
set_option maxHeartbeats 2000000 in
set_option maxRecDepth 20000 in
theorem c_X4_type {l : Launch} {G : dkG}  {M : dkM} (hG : dk_cls G) {c : Int32}  : dk_Con l yX4_type cX4_type 2 (some .int) 2 43 G [.ref (G.1 + 0), .int c] M (some (.int (sApp M c).1), (sApp M c).2) := by
  refine dk_Con.of mwX4_type.1 (Nat.le_of_ble_eq_true rfl) (fun E hE hC => ?_)
  subst hE
  refine V.aload_n hC dX4_type_0 rfl ?_
  refine gfX4_29 hG hC dX4_type_1 ?_
  refine V.iload_n hC dX4_type_4 rfl ?_
  refine V.callV1i hC (c_X3_append hG) mwX3_append mlX4_138 (hG.at 102 rfl) rfl rfl ⟨rfl, rfl⟩ dX4_type_5 rfl ?_
  exact V.iret hC (rfl) dX4_type_8
set_option maxHeartbeats 2000000 in
set_option maxRecDepth 20000 in
theorem c_X4_clearText {l : Launch} {G : dkG}  {M : dkM} (hG : dk_cls G)  : dk_Con l yX4_clearText cX4_clearText 1 (some .int) 1 21 G [.ref (G.1 + 0)] M (some (.int (M 102 4)), dk_put M 102 4 0) := by
  refine dk_Con.of mwX4_clearText.1 (Nat.le_of_ble_eq_true rfl) (fun E hE hC => ?_)
  subst hE
  refine V.aload_n hC dX4_clearText_0 rfl ?_
  refine gfX4_29 hG hC dX4_clearText_1 ?_
  refine V.callV0i hC (c_X3_empty hG) mwX3_empty mlX4_141 (hG.at 102 rfl) rfl rfl ⟨rfl, rfl⟩ dX4_clearText_4 rfl ?_
  exact V.iret hC (rfl) dX4_clearText_7
set_option maxHeartbeats 2000000 in
set_option maxRecDepth 20000 in
theorem c_X4_syntaxError {l : Launch} {G : dkG}  {M : dkM} (hG : dk_cls G)  : dk_Con l yX4_syntaxError cX4_syntaxError 1 (some .int) 3 64 G [.ref (G.1 + 0)] M (some (.int (xErr M)), M) := by
  refine dk_Con.of mwX4_syntaxError.1 (Nat.le_of_ble_eq_true rfl) (fun E hE hC => ?_)
  subst hE
  refine V.aload_n hC dX4_syntaxError_0 rfl ?_
  refine gfX4_29 hG hC dX4_syntaxError_1 ?_
  refine V.callV0i hC (c_X3_firstError hG) mwX3_firstError mlX4_144 (hG.at 102 rfl) rfl rfl ⟨rfl, rfl⟩ dX4_syntaxError_4 rfl ?_
  exact V.iret hC (rfl) dX4_syntaxError_7
set_option maxHeartbeats 2000000 in
set_option maxRecDepth 20000 in
theorem c_X4_undo {l : Launch} {G : dkG}  {M : dkM} (hG : dk_cls G) (hX : xI M) : dk_Con l yX4_undo cX4_undo 1 (some .int) 4 87 G [.ref (G.1 + 0)] M (some (.int (hBack M).1), (hBack M).2) := by
  refine dk_Con.of mwX4_undo.1 (Nat.le_of_ble_eq_true rfl) (fun E hE hC => ?_)
  subst hE
  refine V.aload_n hC dX4_undo_0 rfl ?_
  refine gfX4_22 hG hC dX4_undo_1 ?_
  refine V.aload_n hC dX4_undo_4 rfl ?_
  refine gfX4_12 hG hC dX4_undo_5 ?_
  refine V.callV1i hC (c_X1_bringBack hG hX.1 hX.2.1) mwX1_bringBack mlX4_161 (hG.at 23 rfl) rfl rfl ⟨rfl, rfl⟩ dX4_undo_8 rfl ?_
  exact V.iret hC (rfl) dX4_undo_11
end
section
set_option maxHeartbeats 2000000 in
set_option maxRecDepth 20000 in
theorem c_X4_ifFailed {l : Launch} {G : dkG}  {M : dkM} (hG : dk_cls G) {st : Int32} (hX : xI M) : dk_Con l yX4_ifFailed cX4_ifFailed 3 (some .int) 4 89 G [.ref (G.1 + 0), .int st] M (some (.int (xIfFail M st).1), (xIfFail M st).2) := by
  refine dk_Con.of mwX4_ifFailed.1 (Nat.le_of_ble_eq_true rfl) (fun E hE hC => ?_)
  subst hE
  have hI0 : dI (dCopy M 12 1) 12 := dI_congr (dCopy_f (by decide) (by decide)) (dCopy_f (by decide) (by decide)) (dCopy_f (by decide) (by decide)) (show dI (fun _ => M 1) 12 from hX.2.2.2)
  have loop_27 : ∀ (n : Nat) (k : Nat) (M1 : dkM), (¬ st < 0) → (¬ 999 < st) → (dI M1 12) → (k ≤ ix st) → (ix st < k + n) → (advL 12 (ix st - k) M1 k = advL 12 (ix st) (dCopy M 12 1) 0) →  V E G 3 (some (.int (xIfFail M st).1), (xIfFail M st).2) (M1) 27 [(0, some (.ref (G.1 + 0))), (1, some (.int st)), (2, some (.int (nI k)))] [] := by
    intro n
    induction n with
    | zero => intro k M1 h1 h2 hI1 hk hn hT; exact absurd hn (by omega)
    | succ n ih_27 =>
      intro k M1 h1 h2 hI1 hk hn hT
      have hsz := ix_lt st
      refine V.iload_n hC dX4_ifFailed_27 rfl ?_
      refine V.iload_n hC dX4_ifFailed_28 rfl ?_
      refine V.icmp_ge hC 55 dX4_ifFailed_29 (by decide) (fun c_1 => ?_) (fun c_1 => ?_)
      · have hke : k = ix st := by have := (dk_gek (k := k) (by omega)).mp c_1; omega
        rw [hke, Nat.sub_self, advL] at hT
        refine V.aload_n hC dX4_ifFailed_55 rfl ?_
        refine gfX4_16 hG hC dX4_ifFailed_56 ?_
        refine V.callV0i hC (c_X0_damageAfterFailure (dk_disk12 hG)) mwX0_damageAfterFailure mlX4_132 (dk_disk12 hG).s (dk_disk12 hG).k rfl ⟨rfl, rfl⟩ dX4_ifFailed_59 rfl ?_
        exact V.iret hC (by simp only [xIfFail, h1, h2, if_false, ← hT]; rfl) dX4_ifFailed_62
      · have hkl : k < ix st := by have := mt (dk_gek (k := k) (by omega)).mpr c_1; omega
        refine V.aload_n hC dX4_ifFailed_32 rfl ?_
        refine gfX4_16 hG hC dX4_ifFailed_33 ?_
        refine V.callV0i hC (c_X0_isRekeying (dk_disk12 hG)) mwX0_isRekeying mlX4_110 (dk_disk12 hG).s (dk_disk12 hG).k rfl ⟨rfl, rfl⟩ dX4_ifFailed_36 rfl ?_
        refine V.if_eqB hC 55 dX4_ifFailed_39 (by decide) (fun c_2 => ?_) (fun c_2 => ?_)
        · rw [show ix st - k = ix st - (k + 1) + 1 by omega, advL, if_neg (by rw [c_2]; decide)] at hT
          refine V.aload_n hC dX4_ifFailed_55 rfl ?_
          refine gfX4_16 hG hC dX4_ifFailed_56 ?_
          refine V.callV0i hC (c_X0_damageAfterFailure (dk_disk12 hG)) mwX0_damageAfterFailure mlX4_132 (dk_disk12 hG).s (dk_disk12 hG).k rfl ⟨rfl, rfl⟩ dX4_ifFailed_59 rfl ?_
          exact V.iret hC (by simp only [xIfFail, h1, h2, if_false, ← hT]; rfl) dX4_ifFailed_62
        · refine V.aload_n hC dX4_ifFailed_42 rfl ?_
          refine gfX4_16 hG hC dX4_ifFailed_43 ?_
          refine V.callV0v hC (c_X0_makeStep (dk_disk12 hG) hI1) mwX0_makeStep mlX4_129 (dk_disk12 hG).s (dk_disk12 hG).k rfl ⟨rfl, rfl⟩ dX4_ifFailed_46 rfl ?_
          refine V.iinc hC dX4_ifFailed_49 rfl (dk_incN _) rfl ?_
          refine V.goto hC 27 dX4_ifFailed_52 (by decide) ?_
          exact V.sub (dk_sc rfl (dk_sc rfl (dk_sc rfl (dk_sn)))) (ih_27 (k + 1) (dStep M1 12) h1 h2 (dI_step hI1) (by omega) (by omega) (by rw [show ix st - k = ix st - (k + 1) + 1 by omega, advL, if_pos c_2] at hT; exact hT))
  refine V.iload_n hC dX4_ifFailed_0 rfl ?_
  refine V.if_lt hC 11 dX4_ifFailed_1 (by decide) (fun c_1 => ?_) (fun c_1 => ?_)
  · refine V.bipush hC (-2) dX4_ifFailed_11 (by decide) ?_
    exact V.iret hC (by first | (simp [xIfFail, c_1, dk_lt1 c_1]; done) | (simp_all [xIfFail]; done)) dX4_ifFailed_13
  · refine V.iload_n hC dX4_ifFailed_4 rfl ?_
    refine V.sipush hC 999 dX4_ifFailed_5 (by decide) ?_
    refine V.icmp_le hC 14 dX4_ifFailed_8 (by decide) (fun c_2 => ?_) (fun c_2 => ?_)
    · refine V.aload_n hC dX4_ifFailed_14 rfl ?_
      refine gfX4_16 hG hC dX4_ifFailed_15 ?_
      refine V.aload_n hC dX4_ifFailed_18 rfl ?_
      refine gfX4_12 hG hC dX4_ifFailed_19 ?_
      refine V.callV1v hC (c_X0_takeOver (dk_disk12 hG) (dk_disk1 hG) (by unfold apart; omega) hX.2.2.1) mwX0_takeOver mlX4_126 (dk_disk12 hG).s (dk_disk12 hG).k rfl ⟨rfl, rfl⟩ dX4_ifFailed_22 rfl ?_
      refine V.iconst hC 0 dX4_ifFailed_25 (by decide) ?_
      refine V.istore_n hC dX4_ifFailed_26 rfl rfl ?_
      exact V.sub (dk_sc rfl (dk_sc rfl (dk_sc rfl (dk_sn)))) (loop_27 (ix st + 1) 0 _ c_1 (dk_le1 c_2) hI0 (Nat.zero_le _) (by omega) rfl)
    · refine V.bipush hC (-2) dX4_ifFailed_11 (by decide) ?_
      exact V.iret hC (by first | (simp [xIfFail, c_1, dk_nlt c_1, c_2, dk_nle c_2]; done) | (simp_all [xIfFail]; done)) dX4_ifFailed_13
set_option maxHeartbeats 2000000 in
set_option maxRecDepth 20000 in
theorem c_X4_worstTime {l : Launch} {G : dkG}  {M : dkM} (hG : dk_cls G) (hX : xI M) : dk_Con l yX4_worstTime cX4_worstTime 5 (some .int) 4 89 G [.ref (G.1 + 0)] M (some (.int (xWorst M).1), (xWorst M).2) := by
  refine dk_Con.of mwX4_worstTime.1 (Nat.le_of_ble_eq_true rfl) (fun E hE hC => ?_)
  subst hE
  have hI0 : dI (dCopy M 12 1) 12 := dI_congr (dCopy_f (by decide) (by decide)) (dCopy_f (by decide) (by decide)) (dCopy_f (by decide) (by decide)) (show dI (fun _ => M 1) 12 from hX.2.2.2)
  have loop_23 : ∀ (n : Nat) (k : Nat) (M1 : dkM) (w most : Int32), (dI M1 12) → (k ≤ 99) → (99 < k + n) → (wtL (99 - k) M1 w most (k + 1) = xWorst M) →  V E G 5 (some (.int (xWorst M).1), (xWorst M).2) (M1) 23 [(0, some (.ref (G.1 + 0))), (1, some (.int w)), (2, some (.int most)), (3, some (.int (nI (k + 1))))] [] := by
    intro n
    induction n with
    | zero => intro k M1 w most hI1 hk hn hT; exact absurd hn (by omega)
    | succ n ih_23 =>
      intro k M1 w most hI1 hk hn hT
      refine V.iload_n hC dX4_worstTime_23 rfl ?_
      refine V.bipush hC 99 dX4_worstTime_24 (by decide) ?_
      refine V.icmp_gt hC 72 dX4_worstTime_26 (by decide) (fun c_1 => ?_) (fun c_1 => ?_)
      · have hke : k = 99 := by have := (dk_ltk (k := 99) (x := nI (k + 1)) (by omega)).mp c_1; rw [ix_nI (by omega)] at this; omega
        rw [hke] at hT
        refine V.iload_n hC dX4_worstTime_72 rfl ?_
        exact V.iret hC (by rw [← hT] <;> rfl) dX4_worstTime_73
      · have hkl : k < 99 := by have := mt (dk_ltk (k := 99) (x := nI (k + 1)) (by omega)).mpr c_1; rw [ix_nI (by omega)] at this; omega
        refine V.aload_n hC dX4_worstTime_29 rfl ?_
        refine gfX4_16 hG hC dX4_worstTime_30 ?_
        refine V.callV0i hC (c_X0_isRekeying (dk_disk12 hG)) mwX0_isRekeying mlX4_110 (dk_disk12 hG).s (dk_disk12 hG).k rfl ⟨rfl, rfl⟩ dX4_worstTime_33 rfl ?_
        refine V.if_eqB hC 72 dX4_worstTime_36 (by decide) (fun c_2 => ?_) (fun c_2 => ?_)
        · rw [show 99 - k = 99 - (k + 1) + 1 by omega, wtL, if_neg (by rw [c_2]; decide)] at hT
          refine V.iload_n hC dX4_worstTime_72 rfl ?_
          exact V.iret hC (by rw [← hT] <;> rfl) dX4_worstTime_73
        · refine V.aload_n hC dX4_worstTime_39 rfl ?_
          refine gfX4_16 hG hC dX4_worstTime_40 ?_
          refine V.callV0v hC (c_X0_makeStep (dk_disk12 hG) hI1) mwX0_makeStep mlX4_129 (dk_disk12 hG).s (dk_disk12 hG).k rfl ⟨rfl, rfl⟩ dX4_worstTime_43 rfl ?_
          refine V.aload_n hC dX4_worstTime_46 rfl ?_
          refine gfX4_16 hG hC dX4_worstTime_47 ?_
          refine V.callV0i hC (c_X0_damageAfterFailure (dk_disk12 hG)) mwX0_damageAfterFailure mlX4_132 (dk_disk12 hG).s (dk_disk12 hG).k rfl ⟨rfl, rfl⟩ dX4_worstTime_50 rfl ?_
          refine V.istore hC dX4_worstTime_53 rfl rfl ?_
          refine V.iload hC dX4_worstTime_55 rfl ?_
          refine V.iload_n hC dX4_worstTime_57 rfl ?_
          refine V.icmp_le hC 66 dX4_worstTime_58 (by decide) (fun c_3 => ?_) (fun c_3 => ?_)
          · refine V.iinc hC dX4_worstTime_66 rfl (dk_incN _) rfl ?_
            refine V.goto hC 23 dX4_worstTime_69 (by decide) ?_
            have hT3 := hT
            rw [show 99 - k = 99 - (k + 1) + 1 by omega, wtL, if_pos c_2] at hT3
            first | rw [if_pos (show most < dDaf (dStep M1 12) from dk_nle c_3)] at hT3 | rw [if_neg (show ¬ most < dDaf (dStep M1 12) from dk_le1 c_3)] at hT3
            exact V.sub (dk_sc rfl (dk_sc rfl (dk_sc rfl (dk_sc rfl (dk_sn))))) (ih_23 (k + 1) (dStep M1 12) _ _ (dI_step hI1) (by omega) (by omega) hT3)
          · refine V.iload hC dX4_worstTime_61 rfl ?_
            refine V.istore_n hC dX4_worstTime_63 rfl rfl ?_
            refine V.iload_n hC dX4_worstTime_64 rfl ?_
            refine V.istore_n hC dX4_worstTime_65 rfl rfl ?_
            refine V.iinc hC dX4_worstTime_66 rfl (dk_incN _) rfl ?_
            refine V.goto hC 23 dX4_worstTime_69 (by decide) ?_
            have hT3 := hT
            rw [show 99 - k = 99 - (k + 1) + 1 by omega, wtL, if_pos c_2] at hT3
            first | rw [if_pos (show most < dDaf (dStep M1 12) from dk_nle c_3)] at hT3 | rw [if_neg (show ¬ most < dDaf (dStep M1 12) from dk_le1 c_3)] at hT3
            exact V.sub (dk_sc rfl (dk_sc rfl (dk_sc rfl (dk_sc rfl (dk_sn))))) (ih_23 (k + 1) (dStep M1 12) _ _ (dI_step hI1) (by omega) (by omega) hT3)
  refine V.aload_n hC dX4_worstTime_0 rfl ?_
  refine gfX4_16 hG hC dX4_worstTime_1 ?_
  refine V.aload_n hC dX4_worstTime_4 rfl ?_
  refine gfX4_12 hG hC dX4_worstTime_5 ?_
  refine V.callV1v hC (c_X0_takeOver (dk_disk12 hG) (dk_disk1 hG) (by unfold apart; omega) hX.2.2.1) mwX0_takeOver mlX4_126 (dk_disk12 hG).s (dk_disk12 hG).k rfl ⟨rfl, rfl⟩ dX4_worstTime_8 rfl ?_
  refine V.iconst hC 0 dX4_worstTime_11 (by decide) ?_
  refine V.istore_n hC dX4_worstTime_12 rfl rfl ?_
  refine V.aload_n hC dX4_worstTime_13 rfl ?_
  refine gfX4_16 hG hC dX4_worstTime_14 ?_
  refine V.callV0i hC (c_X0_damageAfterFailure (dk_disk12 hG)) mwX0_damageAfterFailure mlX4_132 (dk_disk12 hG).s (dk_disk12 hG).k rfl ⟨rfl, rfl⟩ dX4_worstTime_17 rfl ?_
  refine V.istore_n hC dX4_worstTime_20 rfl rfl ?_
  refine V.iconst hC 1 dX4_worstTime_21 (by decide) ?_
  refine V.istore_n hC dX4_worstTime_22 rfl rfl ?_
  exact V.sub (dk_sc rfl (dk_sc rfl (dk_sc rfl (dk_sc rfl (dk_sn))))) (loop_23 100 0 _ _ _ hI0 (Nat.zero_le _) (by omega) rfl)
set_option maxHeartbeats 2000000 in
set_option maxRecDepth 20000 in
theorem c_X4_carryOut {l : Launch} {G : dkG}  {M : dkM} (hG : dk_cls G) (hX : xI M) : dk_Con l yX4_carryOut cX4_carryOut 3 (some .int) 6 134 G [.ref (G.1 + 0)] M (some (.int (xCarry M).1), (xCarry M).2) := by
  refine dk_Con.of mwX4_carryOut.1 (Nat.le_of_ble_eq_true rfl) (fun E hE hC => ?_)
  subst hE
  have hI0 : dI (xSplit (hDraft M)).2 1 := dI_of (xSplit_ne _ (by decide) (by decide) (by decide)) hX.draft
  have hsz := ix_lt (xSplit (hDraft M)).1
  have loop_36 : ∀ (n : Nat) (k : Nat) (M1 : dkM), (xErr M = -6) → (dI M1 1) → (k ≤ ix (xSplit (hDraft M)).1) → (ix (xSplit (hDraft M)).1 < k + n) → (coL (ix (xSplit (hDraft M)).1 - k) M1 k = xCo M) →  V E G 3 (some (.int (xCarry M).1), (xCarry M).2) (M1) 36 [(0, some (.ref (G.1 + 0))), (1, some (.int (xSplit (hDraft M)).1)), (2, some (.int (nI k)))] [] := by
    intro n
    induction n with
    | zero => intro k M1 h1 hI1 hk hn hT; exact absurd hn (by omega)
    | succ n ih_36 =>
      intro k M1 h1 hI1 hk hn hT
      refine V.iload_n hC dX4_carryOut_36 rfl ?_
      refine V.iload_n hC dX4_carryOut_37 rfl ?_
      refine V.icmp_ge hC 81 dX4_carryOut_38 (by decide) (fun c_1 => ?_) (fun c_1 => ?_)
      · have hke : k = ix (xSplit (hDraft M)).1 := by have := (dk_gek (k := k) (by omega)).mp c_1; omega
        rw [hke, Nat.sub_self, coL] at hT
        rw [hke]
        refine V.aload_n hC dX4_carryOut_81 rfl ?_
        refine gfX4_29 hG hC dX4_carryOut_82 ?_
        refine V.callV0i hC (c_X3_empty hG) mwX3_empty mlX4_141 (hG.at 102 rfl) rfl rfl ⟨rfl, rfl⟩ dX4_carryOut_85 rfl ?_
        refine V.pop hC dX4_carryOut_88 rfl ?_
        refine V.aload_n hC dX4_carryOut_89 rfl ?_
        refine gfX4_22 hG hC dX4_carryOut_90 ?_
        refine V.iload_n hC dX4_carryOut_93 rfl ?_
        refine V.callV1i hC (c_X1_keep hG) mwX1_keep mlX4_41 (hG.at 23 rfl) rfl rfl ⟨rfl, rfl⟩ dX4_carryOut_94 rfl ?_
        exact V.iret hC (by unfold xCarry; rw [if_pos h1, ← hT] <;> rfl) dX4_carryOut_97
      · have hkl : k < ix (xSplit (hDraft M)).1 := by have := mt (dk_gek (k := k) (by omega)).mpr c_1; omega
        refine V.aload_n hC dX4_carryOut_41 rfl ?_
        refine gfX4_12 hG hC dX4_carryOut_42 ?_
        refine V.aload_n hC dX4_carryOut_45 rfl ?_
        refine gfX4_29 hG hC dX4_carryOut_46 ?_
        refine V.iload_n hC dX4_carryOut_49 rfl ?_
        refine V.callV1i hC (c_X3_letter hG) mwX3_letter mlX4_150 (hG.at 102 rfl) rfl rfl ⟨rfl, rfl⟩ dX4_carryOut_50 rfl ?_
        refine V.aload_n hC dX4_carryOut_53 rfl ?_
        refine gfX4_29 hG hC dX4_carryOut_54 ?_
        refine V.iload_n hC dX4_carryOut_57 rfl ?_
        refine V.callV1i hC (c_X3_sector hG) mwX3_sector mlX4_153 (hG.at 102 rfl) rfl rfl ⟨rfl, rfl⟩ dX4_carryOut_58 rfl ?_
        refine V.aload_n hC dX4_carryOut_61 rfl ?_
        refine gfX4_29 hG hC dX4_carryOut_62 ?_
        refine V.iload_n hC dX4_carryOut_65 rfl ?_
        refine V.callV1i hC (c_X3_number hG) mwX3_number mlX4_156 (hG.at 102 rfl) rfl rfl ⟨rfl, rfl⟩ dX4_carryOut_66 rfl ?_
        refine V.callV3i hC (c_X0_obey (dk_disk1 hG) hI1) mwX0_obey mlX4_157 (dk_disk1 hG).s (dk_disk1 hG).k rfl ⟨rfl, rfl⟩ dX4_carryOut_69 rfl ?_
        refine V.if_lt hC 81 dX4_carryOut_72 (by decide) (fun c_2 => ?_) (fun c_2 => ?_)
        · have hT3 := hT
          rw [show ix (xSplit (hDraft M)).1 - k = ix (xSplit (hDraft M)).1 - (k + 1) + 1 by omega, coL, if_pos (show (coR M1 k).1 < 0 from c_2)] at hT3
          clear hT
          have hT := hT3
          refine V.aload_n hC dX4_carryOut_81 rfl ?_
          refine gfX4_29 hG hC dX4_carryOut_82 ?_
          refine V.callV0i hC (c_X3_empty hG) mwX3_empty mlX4_141 (hG.at 102 rfl) rfl rfl ⟨rfl, rfl⟩ dX4_carryOut_85 rfl ?_
          refine V.pop hC dX4_carryOut_88 rfl ?_
          refine V.aload_n hC dX4_carryOut_89 rfl ?_
          refine gfX4_22 hG hC dX4_carryOut_90 ?_
          refine V.iload_n hC dX4_carryOut_93 rfl ?_
          refine V.callV1i hC (c_X1_keep hG) mwX1_keep mlX4_41 (hG.at 23 rfl) rfl rfl ⟨rfl, rfl⟩ dX4_carryOut_94 rfl ?_
          exact V.iret hC (by unfold xCarry; rw [if_pos h1, ← hT] <;> rfl) dX4_carryOut_97
        · refine V.iinc hC dX4_carryOut_75 rfl (dk_incN _) rfl ?_
          refine V.goto hC 36 dX4_carryOut_78 (by decide) ?_
          exact V.sub (dk_sc rfl (dk_sc rfl (dk_sc rfl (dk_sn)))) (ih_36 (k + 1) (coR M1 k).2 h1 (dI_obey hI1 _ _ _) (by omega) (by omega) (by rw [show ix (xSplit (hDraft M)).1 - k = ix (xSplit (hDraft M)).1 - (k + 1) + 1 by omega, coL, if_neg (show ¬ (coR M1 k).1 < 0 from c_2)] at hT; exact hT))
  refine V.aload_n hC dX4_carryOut_0 rfl ?_
  refine gfX4_29 hG hC dX4_carryOut_1 ?_
  refine V.callV0i hC (c_X3_firstError hG) mwX3_firstError mlX4_144 (hG.at 102 rfl) rfl rfl ⟨rfl, rfl⟩ dX4_carryOut_4 rfl ?_
  refine V.bipush hC (-6) dX4_carryOut_7 (by decide) ?_
  refine V.icmp_eq hC 15 dX4_carryOut_9 (by decide) (fun c_1 => ?_) (fun c_1 => ?_)
  · refine V.aload_n hC dX4_carryOut_15 rfl ?_
    refine gfX4_22 hG hC dX4_carryOut_16 ?_
    refine V.aload_n hC dX4_carryOut_19 rfl ?_
    refine gfX4_12 hG hC dX4_carryOut_20 ?_
    refine V.callV1v hC (c_X1_draft hG hX.1 hX.2.2.1) mwX1_draft mlX4_33 (hG.at 23 rfl) rfl rfl ⟨rfl, rfl⟩ dX4_carryOut_23 rfl ?_
    refine V.aload_n hC dX4_carryOut_26 rfl ?_
    refine gfX4_29 hG hC dX4_carryOut_27 ?_
    refine V.callV0i hC (c_X3_split hG) mwX3_split mlX4_147 (hG.at 102 rfl) rfl rfl ⟨rfl, rfl⟩ dX4_carryOut_30 rfl ?_
    refine V.istore_n hC dX4_carryOut_33 rfl rfl ?_
    refine V.iconst hC 0 dX4_carryOut_34 (by decide) ?_
    refine V.istore_n hC dX4_carryOut_35 rfl rfl ?_
    exact V.sub (dk_sc rfl (dk_sc rfl (dk_sc rfl (dk_sn)))) (loop_36 (ix (xSplit (hDraft M)).1 + 1) 0 _ c_1 hI0 (Nat.zero_le _) (by omega) rfl)
  · refine V.bipush hC (-5) dX4_carryOut_12 (by decide) ?_
    exact V.iret hC (by first | (simp [xCarry, c_1]; done) | (simp_all [xCarry]; done)) dX4_carryOut_14
set_option maxHeartbeats 2000000 in
set_option maxRecDepth 20000 in
theorem c_X4_withKeys {l : Launch} {G : dkG}  {M : dkM} (hG : dk_cls G) {h0 : Int64} : dk_Con l yX4_withKeys cX4_withKeys 6 (some .long) 3 63 G [.ref (G.1 + 0), .long h0] M (some (.long (dgK M h0 99)), M) := by
  refine dk_Con.of mwX4_withKeys.1 (Nat.le_of_ble_eq_true rfl) (fun E hE hC => ?_)
  subst hE
  have loop_5 : ∀ (n : Nat) (k : Nat), (k ≤ 99) → (99 < k + n) →  V E G 6 (some (.long (dgK M h0 99)), M) (M) 5 [(0, some (.ref (G.1 + 0))), (3, some (.long (dgK M h0 k))), (5, some (.int (nI (k + 1))))] [] := by
    intro n
    induction n with
    | zero => intro k hk hn; exact absurd hn (by omega)
    | succ n ih_5 =>
      intro k hk hn
      refine V.iload hC dX4_withKeys_5 rfl ?_
      refine V.bipush hC 99 dX4_withKeys_7 (by decide) ?_
      refine V.icmp_gt hC 54 dX4_withKeys_9 (by decide) (fun c_1 => ?_) (fun c_1 => ?_)
      · have hke : k = 99 := by have := (dk_ltk (k := 99) (x := nI (k + 1)) (by omega)).mp c_1; rw [ix_nI (by omega)] at this; omega
        refine V.lload_n hC dX4_withKeys_54 rfl ?_
        exact V.lret hC (by rw [hke]) dX4_withKeys_55
      · have hkl : k < 99 := by have := mt (dk_ltk (k := 99) (x := nI (k + 1)) (by omega)).mpr c_1; rw [ix_nI (by omega)] at this; omega
        refine V.aload_n hC dX4_withKeys_12 rfl ?_
        refine gfX4_12 hG hC dX4_withKeys_13 ?_
        refine V.iload hC dX4_withKeys_16 rfl ?_
        refine V.callV1i hC (c_X0_hasKey (dk_disk1 hG)) mwX0_hasKey mlX4_51 (dk_disk1 hG).s (dk_disk1 hG).k rfl ⟨rfl, rfl⟩ dX4_withKeys_18 rfl ?_
        refine V.if_eqB hC 48 dX4_withKeys_21 (by decide) (fun c_2 => ?_) (fun c_2 => ?_)
        · refine V.iinc hC dX4_withKeys_48 rfl (dk_incN _) rfl ?_
          refine V.goto hC 5 dX4_withKeys_51 (by decide) ?_
          have ih2 := ih_5 (k + 1) (by omega) (by omega)
          first | rw [show dgK M h0 (k + 1) = dg (dg (dgK M h0 k) (nI (k + 1))) (xSecret M (nI (k + 1))) from by rw [dgK, if_pos c_2]] at ih2 | rw [show dgK M h0 (k + 1) = dgK M h0 k from by rw [dgK, if_neg (by rw [c_2]; decide)]] at ih2
          exact V.sub (dk_sc rfl (dk_sc rfl (dk_sc rfl (dk_sn)))) ih2
        · refine V.ldc2 hC klX4_167 dX4_withKeys_24 ?_
          refine V.lload_n hC dX4_withKeys_27 rfl ?_
          refine V.lmul hC dX4_withKeys_28 ?_
          refine V.iload hC dX4_withKeys_29 rfl ?_
          refine V.i2l hC dX4_withKeys_31 ?_
          refine V.ladd hC dX4_withKeys_32 ?_
          refine V.lstore_n hC dX4_withKeys_33 rfl rfl ?_
          refine V.ldc2 hC klX4_167 dX4_withKeys_34 ?_
          refine V.lload_n hC dX4_withKeys_37 rfl ?_
          refine V.lmul hC dX4_withKeys_38 ?_
          refine V.aload_n hC dX4_withKeys_39 rfl ?_
          refine V.iload hC dX4_withKeys_40 rfl ?_
          refine V.callV1i hC (c_X4_secretOf hG) mwX4_secretOf mlX4_191 (hG.at 0 rfl) rfl rfl ⟨rfl, rfl⟩ dX4_withKeys_42 rfl ?_
          refine V.i2l hC dX4_withKeys_45 ?_
          refine V.ladd hC dX4_withKeys_46 ?_
          refine V.lstore_n hC dX4_withKeys_47 rfl rfl ?_
          refine V.iinc hC dX4_withKeys_48 rfl (dk_incN _) rfl ?_
          refine V.goto hC 5 dX4_withKeys_51 (by decide) ?_
          have ih2 := ih_5 (k + 1) (by omega) (by omega)
          first | rw [show dgK M h0 (k + 1) = dg (dg (dgK M h0 k) (nI (k + 1))) (xSecret M (nI (k + 1))) from by rw [dgK, if_pos c_2]] at ih2 | rw [show dgK M h0 (k + 1) = dgK M h0 k from by rw [dgK, if_neg (by rw [c_2]; decide)]] at ih2
          exact V.sub (dk_sc rfl (dk_sc rfl (dk_sc rfl (dk_sn)))) ih2
  refine V.lload_n hC dX4_withKeys_0 rfl ?_
  refine V.lstore_n hC dX4_withKeys_1 rfl rfl ?_
  refine V.iconst hC 1 dX4_withKeys_2 (by decide) ?_
  refine V.istore hC dX4_withKeys_3 rfl rfl ?_
  exact V.sub (dk_sc rfl (dk_sc rfl (dk_sc rfl (dk_sn)))) (loop_5 100 0 (Nat.zero_le _) (by omega))
set_option maxHeartbeats 2000000 in
set_option maxRecDepth 20000 in
theorem c_X4_withSectors {l : Launch} {G : dkG}  {M : dkM} (hG : dk_cls G) {h0 : Int64} : dk_Con l yX4_withSectors cX4_withSectors 6 (some .long) 5 107 G [.ref (G.1 + 0), .long h0] M (some (.long (dgS M h0 (dgN M))), M) := by
  refine dk_Con.of mwX4_withSectors.1 (Nat.le_of_ble_eq_true rfl) (fun E hE hC => ?_)
  subst hE
  have hsz := ix_lt (M 1 5)
  have hm : dgN M ≤ 64 ∧ dgN M ≤ ix (M 1 5) ∧ (dgN M = 64 ∨ dgN M = ix (M 1 5)) := by unfold dgN; omega
  have loop_5 : ∀ (n : Nat) (k : Nat), (k ≤ dgN M) → (dgN M < k + n) →  V E G 6 (some (.long (dgS M h0 (dgN M))), M) (M) 5 [(0, some (.ref (G.1 + 0))), (3, some (.long (dgS M h0 k))), (5, some (.int (nI k)))] [] := by
    intro n
    induction n with
    | zero => intro k hk hn; exact absurd hn (by omega)
    | succ n ih_5 =>
      intro k hk hn
      refine V.iload hC dX4_withSectors_5 rfl ?_
      refine V.bipush hC 64 dX4_withSectors_7 (by decide) ?_
      refine V.icmp_ge hC 100 dX4_withSectors_9 (by decide) (fun c_1 => ?_) (fun c_1 => ?_)
      · have hke : k = dgN M := by have := (dk_gek (k := k) (x := nI 64) (by omega)).mp c_1; rw [ix_nI (by omega)] at this; omega
        refine V.lload_n hC dX4_withSectors_100 rfl ?_
        exact V.lret hC (by rw [hke]) dX4_withSectors_101
      · have hk6 : k < 64 := by have := mt (dk_gek (k := k) (x := nI 64) (by omega)).mpr c_1; rw [ix_nI (by omega)] at this; omega
        refine V.aload_n hC dX4_withSectors_12 rfl ?_
        refine gfX4_12 hG hC dX4_withSectors_13 ?_
        refine V.iload hC dX4_withSectors_16 rfl ?_
        refine V.callV1i hC (c_X0_hasSector (dk_disk1 hG)) mwX0_hasSector mlX4_89 (dk_disk1 hG).s (dk_disk1 hG).k rfl ⟨rfl, rfl⟩ dX4_withSectors_18 rfl ?_
        refine V.if_eqB hC 100 dX4_withSectors_21 (by decide) (fun c_2 => ?_) (fun c_2 => ?_)
        · have hke : k = dgN M := by rw [hasSec_nI (by omega)] at c_2; have := of_decide_eq_false c_2; omega
          refine V.lload_n hC dX4_withSectors_100 rfl ?_
          exact V.lret hC (by rw [hke]) dX4_withSectors_101
        · have hkl : k < dgN M := by rw [hasSec_nI (by omega)] at c_2; have := of_decide_eq_true c_2; omega
          refine V.ldc2 hC klX4_167 dX4_withSectors_24 ?_
          refine V.lload_n hC dX4_withSectors_27 rfl ?_
          refine V.lmul hC dX4_withSectors_28 ?_
          refine V.aload_n hC dX4_withSectors_29 rfl ?_
          refine V.iload hC dX4_withSectors_30 rfl ?_
          refine V.callV1i hC (c_X4_read hG) mwX4_read mlX4_194 (hG.at 0 rfl) rfl rfl ⟨rfl, rfl⟩ dX4_withSectors_32 rfl ?_
          refine V.i2l hC dX4_withSectors_35 ?_
          refine V.ladd hC dX4_withSectors_36 ?_
          refine V.lstore_n hC dX4_withSectors_37 rfl rfl ?_
          refine V.ldc2 hC klX4_167 dX4_withSectors_38 ?_
          refine V.lload_n hC dX4_withSectors_41 rfl ?_
          refine V.lmul hC dX4_withSectors_42 ?_
          refine V.aload_n hC dX4_withSectors_43 rfl ?_
          refine V.iload hC dX4_withSectors_44 rfl ?_
          refine V.callV1i hC (c_X4_stored hG) mwX4_stored mlX4_197 (hG.at 0 rfl) rfl rfl ⟨rfl, rfl⟩ dX4_withSectors_46 rfl ?_
          refine V.i2l hC dX4_withSectors_49 ?_
          refine V.ladd hC dX4_withSectors_50 ?_
          refine V.lstore_n hC dX4_withSectors_51 rfl rfl ?_
          refine V.ldc2 hC klX4_167 dX4_withSectors_52 ?_
          refine V.lload_n hC dX4_withSectors_55 rfl ?_
          refine V.lmul hC dX4_withSectors_56 ?_
          refine V.aload_n hC dX4_withSectors_57 rfl ?_
          refine V.iload hC dX4_withSectors_58 rfl ?_
          refine V.callV1i hC (c_X4_keyOf hG) mwX4_keyOf mlX4_200 (hG.at 0 rfl) rfl rfl ⟨rfl, rfl⟩ dX4_withSectors_60 rfl ?_
          refine V.i2l hC dX4_withSectors_63 ?_
          refine V.ladd hC dX4_withSectors_64 ?_
          refine V.lstore_n hC dX4_withSectors_65 rfl rfl ?_
          refine V.ldc2 hC klX4_167 dX4_withSectors_66 ?_
          refine V.lload_n hC dX4_withSectors_69 rfl ?_
          refine V.lmul hC dX4_withSectors_70 ?_
          refine V.aload_n hC dX4_withSectors_71 rfl ?_
          refine V.iload hC dX4_withSectors_72 rfl ?_
          refine V.callV1i hC (c_X4_journal hG) mwX4_journal mlX4_203 (hG.at 0 rfl) rfl rfl ⟨rfl, rfl⟩ dX4_withSectors_74 rfl ?_
          refine V.i2l hC dX4_withSectors_77 ?_
          refine V.ladd hC dX4_withSectors_78 ?_
          refine V.lstore_n hC dX4_withSectors_79 rfl rfl ?_
          refine V.ldc2 hC klX4_167 dX4_withSectors_80 ?_
          refine V.lload_n hC dX4_withSectors_83 rfl ?_
          refine V.lmul hC dX4_withSectors_84 ?_
          refine V.aload_n hC dX4_withSectors_85 rfl ?_
          refine V.iload hC dX4_withSectors_86 rfl ?_
          refine V.callV1i hC (c_X4_cached hG) mwX4_cached mlX4_206 (hG.at 0 rfl) rfl rfl ⟨rfl, rfl⟩ dX4_withSectors_88 rfl ?_
          refine V.i2l hC dX4_withSectors_91 ?_
          refine V.ladd hC dX4_withSectors_92 ?_
          refine V.lstore_n hC dX4_withSectors_93 rfl rfl ?_
          refine V.iinc hC dX4_withSectors_94 rfl (dk_incN _) rfl ?_
          refine V.goto hC 5 dX4_withSectors_97 (by decide) ?_
          exact V.sub (dk_sc rfl (dk_sc rfl (dk_sc rfl (dk_sn)))) (ih_5 (k + 1) (by omega) (by omega))
  refine V.lload_n hC dX4_withSectors_0 rfl ?_
  refine V.lstore_n hC dX4_withSectors_1 rfl rfl ?_
  refine V.iconst hC 0 dX4_withSectors_2 (by decide) ?_
  refine V.istore hC dX4_withSectors_3 rfl rfl ?_
  exact V.sub (dk_sc rfl (dk_sc rfl (dk_sc rfl (dk_sn)))) (loop_5 (dgN M + 1) 0 (Nat.zero_le _) (by omega))
set_option maxHeartbeats 2000000 in
set_option maxRecDepth 20000 in
theorem c_X4_digest {l : Launch} {G : dkG}  {M : dkM} (hG : dk_cls G)  : dk_Con l yX4_digest cX4_digest 4 (some .long) 6 132 G [.ref (G.1 + 0)] M (some (.long (xDigest M)), M) := by
  refine dk_Con.of mwX4_digest.1 (Nat.le_of_ble_eq_true rfl) (fun E hE hC => ?_)
  subst hE
  have loop_6 : ∀ (n : Nat) (k : Nat), (k ≤ 13) → (13 < k + n) →  V E G 4 (some (.long (xDigest M)), M) (M) 6 [(0, some (.ref (G.1 + 0))), (1, some (.long (dgC M k))), (3, some (.int (nI k)))] [] := by
    intro n
    induction n with
    | zero => intro k hk hn; exact absurd hn (by omega)
    | succ n ih_6 =>
      intro k hk hn
      refine V.iload_n hC dX4_digest_6 rfl ?_
      refine V.bipush hC 13 dX4_digest_7 (by decide) ?_
      refine V.icmp_ge hC 31 dX4_digest_9 (by decide) (fun c_1 => ?_) (fun c_1 => ?_)
      · have hke : k = 13 := by have := (dk_gek (k := k) (x := nI 13) (by omega)).mp c_1; rw [ix_nI (by omega)] at this; omega
        rw [hke]
        refine V.aload_n hC dX4_digest_31 rfl ?_
        refine V.aload_n hC dX4_digest_32 rfl ?_
        refine V.lload_n hC dX4_digest_33 rfl ?_
        refine V.callV1l hC (c_X4_withKeys hG) mwX4_withKeys mlX4_172 (hG.at 0 rfl) rfl rfl ⟨rfl, rfl⟩ dX4_digest_34 rfl ?_
        refine V.callV1l hC (c_X4_withSectors hG) mwX4_withSectors mlX4_176 (hG.at 0 rfl) rfl rfl ⟨rfl, rfl⟩ dX4_digest_37 rfl ?_
        refine V.lstore_n hC dX4_digest_40 rfl rfl ?_
        refine V.ldc2 hC klX4_167 dX4_digest_41 ?_
        refine V.lload_n hC dX4_digest_44 rfl ?_
        refine V.lmul hC dX4_digest_45 ?_
        refine V.aload_n hC dX4_digest_46 rfl ?_
        refine V.callV0i hC (c_X4_damaged hG) mwX4_damaged mlX4_179 (hG.at 0 rfl) rfl rfl ⟨rfl, rfl⟩ dX4_digest_47 rfl ?_
        refine V.i2l hC dX4_digest_50 ?_
        refine V.ladd hC dX4_digest_51 ?_
        refine V.lstore_n hC dX4_digest_52 rfl rfl ?_
        refine V.ldc2 hC klX4_167 dX4_digest_53 ?_
        refine V.lload_n hC dX4_digest_56 rfl ?_
        refine V.lmul hC dX4_digest_57 ?_
        refine V.aload_n hC dX4_digest_58 rfl ?_
        refine V.callV0i hC (c_X4_firstDamaged hG) mwX4_firstDamaged mlX4_182 (hG.at 0 rfl) rfl rfl ⟨rfl, rfl⟩ dX4_digest_59 rfl ?_
        refine V.i2l hC dX4_digest_62 ?_
        refine V.ladd hC dX4_digest_63 ?_
        refine V.lstore_n hC dX4_digest_64 rfl rfl ?_
        refine V.aload_n hC dX4_digest_65 rfl ?_
        refine gfX4_12 hG hC dX4_digest_66 ?_
        refine V.callV0i hC (c_X0_isRekeying (dk_disk1 hG)) mwX0_isRekeying mlX4_110 (dk_disk1 hG).s (dk_disk1 hG).k rfl ⟨rfl, rfl⟩ dX4_digest_69 rfl ?_
        refine V.if_eqB hC 99 dX4_digest_72 (by decide) (fun c_2 => ?_) (fun c_2 => ?_)
        · refine V.lload_n hC dX4_digest_99 rfl ?_
          exact V.lret hC (by first | (unfold xDigest; rw [if_pos (by assumption)]; rfl) | (unfold xDigest; rw [if_neg (by simp [*])]; rfl)) dX4_digest_100
        · refine V.ldc2 hC klX4_167 dX4_digest_75 ?_
          refine V.lload_n hC dX4_digest_78 rfl ?_
          refine V.lmul hC dX4_digest_79 ?_
          refine V.aload_n hC dX4_digest_80 rfl ?_
          refine V.callV0i hC (c_X4_zoneStart hG) mwX4_zoneStart mlX4_185 (hG.at 0 rfl) rfl rfl ⟨rfl, rfl⟩ dX4_digest_81 rfl ?_
          refine V.i2l hC dX4_digest_84 ?_
          refine V.ladd hC dX4_digest_85 ?_
          refine V.lstore_n hC dX4_digest_86 rfl rfl ?_
          refine V.ldc2 hC klX4_167 dX4_digest_87 ?_
          refine V.lload_n hC dX4_digest_90 rfl ?_
          refine V.lmul hC dX4_digest_91 ?_
          refine V.aload_n hC dX4_digest_92 rfl ?_
          refine V.callV0i hC (c_X4_stepsLeft hG) mwX4_stepsLeft mlX4_188 (hG.at 0 rfl) rfl rfl ⟨rfl, rfl⟩ dX4_digest_93 rfl ?_
          refine V.i2l hC dX4_digest_96 ?_
          refine V.ladd hC dX4_digest_97 ?_
          refine V.lstore_n hC dX4_digest_98 rfl rfl ?_
          refine V.lload_n hC dX4_digest_99 rfl ?_
          exact V.lret hC (by first | (unfold xDigest; rw [if_pos (by assumption)]; rfl) | (unfold xDigest; rw [if_neg (by simp [*])]; rfl)) dX4_digest_100
      · have hkl : k < 13 := by have := mt (dk_gek (k := k) (x := nI 13) (by omega)).mpr c_1; rw [ix_nI (by omega)] at this; omega
        refine V.ldc2 hC klX4_167 dX4_digest_12 ?_
        refine V.lload_n hC dX4_digest_15 rfl ?_
        refine V.lmul hC dX4_digest_16 ?_
        refine V.aload_n hC dX4_digest_17 rfl ?_
        refine V.iload_n hC dX4_digest_18 rfl ?_
        refine V.callV1i hC (c_X4_count hG) mwX4_count mlX4_169 (hG.at 0 rfl) rfl rfl ⟨rfl, rfl⟩ dX4_digest_19 rfl ?_
        refine V.i2l hC dX4_digest_22 ?_
        refine V.ladd hC dX4_digest_23 ?_
        refine V.lstore_n hC dX4_digest_24 rfl rfl ?_
        refine V.iinc hC dX4_digest_25 rfl (dk_incN _) rfl ?_
        refine V.goto hC 6 dX4_digest_28 (by decide) ?_
        exact V.sub (dk_sc rfl (dk_sc rfl (dk_sc rfl (dk_sn)))) (ih_6 (k + 1) (by omega) (by omega))
  refine V.ldc2 hC klX4_165 dX4_digest_0 ?_
  refine V.lstore_n hC dX4_digest_3 rfl rfl ?_
  refine V.iconst hC 0 dX4_digest_4 (by decide) ?_
  refine V.istore_n hC dX4_digest_5 rfl rfl ?_
  exact V.sub (dk_sc rfl (dk_sc rfl (dk_sc rfl (dk_sn)))) (loop_6 14 0 (Nat.zero_le _) (by omega))
end
section
/-! the model: 111 is its cell (4 recorded, 6 textLength, 8 at, 9 letter, 10 one, 11 two, 12 number); 112 state, 113 kept, 114 then, 115 history, 116 text, 117 values -/
def mWithin (v a b : Int32) : Bool := if v < a then false else if b < v then false else true
def mScr (v s c : Int32) : Int32 := v ^^^ ((40503 * c + 30011 * s + 12345) &&& 65535)
def mCopy (M : dkM) (oa p ob q n : Nat) : dkM := fun a b => if a = ob ∧ q ≤ b ∧ b < q + n then M oa (p + (b - q)) else M a b
def mShift (M : dkM) (n : Nat) : dkM := fun a b => if a = 115 ∧ b < n then M 115 (b + 367) else M a b
def mRec1 (M : dkM) : dkM := if M 111 4 = 6 then dk_put (mShift M 1835) 111 4 (M 111 4 - 1) else M
def mRec (M : dkM) : dkM := dk_put (mCopy (mRec1 M) 112 0 115 (ix (mRec1 M 111 4) * 367) 367) 111 4 (mRec1 M 111 4 + 1)
def mRek (M : dkM) : Bool := if M 112 2 = -6 then false else true
def mOpen (M : dkM) : Bool := if 0 < M 112 5 then true else if M 112 6 ≤ 0 then false else true
def mSec (M : dkM) (s : Int32) : Bool := mWithin s 0 (M 112 0 - 1)
def mIsKey (M : dkM) (k : Int32) : Bool := if mWithin k 1 99 = true then (if M 112 (11 + ix k) = -6 then false else true) else false
def mKeys (M : dkM) (n : Nat) : Nat := cnt (fun k => M 112 (11 + (k + 1)) != -6) n
def mFrom (M : dkM) : Int32 := if M 112 4 = 1 then M 112 3 else if 0 ≤ M 112 3 - M 112 7 then M 112 3 - M 112 7 else 0
def mTo (M : dkM) : Int32 := if M 112 4 = 0 then M 112 3 else if M 112 3 + M 112 7 ≤ M 112 0 then M 112 3 + M 112 7 else M 112 0
def mInZ (M : dkM) (s : Int32) : Bool := if mRek M = true then (if s < mFrom M then false else if mTo M ≤ s then false else true) else false
def mRw (M : dkM) (s : Int32) : Bool := if mInZ M s = true then (if mFrom M + M 112 5 ≤ s then false else true) else false
def mKeyAt (M : dkM) (s : Int32) : Int32 := if mRek M = true then (if M 112 3 ≤ s then (if mRw M s = true then M 112 2 else M 112 1) else (if mRw M s = true then M 112 1 else M 112 2)) else M 112 1
def mSecret (M : dkM) (s : Int32) : Int32 := M 112 (11 + ix (mKeyAt M s))
def mPlain (M : dkM) (k : Nat) : Int32 := mScr (M 112 (111 + k)) (nI k) (mSecret M (nI k))
def mVal (M : dkM) (k : Nat) : Int32 := if M 112 (239 + k) = -6 then mPlain M k else M 112 (239 + k)
def mfL (M : dkM) (n : Int32) : Nat → dkM
  | 0 => M
  | k + 1 => dk_put (dk_put (dk_put (mfL M n k) 112 (111 + k) (if n ≤ nI k then 0 else mScr 0 (nI k) (mfL M n k 112 (11 + ix (mfL M n k 112 1))))) 112 (239 + k) (-6)) 112 (303 + k) 0
def mClr (M : dkM) (n : Nat) : dkM := fun a b => if a = 112 ∧ 175 ≤ b ∧ b < 175 + n then -6 else M a b
def mClose (M : dkM) : dkM := mClr (dk_put (dk_put M 112 5 0) 112 6 0) 64
def mEnds (M : dkM) : dkM := mClose (dk_put (dk_put (dk_put M 112 2 (-6)) 112 3 (-6)) 112 4 (-6))
def mFormats (M : dkM) (n : Int32) : dkM := mfL (mEnds (dk_put M 112 0 n)) n 64
def mjL (M : dkM) (f : Nat) : Nat → dkM
  | 0 => M
  | k + 1 => dk_put (mjL M f k) 112 (175 + (f + k)) (mjL M f k 112 (111 + (f + k)))
def mEnd (M : dkM) : dkM := if M 112 4 = 1 ∧ M 112 3 = M 112 0 then mEnds (dk_put (dk_put M 112 1 (M 112 2)) 112 9 (M 112 9 + 1)) else if M 112 4 = 0 ∧ M 112 3 = 0 then mEnds M else M
def mJr (M : dkM) : dkM := mjL M (ix (mFrom M)) (ix (mTo M) - ix (mFrom M))
def mRwS (M : dkM) (k : Nat) : dkM := dk_put (dk_put M 112 5 (M 112 5 + 1)) 112 (111 + k) (mScr (mPlain M k) (nI k) (mSecret (dk_put M 112 5 (M 112 5 + 1)) (nI k)))
def mStep (M : dkM) : dkM := if M 112 8 = 1 ∧ M 112 6 = 0 ∧ M 112 5 = 0 then dk_put (mJr M) 112 6 (mTo M - mFrom M) else if M 112 5 < mTo M - mFrom M then mRwS M (ix (mFrom M + M 112 5)) else mEnd (mClose (dk_put M 112 3 (if M 112 4 = 1 then mTo M else mFrom M)))
def mStepsL : Nat → dkM → Nat → Nat × dkM
  | 0, M, k => (k, M)
  | n + 1, M, k => if mRek M = true then mStepsL n (mStep M) (k + 1) else (k, M)
def mRest (M : dkM) : Int32 := if M 112 4 = 1 then M 112 0 - M 112 3 else M 112 3
def mZones (M : dkM) : Int32 := (mRest M + M 112 7 - 1) / M 112 7
def mLeft (M : dkM) : Int32 := if mRek M = true then mRest M + mZones M + (if M 112 8 = 1 then mZones M else 0) - M 112 5 - (if M 112 6 ≤ 0 then 0 else 1) else 0
def mFlL (M : dkM) : Nat → dkM
  | 0 => M
  | k + 1 => dk_put (dk_put (mFlL M k) 112 (239 + k) (-6)) 112 (111 + k) (if mFlL M k 112 (175 + k) = -6 then mFlL M k 112 (111 + k) else mFlL M k 112 (175 + k))
def mFails1 (M : dkM) : dkM := mClose (mFlL M 64)
def mFails (M : dkM) : dkM := dk_put (mFails1 M) 112 10 (mFails1 M 112 10 + 1)
def mDamN (M : dkM) (n : Nat) : Nat := cnt (fun k => mVal M k != M 112 (303 + k)) n
def mDam (M : dkM) : Nat := mDamN M (ix (M 112 0))
def mFormat (M : dkM) (n : Int32) : Int32 × dkM := if mWithin n 4 64 = true then (M 112 0, mFormats (mRec M) n) else (-2, M)
def mAddM (M : dkM) (k c : Int32) : dkM := dk_put (mRec M) 112 (11 + ix k) c
def mAdd (M : dkM) (k c : Int32) : Int32 × dkM := if mWithin k 1 99 = true ∧ mWithin c 0 65535 = true then (if mIsKey M k = true then (-3, M) else if nI (mKeys M 99) = 8 then (-4, M) else (nI (mKeys (mAddM M k c) 99), mAddM M k c)) else (-2, M)
def mRem (M : dkM) (k : Int32) : Int32 × dkM := if mIsKey M k = true then (if k = M 112 1 then (-3, M) else if k = M 112 2 then (-3, M) else (nI (mKeys (mAddM M k (-6)) 99), mAddM M k (-6))) else (-1, M)
def mSecretOf (M : dkM) (k : Int32) : Int32 := if mIsKey M k = true then M 112 (11 + ix k) else -1
def mSets (M : dkM) (w : Nat) (v : Int32) : Int32 × dkM := if mOpen M = true then (-3, M) else (M 112 w, dk_put (mRec M) 112 w v)
def mSetZone (M : dkM) (z : Int32) : Int32 × dkM := if mWithin z 1 8 = true then mSets M 7 z else (-2, M)
def mSetJ (M : dkM) (z : Int32) : Int32 × dkM := if mWithin z 0 1 = true then mSets M 8 z else (-2, M)
def mStartM (M : dkM) (k : Int32) : dkM := dk_put (dk_put (dk_put (mRec M) 112 2 k) 112 3 0) 112 4 1
def mStart (M : dkM) (k : Int32) : Int32 × dkM := if mIsKey M k = true then (if mRek M = true then (-3, M) else if k = M 112 1 then (-3, M) else (mLeft (mStartM M k), mStartM M k)) else (-1, M)
def mWhyS (M : dkM) (n : Int32) : Int32 := if mWithin n 1 999 = true then (if mRek M = true then 0 else -3) else -2
def mSteps (M : dkM) (n : Int32) : Int32 × dkM := if mWhyS M n < 0 then (mWhyS M n, M) else (nI (mStepsL (ix n) (mRec M) 0).1, (mStepsL (ix n) (mRec M) 0).2)
def mWhyT (M : dkM) : Int32 := if mRek M = true then (if mOpen M = true then -3 else 0) else -3
def mTurnsM (M : dkM) : dkM := mEnd (dk_put M 112 4 (1 - M 112 4))
def mTurn (M : dkM) : Int32 × dkM := if mWhyT M < 0 then (mWhyT M, M) else (mLeft (mTurnsM (mRec M)), mTurnsM (mRec M))
def mCachedN (M : dkM) (n : Nat) : Nat := cnt (fun k => M 112 (239 + k) != -6) n
def mCached (M : dkM) : Nat := mCachedN M (ix (M 112 0))
def mWhyW (M : dkM) (s v : Int32) : Int32 := if mSec M s = true then (if mWithin v 0 65535 = true then (if M 112 (239 + ix s) = -6 ∧ nI (mCached M) = 8 then -4 else 0) else -2) else -1
def mWritesM (M : dkM) (s v : Int32) : dkM := dk_put (dk_put M 112 (239 + ix s) v) 112 (303 + ix s) v
def mWrite (M : dkM) (s v : Int32) : Int32 × dkM := if mWhyW M s v < 0 then (mWhyW M s v, M) else (nI (mCached (mWritesM (mRec M) s v)), mWritesM (mRec M) s v)
def mCan (M : dkM) (k : Nat) : Bool := if M 112 (239 + k) = -6 then false else if mOpen M = true then (if mInZ M (nI k) = true then false else true) else true
def mForm (M : dkM) (k : Nat) : Int32 := if mCan M k = true then mScr (M 112 (239 + k)) (nI k) (mSecret M (nI k)) else M 112 (111 + k)
def mFluL (M : dkM) : Nat → dkM
  | 0 => M
  | k + 1 => if mCan (mFluL M k) k = true then dk_put (dk_put (mFluL M k) 112 (111 + k) (mForm (mFluL M k) k)) 112 (239 + k) (-6) else mFluL M k
def mFluN (M : dkM) : Nat → Nat
  | 0 => 0
  | k + 1 => if mCan (mFluL M k) k = true then mFluN M k + 1 else mFluN M k
def mFlushes (M : dkM) : Int32 × dkM := (nI (mFluN M (ix (M 112 0))), mFluL M (ix (M 112 0)))
def mFlush (M : dkM) : Int32 × dkM := mFlushes (mRec M)
def mVals (M : dkM) : Nat → dkM
  | 0 => M
  | k + 1 => dk_put (mVals M k) 117 k (mVal (mVals M k) k)
def mFailM (M : dkM) : dkM := mFails (mVals (mRec M) (ix (mRec M 112 0)))
def mChgN (M : dkM) (n : Nat) : Nat := cnt (fun k => M 117 k != mVal M k) n
def mFail (M : dkM) : Int32 × dkM := (nI (mChgN (mFailM M) (ix (mFailM M 112 0))), mFailM M)
def mCountOf (M : dkM) (w : Int32) : Int32 := if w = 6 then M 112 6 else if w = 7 then nI (mCached M) else if w = 8 then M 112 7 else if w = 9 then M 112 8 else if w = 10 then nI (mKeys M 99) else if w = 11 then M 112 9 else if w = 12 then M 112 10 else M 112 (ix w)
def mCount (M : dkM) (w : Int32) : Int32 := if mWithin w 0 12 = true then mCountOf M w else -2
def mRead (M : dkM) (s : Int32) : Int32 := if mSec M s = true then mVal M (ix s) else -1
def mStored (M : dkM) (s : Int32) : Int32 := if mSec M s = true then M 112 (111 + ix s) else -1
def mKeyOf (M : dkM) (s : Int32) : Int32 := if mSec M s = true then mKeyAt M s else -1
def mJournal (M : dkM) (s : Int32) : Int32 := if mSec M s = true then M 112 (175 + ix s) else -1
def mCachedS (M : dkM) (s : Int32) : Int32 := if mSec M s = true then M 112 (239 + ix s) else -1
def mZone (M : dkM) : Int32 := if mRek M = true then mFrom M else -3
def mFoL (M : dkM) : Nat → Nat → Int32
  | 0, _ => -6
  | n + 1, k => if mVal M k = M 112 (303 + k) then mFoL M n (k + 1) else nI k
def mFirst (M : dkM) : Int32 := mFoL M (ix (M 112 0)) 0
def mStLeft (M : dkM) : Int32 := if mRek M = true then mLeft M else -3
def mThenM (M : dkM) : dkM := mFails (mCopy M 112 0 114 0 367)
def mThen (M : dkM) : Int32 × dkM := (nI (mDam (mThenM M)), mCopy (mThenM M) 114 0 112 0 367)
def mKept (M : dkM) : dkM := mCopy M 112 0 113 0 367
def mBack (M : dkM) : dkM := mCopy M 113 0 112 0 367
def mIfM (M : dkM) (n : Int32) : dkM := (mStepsL (ix n) (mKept M) 0).2
def mIfFail (M : dkM) (n : Int32) : Int32 × dkM := if mWithin n 0 999 = true then ((mThen (mIfM M n)).1, mBack (mThen (mIfM M n)).2) else (-2, M)
def mWorL : Nat → dkM → Nat → Int32 → Int32 → Int32 × dkM
  | 0, M, _, found, _ => (found, M)
  | n + 1, M, k, found, most => mWorL n (mStepsL 1 (mThen M).2 0).2 (k + 1) (if (mThen M).1 ≤ most then found else nI k) (if (mThen M).1 ≤ most then most else (mThen M).1)
def mWorst (M : dkM) : Int32 × dkM := ((mWorL 100 (mKept M) 0 0 (-6)).1, mBack (mWorL 100 (mKept M) 0 0 (-6)).2)
def mIfFl (M : dkM) (s : Int32) : Int32 := if mSec M s = true then mForm M (ix s) else -1
def mType (M : dkM) (c : Int32) : Int32 × dkM := if mWithin c 33 126 = true then (if M 111 6 = 80 then (-4, M) else (M 111 6 + 1, dk_put (dk_put M 116 (ix (M 111 6)) c) 111 6 (M 111 6 + 1))) else (-2, M)
def mChar (M : dkM) (p : Int32) : Int32 := if M 111 6 ≤ p then -1 else M 116 (ix p)
def mNextB (M : dkM) (c : Int32) : Bool := if mChar M (M 111 8) = c then true else false
def mNextM (M : dkM) (c : Int32) : dkM := dk_put M 111 8 (M 111 8 + (if mNextB M c = true then 1 else 0))
def mRnS (M : dkM) : dkM := dk_put (dk_put M 111 12 (10 * M 111 12 + mChar M (M 111 8) - 48)) 111 8 (M 111 8 + 1)
def mRnL : Nat → dkM → Nat → Nat × dkM
  | 0, M, k => (k, M)
  | n + 1, M, k => if mWithin (mChar M (M 111 8)) 48 57 = true then mRnL n (mRnS M) (k + 1) else (k, M)
def mRn (M : dkM) : Nat × dkM := mRnL 5 (dk_put M 111 12 0) 0
def mRnB (M : dkM) : Bool := if (mRn M).1 = 0 then false else true
/-- reads a command: does it stand, and the memory then -/
def mLet (M : dkM) : dkM := dk_put M 111 9 (mChar M (M 111 8))
def mAt1 (M : dkM) : dkM := dk_put (mLet M) 111 8 (mLet M 111 8 + 1)
def mOne (M : dkM) : dkM := dk_put M 111 10 (M 111 12)
def mTwo (M : dkM) : dkM := dk_put M 111 11 (M 111 12)
def mCmdW (M : dkM) : Bool × dkM := if mRnB M = true then (if mNextB (mOne (mRn M).2) 61 = true then (mRnB (mNextM (mOne (mRn M).2) 61), mTwo (mRn (mNextM (mOne (mRn M).2) 61)).2) else (false, mTwo (mNextM (mOne (mRn M).2) 61))) else (false, mTwo (mOne (mRn M).2))
def mCmd (M : dkM) : Bool × dkM := if mLet M 111 9 = 119 then mCmdW (mAt1 M) else if mLet M 111 9 = 115 then (mRnB (mAt1 M), mTwo (mOne (mRn (mAt1 M)).2)) else if mLet M 111 9 = 102 ∨ mLet M 111 9 = 120 ∨ mLet M 111 9 = 98 then (true, mTwo (mOne (mAt1 M))) else (false, mLet M)
def mErrL : Nat → dkM → Int32 × dkM
  | 0, M => (0, M)
  | n + 1, M => if (mCmd M).1 = true then (if (mCmd M).2 111 8 = (mCmd M).2 111 6 then (-6, (mCmd M).2) else if mNextB (mCmd M).2 59 = true then mErrL n (mNextM (mCmd M).2 59) else (mNextM (mCmd M).2 59 111 8, mNextM (mCmd M).2 59)) else ((mCmd M).2 111 8, (mCmd M).2)
def mErr (M : dkM) : Int32 × dkM := mErrL 100 (dk_put M 111 8 0)
def mWhyD (M : dkM) : Int32 := if M 111 9 = 98 then mWhyT M else if M 111 9 = 115 then mWhyS M (M 111 10) else if M 111 9 = 119 then mWhyW M (M 111 10) (M 111 11) else 0
def mDoes (M : dkM) : dkM := if M 111 9 = 98 then mTurnsM M else if M 111 9 = 102 then (mFlushes M).2 else if M 111 9 = 115 then (mStepsL (ix (M 111 10)) M 0).2 else if M 111 9 = 119 then mWritesM M (M 111 10) (M 111 11) else mFails M
def mNxt (M : dkM) : dkM := mNextM (mCmd M).2 59
def mCoL : Nat → dkM → Nat → Nat × dkM
  | 0, M, k => (k, M)
  | n + 1, M, k => if M 111 6 ≤ M 111 8 then (k, M) else if mWhyD (mNxt M) = 0 then mCoL n (mDoes (mNxt M)) (k + 1) else (k, mNxt M)
def mCo (M : dkM) : Nat × dkM := mCoL 100 (dk_put (mRec (mErr M).2) 111 8 0) 0
def mCarry (M : dkM) : Int32 × dkM := if (mErr M).1 = -6 then (nI (mCo M).1, dk_put (mCo M).2 111 6 0) else (-5, (mErr M).2)
def mUndoM (M : dkM) : dkM := dk_put M 111 4 (M 111 4 - 1)
def mUndo (M : dkM) : Int32 × dkM := if M 111 4 = 0 then (-3, M) else (M 111 4 - 1, mCopy (mUndoM M) 115 (ix (M 111 4 - 1) * 367) 112 0 367)
def mgC (M : dkM) : Nat → Int64
  | 0 => 392
  | k + 1 => dg (mgC M k) (mCountOf M (nI k))
def mgK (M : dkM) (h : Int64) : Nat → Int64
  | 0 => h
  | k + 1 => if M 112 (11 + (k + 1)) = -6 then mgK M h k else dg (dg (mgK M h k) (nI (k + 1))) (M 112 (11 + (k + 1)))
def mgS (M : dkM) (h : Int64) : Nat → Int64
  | 0 => h
  | k + 1 => dg (dg (dg (dg (dg (mgS M h k) (mVal M k)) (M 112 (111 + k))) (mKeyAt M (nI k))) (M 112 (175 + k))) (M 112 (239 + k))
def mDg1 (M : dkM) : Int64 := dg (dg (mgS M (mgK M (mgC M 13) 99) (ix (M 112 0))) (nI (mDam M))) (mFirst M)
def mDigest (M : dkM) : Int64 := if mRek M = true then dg (dg (mDg1 M) (mFrom M)) (mLeft M) else mDg1 M
/-! bounds -/
def mI (M : dkM) : Prop := (4 ≤ (M 112 0).toInt ∧ (M 112 0).toInt ≤ 64) ∧ (1 ≤ (M 112 1).toInt ∧ (M 112 1).toInt ≤ 99) ∧ (M 112 2 = -6 ∨ (1 ≤ (M 112 2).toInt ∧ (M 112 2).toInt ≤ 99 ∧ 0 ≤ (M 112 3).toInt ∧ (M 112 3).toInt ≤ (M 112 0).toInt)) ∧ (1 ≤ (M 112 7).toInt ∧ (M 112 7).toInt ≤ 8) ∧ 0 ≤ (M 112 5).toInt
theorem mW_iff {v a b : Int32} : mWithin v a b = true ↔ a.toInt ≤ v.toInt ∧ v.toInt ≤ b.toInt := by
  unfold mWithin
  split
  · rename_i h; rw [tI_lt] at h; simp; omega
  · rename_i h; rw [tI_lt] at h
    split
    · rename_i h2; rw [tI_lt] at h2; simp; omega
    · rename_i h2; rw [tI_lt] at h2; simp; omega
theorem mW_n {v : Int32} {a b : Int32} (h : mWithin v a b = true) (ha : 0 ≤ a.toInt) : v = nI (ix v) := nI_ix (by have := mW_iff.mp h; omega)
theorem mW_b {v : Int32} {a b : Int32} (h : mWithin v a b = true) (ha : 0 ≤ a.toInt) : a.toInt ≤ (ix v : Int) ∧ (ix v : Int) ≤ b.toInt := by
  have h1 := mW_iff.mp h
  rw [ix_toInt (by omega)]
  exact h1
theorem mW_k {v : Int32} (h : mWithin v 1 99 = true) : v = nI (ix v) ∧ 1 ≤ ix v ∧ ix v ≤ 99 := by
  have h2 := mW_b h (by decide)
  have e1 : (1 : Int32).toInt = 1 := by decide
  have e2 : (99 : Int32).toInt = 99 := by decide
  rw [e1, e2] at h2
  exact ⟨mW_n h (by decide), by omega, by omega⟩
theorem mSec_k {M : dkM} (hI : mI M) {s : Int32} (h : mSec M s = true) : s = nI (ix s) ∧ ix s < 64 ∧ (ix s : Int) < (M 112 0).toInt := by
  obtain ⟨⟨h1, h2⟩, -⟩ := hI
  have h3 := mW_b h (by decide)
  rw [tI_sub (by have : (1 : Int32).toInt = 1 := by decide
                 omega) (by have : (1 : Int32).toInt = 1 := by decide
                            omega)] at h3
  have e1 : (1 : Int32).toInt = 1 := by decide
  rw [e1] at h3
  exact ⟨mW_n h (by decide), by omega, by omega⟩
theorem mKey_b {M : dkM} (hI : mI M) (s : Int32) : 1 ≤ (mKeyAt M s).toInt ∧ (mKeyAt M s).toInt ≤ 99 := by
  obtain ⟨-, h1, h2, -⟩ := hI
  unfold mKeyAt
  split
  · rename_i hr
    have h3 : 1 ≤ (M 112 2).toInt ∧ (M 112 2).toInt ≤ 99 := by
      rcases h2 with h | h
      · simp [mRek, h] at hr
      · exact ⟨h.1, h.2.1⟩
    split <;> split <;> assumption
  · exact h1
theorem mKey_k {M : dkM} (hI : mI M) (s : Int32) : mKeyAt M s = nI (ix (mKeyAt M s)) ∧ 11 + ix (mKeyAt M s) < 367 := by
  have h := mKey_b hI s
  have h2 := ix_toInt (x := mKeyAt M s) (by omega)
  exact ⟨nI_ix (by omega), by omega⟩
theorem mI.own {M : dkM} (hI : mI M) : M 112 1 = nI (ix (M 112 1)) ∧ 11 + ix (M 112 1) < 367 := by
  have h := hI.2.1
  have h2 := ix_toInt (x := M 112 1) (by omega)
  exact ⟨nI_ix (by omega), by omega⟩
theorem mI.sec {M : dkM} (hI : mI M) : ix (M 112 0) ≤ 64 := by
  have h := hI.1
  have h2 := ix_toInt (x := M 112 0) (by omega)
  omega
theorem mI.zone {M : dkM} (hI : mI M) : ¬ M 112 7 = 0 := by
  intro h
  have h2 := hI.2.2.2.1.1
  rw [h] at h2
  exact absurd h2 (by decide)
theorem mRek_t {M : dkM} (h : mRek M = true) : ¬ M 112 2 = -6 := by
  intro z
  simp [mRek, z] at h
theorem mI.pos {M : dkM} (hI : mI M) (hr : mRek M = true) : 0 ≤ (M 112 3).toInt ∧ (M 112 3).toInt ≤ (M 112 0).toInt := by
  rcases hI.2.2.1 with h | h
  · exact absurd h (mRek_t hr)
  · exact h.2.2
theorem mFrom_i {M : dkM} (hI : mI M) (hr : mRek M = true) : (mFrom M).toInt = if M 112 4 = 1 then (M 112 3).toInt else max 0 ((M 112 3).toInt - (M 112 7).toInt) := by
  have hp := hI.pos hr
  obtain ⟨h1, -, -, h4, -⟩ := hI
  unfold mFrom
  split
  · rfl
  · have e : (M 112 3 - M 112 7).toInt = (M 112 3).toInt - (M 112 7).toInt := tI_sub (by omega) (by omega)
    have e0 : (0 : Int32).toInt = 0 := by decide
    split
    · rename_i h; rw [tI_le, e, e0] at h; rw [e]; omega
    · rename_i h; rw [tI_le, e, e0] at h; rw [e0]; omega
theorem mTo_i {M : dkM} (hI : mI M) (hr : mRek M = true) : (mTo M).toInt = if M 112 4 = 0 then (M 112 3).toInt else min (M 112 0).toInt ((M 112 3).toInt + (M 112 7).toInt) := by
  have hp := hI.pos hr
  obtain ⟨h1, -, -, h4, -⟩ := hI
  unfold mTo
  split
  · rfl
  · have e : (M 112 3 + M 112 7).toInt = (M 112 3).toInt + (M 112 7).toInt := tI_add (by omega) (by omega)
    split
    · rename_i h; rw [tI_le, e] at h; rw [e]; omega
    · rename_i h; rw [tI_le, e] at h; omega
theorem mFrom_b {M : dkM} (hI : mI M) (hr : mRek M = true) : 0 ≤ (mFrom M).toInt ∧ (mFrom M).toInt ≤ (M 112 0).toInt := by
  rw [mFrom_i hI hr]
  have hp := hI.pos hr
  obtain ⟨h1, -, -, h4, -⟩ := hI
  split <;> omega
theorem mTo_b {M : dkM} (hI : mI M) (hr : mRek M = true) : 0 ≤ (mTo M).toInt ∧ (mTo M).toInt ≤ (M 112 0).toInt := by
  rw [mTo_i hI hr]
  have hp := hI.pos hr
  obtain ⟨h1, -, -, h4, -⟩ := hI
  split <;> omega
theorem put_st {M : dkM} {k j : Nat} {x : Int32} : dk_put M 112 k x 112 j = if j = k then x else M 112 j := by simp [dk_put]
theorem mClr_lo (M : dkM) (n : Nat) {j : Nat} (h : j < 175) : mClr M n 112 j = M 112 j := by
  unfold mClr; rw [if_neg (by omega)]
theorem mClose_lo (M : dkM) {j : Nat} (h : j < 175) (h5 : j ≠ 5) (h6 : j ≠ 6) : mClose M 112 j = M 112 j := by
  rw [mClose, mClr_lo _ _ h, put_k h6, put_k h5]
theorem mEnds_lo (M : dkM) {j : Nat} (h : j < 175) (h2 : j ≠ 2) (h3 : j ≠ 3) (h4 : j ≠ 4) (h5 : j ≠ 5) (h6 : j ≠ 6) : mEnds M 112 j = M 112 j := by
  rw [mEnds, mClose_lo _ h h5 h6, put_k h4, put_k h3, put_k h2]
theorem mEnds_2 (M : dkM) : mEnds M 112 2 = -6 := by
  rw [mEnds, mClose_lo _ (by decide) (by decide) (by decide), put_k (by decide), put_k (by decide), put_same]
theorem mEnds_5 (M : dkM) : mEnds M 112 5 = 0 := by
  rw [mEnds, mClose, mClr_lo _ _ (by decide), put_k (by decide), put_same]
theorem mClose_5 (M : dkM) : mClose M 112 5 = 0 := by
  rw [mClose, mClr_lo _ _ (by decide), put_k (by decide), put_same]
theorem mfL_lo (M : dkM) (n : Int32) (k : Nat) {j : Nat} (h : j < 111) : mfL M n k 112 j = M 112 j := by
  induction k with
  | zero => rfl
  | succ k ih => rw [mfL, put_k (by omega), put_k (by omega), put_k (by omega), ih]
theorem mjL_lo (M : dkM) (f k : Nat) {j : Nat} (h : j < 175) : mjL M f k 112 j = M 112 j := by
  induction k with
  | zero => rfl
  | succ k ih => rw [mjL, put_k (by omega), ih]
theorem mFlL_lo (M : dkM) (k : Nat) {j : Nat} (h : j < 111) : mFlL M k 112 j = M 112 j := by
  induction k with
  | zero => rfl
  | succ k ih => rw [mFlL, put_k (by omega), put_k (by omega), ih]
theorem mFluL_lo (M : dkM) (k : Nat) {j : Nat} (h : j < 111) : mFluL M k 112 j = M 112 j := by
  induction k with
  | zero => rfl
  | succ k ih =>
    rw [mFluL]
    split
    · rw [put_k (by omega), put_k (by omega), ih]
    · exact ih
theorem mVals_ne (M : dkM) (k : Nat) {a : Nat} (h : a ≠ 117) : mVals M k a = M a := by
  induction k with
  | zero => rfl
  | succ k ih => rw [mVals, dk_put_ne h, ih]
theorem mI_congr {M M' : dkM} (h : ∀ j, j < 8 → M' 112 j = M 112 j) (hI : mI M) : mI M' := by
  unfold mI
  rw [h 0 (by decide), h 1 (by decide), h 2 (by decide), h 3 (by decide), h 5 (by decide), h 7 (by decide)]
  exact hI
/-- the bounds of 0, 1, 2, 3, 5, 7 alone -/
theorem mI_of {M M' : dkM} (h0 : M' 112 0 = M 112 0) (h1 : M' 112 1 = M 112 1) (h2 : M' 112 2 = M 112 2) (h3 : M' 112 3 = M 112 3) (h7 : M' 112 7 = M 112 7) (h5 : 0 ≤ (M' 112 5).toInt) (hI : mI M) : mI M' := by
  unfold mI
  rw [h0, h1, h2, h3, h7]
  exact ⟨hI.1, hI.2.1, hI.2.2.1, hI.2.2.2.1, h5⟩
theorem mI_ends {M : dkM} (h0 : 4 ≤ (M 112 0).toInt ∧ (M 112 0).toInt ≤ 64) (h1 : 1 ≤ (M 112 1).toInt ∧ (M 112 1).toInt ≤ 99) (h7 : 1 ≤ (M 112 7).toInt ∧ (M 112 7).toInt ≤ 8) : mI (mEnds M) := by
  unfold mI
  rw [mEnds_2, mEnds_5, mEnds_lo _ (by decide) (by decide) (by decide) (by decide) (by decide) (by decide), mEnds_lo _ (by decide) (by decide) (by decide) (by decide) (by decide) (by decide), mEnds_lo (j := 7) _ (by decide) (by decide) (by decide) (by decide) (by decide) (by decide)]
  exact ⟨h0, h1, Or.inl rfl, h7, by decide⟩
theorem mI_end {M : dkM} (hI : mI M) (hr : mRek M = true) : mI (mEnd M) := by
  have ht : 1 ≤ (M 112 2).toInt ∧ (M 112 2).toInt ≤ 99 := by
    rcases hI.2.2.1 with h | h
    · exact absurd h (mRek_t hr)
    · exact ⟨h.1, h.2.1⟩
  unfold mEnd
  split
  · refine mI_ends ?_ ?_ ?_
    · rw [put_k (by decide), put_k (by decide)]; exact hI.1
    · rw [put_k (by decide), put_same]; exact ht
    · rw [put_k (by decide), put_k (by decide)]; exact hI.2.2.2.1
  · split
    · exact mI_ends hI.1 hI.2.1 hI.2.2.2.1
    · exact hI
theorem mRek_congr {M M' : dkM} (h : M' 112 2 = M 112 2) : mRek M' = mRek M := by unfold mRek; rw [h]
theorem mI_step {M : dkM} (hI : mI M) (hr : mRek M = true) : mI (mStep M) := by
  unfold mStep
  split
  · have e : ∀ j, j < 111 → j ≠ 6 → dk_put (mJr M) 112 6 (mTo M - mFrom M) 112 j = M 112 j := fun j a b => by rw [put_k b, mJr, mjL_lo _ _ _ (by omega)]
    exact mI_of (e 0 (by decide) (by decide)) (e 1 (by decide) (by decide)) (e 2 (by decide) (by decide)) (e 3 (by decide) (by decide)) (e 7 (by decide) (by decide)) (by rw [e 5 (by decide) (by decide)]; exact hI.2.2.2.2) hI
  · split
    · rename_i hlt
      have hb := mTo_b hI hr
      have hf := mFrom_b hI hr
      have h5 := hI.2.2.2.2
      have h0 := hI.1
      rw [tI_lt, tI_sub (by omega) (by omega)] at hlt
      have e : ∀ j, j < 111 → j ≠ 5 → mRwS M (ix (mFrom M + M 112 5)) 112 j = M 112 j := fun j a b => by rw [mRwS, put_k (by omega), put_k b]
      have e5 : mRwS M (ix (mFrom M + M 112 5)) 112 5 = M 112 5 + 1 := by rw [mRwS, put_k (by omega), put_same]
      refine mI_of (e 0 (by decide) (by decide)) (e 1 (by decide) (by decide)) (e 2 (by decide) (by decide)) (e 3 (by decide) (by decide)) (e 7 (by decide) (by decide)) ?_ hI
      have e1 : (1 : Int32).toInt = 1 := by decide
      rw [e5, tI_add (by omega) (by omega)]
      omega
    · have hb := mTo_b hI hr
      have hf := mFrom_b hI hr
      have e : ∀ j, j < 175 → j ≠ 5 → j ≠ 6 → j ≠ 3 → mClose (dk_put M 112 3 (if M 112 4 = 1 then mTo M else mFrom M)) 112 j = M 112 j := fun j a b c f => by rw [mClose_lo _ a b c, put_k f]
      have e3 : mClose (dk_put M 112 3 (if M 112 4 = 1 then mTo M else mFrom M)) 112 3 = (if M 112 4 = 1 then mTo M else mFrom M) := by rw [mClose_lo _ (by decide) (by decide) (by decide), put_same]
      refine mI_end ?_ ((mRek_congr (e 2 (by decide) (by decide) (by decide) (by decide))).trans hr)
      unfold mI
      rw [e 0 (by decide) (by decide) (by decide) (by decide), e 1 (by decide) (by decide) (by decide) (by decide), e 2 (by decide) (by decide) (by decide) (by decide), e 7 (by decide) (by decide) (by decide) (by decide), e3, mClose_5]
      refine ⟨hI.1, hI.2.1, ?_, hI.2.2.2.1, by decide⟩
      rcases hI.2.2.1 with h | h
      · exact Or.inl h
      · refine Or.inr ⟨h.1, h.2.1, ?_⟩
        split
        · exact hb
        · exact hf
theorem mStepsL_I : ∀ (n : Nat) (M : dkM) (k : Nat), mI M → mI (mStepsL n M k).2 := by
  intro n
  induction n with
  | zero => intro M k h; exact h
  | succ n ih =>
    intro M k h
    unfold mStepsL
    split
    · rename_i hr; exact ih _ _ (mI_step h hr)
    · exact h
end
