section
-- ===== PART A: goes FIRST, ahead of the names: the tables' words, and 'selects' of the private methods out of them =====
/-- a private method of a class that the tables say can be made, by its rows of tables_1 -/
def lw_okq (q : MethodName × Nat) : Prop := (q.1.cls ≠ "java/lang/invoke/MethodHandle" ∧ q.1.cls ≠ "java/lang/invoke/VarHandle") ∧ Cond.instantiable q.1.cls q.2 ∈ tables_1 ∧ Cond.privateMethod q.1 ∈ tables_1 ∧ Cond.instanceMethod q.1 ∈ tables_1
theorem lw_p0 : lw_okq (⟨"Teleprompter$Script", "append", "(I)I"⟩, 9) := ⟨⟨by decide +kernel, by decide +kernel⟩, List.mem_of_getElem? (i := 17) (by decide +kernel), List.mem_of_getElem? (i := 175) (by decide +kernel), List.mem_of_getElem? (i := 176) (by decide +kernel)⟩
theorem lw_p1 : lw_okq (⟨"Teleprompter$Script", "setCue", "()I"⟩, 9) := ⟨⟨by decide +kernel, by decide +kernel⟩, List.mem_of_getElem? (i := 17) (by decide +kernel), List.mem_of_getElem? (i := 182) (by decide +kernel), List.mem_of_getElem? (i := 183) (by decide +kernel)⟩
theorem lw_p2 : lw_okq (⟨"Teleprompter$Script", "endPassage", "()I"⟩, 9) := ⟨⟨by decide +kernel, by decide +kernel⟩, List.mem_of_getElem? (i := 17) (by decide +kernel), List.mem_of_getElem? (i := 186) (by decide +kernel), List.mem_of_getElem? (i := 187) (by decide +kernel)⟩
theorem lw_p3 : lw_okq (⟨"Teleprompter", "readText", "()Z"⟩, 11) := ⟨⟨by decide +kernel, by decide +kernel⟩, List.mem_of_getElem? (i := 9) (by decide +kernel), List.mem_of_getElem? (i := 250) (by decide +kernel), List.mem_of_getElem? (i := 251) (by decide +kernel)⟩
theorem lw_p4 : lw_okq (⟨"Teleprompter", "record", "()V"⟩, 11) := ⟨⟨by decide +kernel, by decide +kernel⟩, List.mem_of_getElem? (i := 9) (by decide +kernel), List.mem_of_getElem? (i := 255) (by decide +kernel), List.mem_of_getElem? (i := 256) (by decide +kernel)⟩
theorem lw_p5 : lw_okq (⟨"Teleprompter", "dropOldest", "()V"⟩, 11) := ⟨⟨by decide +kernel, by decide +kernel⟩, List.mem_of_getElem? (i := 9) (by decide +kernel), List.mem_of_getElem? (i := 259) (by decide +kernel), List.mem_of_getElem? (i := 260) (by decide +kernel)⟩
theorem lw_p6 : lw_okq (⟨"Teleprompter", "stateAt", "([LTeleprompter$State;I)LTeleprompter$State;"⟩, 11) := ⟨⟨by decide +kernel, by decide +kernel⟩, List.mem_of_getElem? (i := 9) (by decide +kernel), List.mem_of_getElem? (i := 263) (by decide +kernel), List.mem_of_getElem? (i := 264) (by decide +kernel)⟩
theorem lw_p7 : lw_okq (⟨"Teleprompter$State", "isBetter", "(II)Z"⟩, 15) := ⟨⟨by decide +kernel, by decide +kernel⟩, List.mem_of_getElem? (i := 65) (by decide +kernel), List.mem_of_getElem? (i := 318) (by decide +kernel), List.mem_of_getElem? (i := 319) (by decide +kernel)⟩
theorem lw_p8 : lw_okq (⟨"Teleprompter$State", "follow", "(I)V"⟩, 15) := ⟨⟨by decide +kernel, by decide +kernel⟩, List.mem_of_getElem? (i := 65) (by decide +kernel), List.mem_of_getElem? (i := 333) (by decide +kernel), List.mem_of_getElem? (i := 334) (by decide +kernel)⟩
theorem lw_p9 : lw_okq (⟨"Teleprompter$State", "keepHeard", "(I)V"⟩, 15) := ⟨⟨by decide +kernel, by decide +kernel⟩, List.mem_of_getElem? (i := 65) (by decide +kernel), List.mem_of_getElem? (i := 351) (by decide +kernel), List.mem_of_getElem? (i := 352) (by decide +kernel)⟩
theorem lw_p10 : lw_okq (⟨"Teleprompter$State", "holdingWord", "()I"⟩, 15) := ⟨⟨by decide +kernel, by decide +kernel⟩, List.mem_of_getElem? (i := 65) (by decide +kernel), List.mem_of_getElem? (i := 363) (by decide +kernel), List.mem_of_getElem? (i := 364) (by decide +kernel)⟩
theorem lw_p11 : lw_okq (⟨"Teleprompter$State", "estimate", "(II)I"⟩, 15) := ⟨⟨by decide +kernel, by decide +kernel⟩, List.mem_of_getElem? (i := 65) (by decide +kernel), List.mem_of_getElem? (i := 371) (by decide +kernel), List.mem_of_getElem? (i := 372) (by decide +kernel)⟩
theorem lw_p12 : lw_okq (⟨"Teleprompter$State", "scrollTo", "(I)V"⟩, 15) := ⟨⟨by decide +kernel, by decide +kernel⟩, List.mem_of_getElem? (i := 65) (by decide +kernel), List.mem_of_getElem? (i := 382) (by decide +kernel), List.mem_of_getElem? (i := 383) (by decide +kernel)⟩
theorem lw_p13 : lw_okq (⟨"Teleprompter$State", "lowestShown", "()I"⟩, 15) := ⟨⟨by decide +kernel, by decide +kernel⟩, List.mem_of_getElem? (i := 65) (by decide +kernel), List.mem_of_getElem? (i := 394) (by decide +kernel), List.mem_of_getElem? (i := 395) (by decide +kernel)⟩
theorem lw_p14 : lw_okq (⟨"Teleprompter$Script", "endsElsewhere", "(II)Z"⟩, 9) := ⟨⟨by decide +kernel, by decide +kernel⟩, List.mem_of_getElem? (i := 17) (by decide +kernel), List.mem_of_getElem? (i := 497) (by decide +kernel), List.mem_of_getElem? (i := 498) (by decide +kernel)⟩
theorem lw_p15 : lw_okq (⟨"Teleprompter$Script", "sameEnding", "(III)Z"⟩, 9) := ⟨⟨by decide +kernel, by decide +kernel⟩, List.mem_of_getElem? (i := 17) (by decide +kernel), List.mem_of_getElem? (i := 501) (by decide +kernel), List.mem_of_getElem? (i := 502) (by decide +kernel)⟩
def lw_privs_1 : List (MethodName × Nat) := [(⟨"Teleprompter$Script", "append", "(I)I"⟩, 9), (⟨"Teleprompter$Script", "setCue", "()I"⟩, 9), (⟨"Teleprompter$Script", "endPassage", "()I"⟩, 9), (⟨"Teleprompter", "readText", "()Z"⟩, 11), (⟨"Teleprompter", "record", "()V"⟩, 11), (⟨"Teleprompter", "dropOldest", "()V"⟩, 11), (⟨"Teleprompter", "stateAt", "([LTeleprompter$State;I)LTeleprompter$State;"⟩, 11), (⟨"Teleprompter$State", "isBetter", "(II)Z"⟩, 15), (⟨"Teleprompter$State", "follow", "(I)V"⟩, 15), (⟨"Teleprompter$State", "keepHeard", "(I)V"⟩, 15), (⟨"Teleprompter$State", "holdingWord", "()I"⟩, 15), (⟨"Teleprompter$State", "estimate", "(II)I"⟩, 15), (⟨"Teleprompter$State", "scrollTo", "(I)V"⟩, 15), (⟨"Teleprompter$State", "lowestShown", "()I"⟩, 15), (⟨"Teleprompter$Script", "endsElsewhere", "(II)Z"⟩, 9), (⟨"Teleprompter$Script", "sameEnding", "(III)Z"⟩, 9)]
theorem lw_r1 : ∀ q ∈ lw_privs_1, lw_okq q := List.forall_mem_cons.mpr ⟨lw_p0, List.forall_mem_cons.mpr ⟨lw_p1, List.forall_mem_cons.mpr ⟨lw_p2, List.forall_mem_cons.mpr ⟨lw_p3, List.forall_mem_cons.mpr ⟨lw_p4, List.forall_mem_cons.mpr ⟨lw_p5, List.forall_mem_cons.mpr ⟨lw_p6, List.forall_mem_cons.mpr ⟨lw_p7, List.forall_mem_cons.mpr ⟨lw_p8, List.forall_mem_cons.mpr ⟨lw_p9, List.forall_mem_cons.mpr ⟨lw_p10, List.forall_mem_cons.mpr ⟨lw_p11, List.forall_mem_cons.mpr ⟨lw_p12, List.forall_mem_cons.mpr ⟨lw_p13, List.forall_mem_cons.mpr ⟨lw_p14, List.forall_mem_cons.mpr ⟨lw_p15, fun _ h => absurd h List.not_mem_nil⟩⟩⟩⟩⟩⟩⟩⟩⟩⟩⟩⟩⟩⟩⟩⟩
theorem lw_p16 : lw_okq (⟨"TeleprompterModel", "layRows", "()V"⟩, 19) := ⟨⟨by decide +kernel, by decide +kernel⟩, List.mem_of_getElem? (i := 536) (by decide +kernel), List.mem_of_getElem? (i := 542) (by decide +kernel), List.mem_of_getElem? (i := 543) (by decide +kernel)⟩
theorem lw_p17 : lw_okq (⟨"TeleprompterModel", "readText", "()V"⟩, 19) := ⟨⟨by decide +kernel, by decide +kernel⟩, List.mem_of_getElem? (i := 536) (by decide +kernel), List.mem_of_getElem? (i := 608) (by decide +kernel), List.mem_of_getElem? (i := 609) (by decide +kernel)⟩
theorem lw_p18 : lw_okq (⟨"TeleprompterModel", "fails", "(II)V"⟩, 19) := ⟨⟨by decide +kernel, by decide +kernel⟩, List.mem_of_getElem? (i := 536) (by decide +kernel), List.mem_of_getElem? (i := 612) (by decide +kernel), List.mem_of_getElem? (i := 613) (by decide +kernel)⟩
theorem lw_p19 : lw_okq (⟨"TeleprompterModel", "readByte", "(I)V"⟩, 19) := ⟨⟨by decide +kernel, by decide +kernel⟩, List.mem_of_getElem? (i := 536) (by decide +kernel), List.mem_of_getElem? (i := 616) (by decide +kernel), List.mem_of_getElem? (i := 617) (by decide +kernel)⟩
theorem lw_p20 : lw_okq (⟨"TeleprompterModel", "readWord", "(I)V"⟩, 19) := ⟨⟨by decide +kernel, by decide +kernel⟩, List.mem_of_getElem? (i := 536) (by decide +kernel), List.mem_of_getElem? (i := 626) (by decide +kernel), List.mem_of_getElem? (i := 627) (by decide +kernel)⟩
theorem lw_p21 : lw_okq (⟨"TeleprompterModel", "hasWord", "()Z"⟩, 19) := ⟨⟨by decide +kernel, by decide +kernel⟩, List.mem_of_getElem? (i := 536) (by decide +kernel), List.mem_of_getElem? (i := 630) (by decide +kernel), List.mem_of_getElem? (i := 631) (by decide +kernel)⟩
theorem lw_p22 : lw_okq (⟨"TeleprompterModel", "remember", "()V"⟩, 19) := ⟨⟨by decide +kernel, by decide +kernel⟩, List.mem_of_getElem? (i := 536) (by decide +kernel), List.mem_of_getElem? (i := 634) (by decide +kernel), List.mem_of_getElem? (i := 635) (by decide +kernel)⟩
theorem lw_p23 : lw_okq (⟨"TeleprompterModel", "limited", "(I)I"⟩, 19) := ⟨⟨by decide +kernel, by decide +kernel⟩, List.mem_of_getElem? (i := 536) (by decide +kernel), List.mem_of_getElem? (i := 657) (by decide +kernel), List.mem_of_getElem? (i := 658) (by decide +kernel)⟩
theorem lw_p24 : lw_okq (⟨"TeleprompterModel", "greatestTop", "()I"⟩, 19) := ⟨⟨by decide +kernel, by decide +kernel⟩, List.mem_of_getElem? (i := 536) (by decide +kernel), List.mem_of_getElem? (i := 661) (by decide +kernel), List.mem_of_getElem? (i := 662) (by decide +kernel)⟩
theorem lw_p25 : lw_okq (⟨"TeleprompterModel", "hearNow", "(I)I"⟩, 19) := ⟨⟨by decide +kernel, by decide +kernel⟩, List.mem_of_getElem? (i := 536) (by decide +kernel), List.mem_of_getElem? (i := 669) (by decide +kernel), List.mem_of_getElem? (i := 670) (by decide +kernel)⟩
theorem lw_p26 : lw_okq (⟨"TeleprompterModel", "bestOf", "(I)I"⟩, 19) := ⟨⟨by decide +kernel, by decide +kernel⟩, List.mem_of_getElem? (i := 536) (by decide +kernel), List.mem_of_getElem? (i := 673) (by decide +kernel), List.mem_of_getElem? (i := 674) (by decide +kernel)⟩
theorem lw_p27 : lw_okq (⟨"TeleprompterModel", "scoreOf", "(I)I"⟩, 19) := ⟨⟨by decide +kernel, by decide +kernel⟩, List.mem_of_getElem? (i := 536) (by decide +kernel), List.mem_of_getElem? (i := 677) (by decide +kernel), List.mem_of_getElem? (i := 678) (by decide +kernel)⟩
theorem lw_p28 : lw_okq (⟨"TeleprompterModel", "far", "(I)I"⟩, 19) := ⟨⟨by decide +kernel, by decide +kernel⟩, List.mem_of_getElem? (i := 536) (by decide +kernel), List.mem_of_getElem? (i := 681) (by decide +kernel), List.mem_of_getElem? (i := 682) (by decide +kernel)⟩
theorem lw_p29 : lw_okq (⟨"TeleprompterModel", "isAccepted", "(I)Z"⟩, 19) := ⟨⟨by decide +kernel, by decide +kernel⟩, List.mem_of_getElem? (i := 536) (by decide +kernel), List.mem_of_getElem? (i := 685) (by decide +kernel), List.mem_of_getElem? (i := 686) (by decide +kernel)⟩
theorem lw_p30 : lw_okq (⟨"TeleprompterModel", "follow", "(I)V"⟩, 19) := ⟨⟨by decide +kernel, by decide +kernel⟩, List.mem_of_getElem? (i := 536) (by decide +kernel), List.mem_of_getElem? (i := 689) (by decide +kernel), List.mem_of_getElem? (i := 690) (by decide +kernel)⟩
theorem lw_p31 : lw_okq (⟨"TeleprompterModel", "leaveTrail", "()V"⟩, 19) := ⟨⟨by decide +kernel, by decide +kernel⟩, List.mem_of_getElem? (i := 536) (by decide +kernel), List.mem_of_getElem? (i := 693) (by decide +kernel), List.mem_of_getElem? (i := 694) (by decide +kernel)⟩
def lw_privs_2 : List (MethodName × Nat) := [(⟨"TeleprompterModel", "layRows", "()V"⟩, 19), (⟨"TeleprompterModel", "readText", "()V"⟩, 19), (⟨"TeleprompterModel", "fails", "(II)V"⟩, 19), (⟨"TeleprompterModel", "readByte", "(I)V"⟩, 19), (⟨"TeleprompterModel", "readWord", "(I)V"⟩, 19), (⟨"TeleprompterModel", "hasWord", "()Z"⟩, 19), (⟨"TeleprompterModel", "remember", "()V"⟩, 19), (⟨"TeleprompterModel", "limited", "(I)I"⟩, 19), (⟨"TeleprompterModel", "greatestTop", "()I"⟩, 19), (⟨"TeleprompterModel", "hearNow", "(I)I"⟩, 19), (⟨"TeleprompterModel", "bestOf", "(I)I"⟩, 19), (⟨"TeleprompterModel", "scoreOf", "(I)I"⟩, 19), (⟨"TeleprompterModel", "far", "(I)I"⟩, 19), (⟨"TeleprompterModel", "isAccepted", "(I)Z"⟩, 19), (⟨"TeleprompterModel", "follow", "(I)V"⟩, 19), (⟨"TeleprompterModel", "leaveTrail", "()V"⟩, 19)]
theorem lw_r2 : ∀ q ∈ lw_privs_2, lw_okq q := List.forall_mem_cons.mpr ⟨lw_p16, List.forall_mem_cons.mpr ⟨lw_p17, List.forall_mem_cons.mpr ⟨lw_p18, List.forall_mem_cons.mpr ⟨lw_p19, List.forall_mem_cons.mpr ⟨lw_p20, List.forall_mem_cons.mpr ⟨lw_p21, List.forall_mem_cons.mpr ⟨lw_p22, List.forall_mem_cons.mpr ⟨lw_p23, List.forall_mem_cons.mpr ⟨lw_p24, List.forall_mem_cons.mpr ⟨lw_p25, List.forall_mem_cons.mpr ⟨lw_p26, List.forall_mem_cons.mpr ⟨lw_p27, List.forall_mem_cons.mpr ⟨lw_p28, List.forall_mem_cons.mpr ⟨lw_p29, List.forall_mem_cons.mpr ⟨lw_p30, List.forall_mem_cons.mpr ⟨lw_p31, fun _ h => absurd h List.not_mem_nil⟩⟩⟩⟩⟩⟩⟩⟩⟩⟩⟩⟩⟩⟩⟩⟩
theorem lw_p32 : lw_okq (⟨"TeleprompterModel", "keepWord", "(I)V"⟩, 19) := ⟨⟨by decide +kernel, by decide +kernel⟩, List.mem_of_getElem? (i := 536) (by decide +kernel), List.mem_of_getElem? (i := 697) (by decide +kernel), List.mem_of_getElem? (i := 698) (by decide +kernel)⟩
theorem lw_p33 : lw_okq (⟨"TeleprompterModel", "tickOnce", "()V"⟩, 19) := ⟨⟨by decide +kernel, by decide +kernel⟩, List.mem_of_getElem? (i := 536) (by decide +kernel), List.mem_of_getElem? (i := 705) (by decide +kernel), List.mem_of_getElem? (i := 706) (by decide +kernel)⟩
theorem lw_p34 : lw_okq (⟨"TeleprompterModel", "desired", "()I"⟩, 19) := ⟨⟨by decide +kernel, by decide +kernel⟩, List.mem_of_getElem? (i := 536) (by decide +kernel), List.mem_of_getElem? (i := 709) (by decide +kernel), List.mem_of_getElem? (i := 710) (by decide +kernel)⟩
theorem lw_p35 : lw_okq (⟨"TeleprompterModel", "estimated", "()I"⟩, 19) := ⟨⟨by decide +kernel, by decide +kernel⟩, List.mem_of_getElem? (i := 536) (by decide +kernel), List.mem_of_getElem? (i := 713) (by decide +kernel), List.mem_of_getElem? (i := 714) (by decide +kernel)⟩
theorem lw_p36 : lw_okq (⟨"TeleprompterModel", "nextCue", "()I"⟩, 19) := ⟨⟨by decide +kernel, by decide +kernel⟩, List.mem_of_getElem? (i := 536) (by decide +kernel), List.mem_of_getElem? (i := 717) (by decide +kernel), List.mem_of_getElem? (i := 718) (by decide +kernel)⟩
theorem lw_p37 : lw_okq (⟨"TeleprompterModel", "isShown", "(I)Z"⟩, 19) := ⟨⟨by decide +kernel, by decide +kernel⟩, List.mem_of_getElem? (i := 536) (by decide +kernel), List.mem_of_getElem? (i := 721) (by decide +kernel), List.mem_of_getElem? (i := 722) (by decide +kernel)⟩
theorem lw_p38 : lw_okq (⟨"TeleprompterModel", "releaseNext", "()I"⟩, 19) := ⟨⟨by decide +kernel, by decide +kernel⟩, List.mem_of_getElem? (i := 536) (by decide +kernel), List.mem_of_getElem? (i := 729) (by decide +kernel), List.mem_of_getElem? (i := 730) (by decide +kernel)⟩
theorem lw_p39 : lw_okq (⟨"TeleprompterModel", "isWord", "(I)Z"⟩, 19) := ⟨⟨by decide +kernel, by decide +kernel⟩, List.mem_of_getElem? (i := 536) (by decide +kernel), List.mem_of_getElem? (i := 737) (by decide +kernel), List.mem_of_getElem? (i := 738) (by decide +kernel)⟩
theorem lw_p40 : lw_okq (⟨"TeleprompterModel", "cues", "()I"⟩, 19) := ⟨⟨by decide +kernel, by decide +kernel⟩, List.mem_of_getElem? (i := 536) (by decide +kernel), List.mem_of_getElem? (i := 749) (by decide +kernel), List.mem_of_getElem? (i := 750) (by decide +kernel)⟩
theorem lw_p41 : lw_okq (⟨"TeleprompterModel", "isElsewhere", "(II)Z"⟩, 19) := ⟨⟨by decide +kernel, by decide +kernel⟩, List.mem_of_getElem? (i := 536) (by decide +kernel), List.mem_of_getElem? (i := 785) (by decide +kernel), List.mem_of_getElem? (i := 786) (by decide +kernel)⟩
theorem lw_p42 : lw_okq (⟨"TeleprompterModel", "hold", "()V"⟩, 19) := ⟨⟨by decide +kernel, by decide +kernel⟩, List.mem_of_getElem? (i := 536) (by decide +kernel), List.mem_of_getElem? (i := 801) (by decide +kernel), List.mem_of_getElem? (i := 802) (by decide +kernel)⟩
theorem lw_p43 : lw_okq (⟨"TeleprompterModel", "restore", "()V"⟩, 19) := ⟨⟨by decide +kernel, by decide +kernel⟩, List.mem_of_getElem? (i := 536) (by decide +kernel), List.mem_of_getElem? (i := 805) (by decide +kernel), List.mem_of_getElem? (i := 806) (by decide +kernel)⟩
def lw_privs_3 : List (MethodName × Nat) := [(⟨"TeleprompterModel", "keepWord", "(I)V"⟩, 19), (⟨"TeleprompterModel", "tickOnce", "()V"⟩, 19), (⟨"TeleprompterModel", "desired", "()I"⟩, 19), (⟨"TeleprompterModel", "estimated", "()I"⟩, 19), (⟨"TeleprompterModel", "nextCue", "()I"⟩, 19), (⟨"TeleprompterModel", "isShown", "(I)Z"⟩, 19), (⟨"TeleprompterModel", "releaseNext", "()I"⟩, 19), (⟨"TeleprompterModel", "isWord", "(I)Z"⟩, 19), (⟨"TeleprompterModel", "cues", "()I"⟩, 19), (⟨"TeleprompterModel", "isElsewhere", "(II)Z"⟩, 19), (⟨"TeleprompterModel", "hold", "()V"⟩, 19), (⟨"TeleprompterModel", "restore", "()V"⟩, 19)]
theorem lw_r3 : ∀ q ∈ lw_privs_3, lw_okq q := List.forall_mem_cons.mpr ⟨lw_p32, List.forall_mem_cons.mpr ⟨lw_p33, List.forall_mem_cons.mpr ⟨lw_p34, List.forall_mem_cons.mpr ⟨lw_p35, List.forall_mem_cons.mpr ⟨lw_p36, List.forall_mem_cons.mpr ⟨lw_p37, List.forall_mem_cons.mpr ⟨lw_p38, List.forall_mem_cons.mpr ⟨lw_p39, List.forall_mem_cons.mpr ⟨lw_p40, List.forall_mem_cons.mpr ⟨lw_p41, List.forall_mem_cons.mpr ⟨lw_p42, List.forall_mem_cons.mpr ⟨lw_p43, fun _ h => absurd h List.not_mem_nil⟩⟩⟩⟩⟩⟩⟩⟩⟩⟩⟩⟩
def lw_privs : List (MethodName × Nat) := lw_privs_1 ++ (lw_privs_2 ++ (lw_privs_3))
def lw_tbl : List Cond := k2_sels lw_privs ++ tables_1
theorem lw_privs_ok : ∀ q ∈ lw_privs, lw_okq q := by
  show ∀ q ∈ lw_privs_1 ++ (lw_privs_2 ++ (lw_privs_3)), lw_okq q
  exact List.forall_mem_append.mpr ⟨lw_r1, List.forall_mem_append.mpr ⟨lw_r2, lw_r3⟩⟩
/-- the streams that the claim lets the run draw from -/
abbrev lw_cs : List Choice := [Jvm.Choice.named "NaN.bits"]
theorem lw_bits : nanBits ∈ lw_cs := by first | decide | exact List.mem_cons_self | simp [lw_cs, nanBits]
-- ===== end of PART A; then your names; then what follows =====
end
section
/-! ===== BEGIN words of one list among another's, by their places ===== -/
theorem goodIn_r {big : List Cond} (ws : List Cond) (ps : List Nat) (hp : ws = ps.filterMap (fun i => big[i]?)) (h : ws.all goodWord = true) : GoodIn big ws := by
  intro w hw
  have h1 := List.all_eq_true.mp h w hw
  rw [hp] at hw
  obtain ⟨i, -, hi⟩ := List.mem_filterMap.mp hw
  have hm : w ∈ big := by first | exact List.mem_of_getElem? hi | exact List.getElem?_mem hi
  exact ⟨hm, good_of_word h1⟩
theorem goodIn_app {big a b : List Cond} (ha : GoodIn big a) (hb : GoodIn big b) : GoodIn big (a ++ b) := fun w h => (List.mem_append.mp h).elim (ha w) (hb w)
theorem goodIn_ca {big a b : List Cond} {c : Cond} (ha : GoodIn big (c :: a)) (hb : GoodIn big b) : GoodIn big (c :: (a ++ b)) := fun w h => (List.mem_cons.mp h).elim (fun e => ha w (List.mem_cons.mpr (Or.inl e))) (fun h => (List.mem_append.mp h).elim (fun h => ha w (List.mem_cons.mpr (Or.inr h))) (hb w))
theorem goodIn_sub {big ws : List Cond} (hm : ∀ w ∈ ws, w ∈ big) (h : ws.all goodWord = true) : GoodIn big ws := fun w hw => ⟨hm w hw, good_of_word (List.all_eq_true.mp h w hw)⟩
/-! ===== END ===== -/

/-! ===== BEGIN printed: names, fields, word lists, decode rows ===== -/
def RX0 : String := "Teleprompter$Script"
def TX0 : u_T := fun k => match k with
  | 0 => ("Teleprompter$Script", "words", "I", false)
  | 1 => ("Teleprompter$Script", "passages", "I", false)
  | 2 => ("Teleprompter$Script", "wordsInPassage", "I", false)
  | 3 => ("Teleprompter$Script", "rows", "I", false)
  | 4 => ("Teleprompter$Script", "letters", "[I", true)
  | 5 => ("Teleprompter$Script", "passageOf", "[I", true)
  | 6 => ("Teleprompter$Script", "cues", "[I", true)
  | 7 => ("Teleprompter$Script", "rowOf", "[I", true)
  | _ => ("Teleprompter$Script", "firstOfRow", "[I", true)
def tyX0 : Nat → FieldType := fun k => match k with
  | 0 => .int
  | 1 => .int
  | 2 => .int
  | 3 => .int
  | 4 => .array .int
  | 5 => .array .int
  | 6 => .array .int
  | 7 => .array .int
  | _ => .array .int
abbrev wsX00 : List Cond := u_ws RX0 TX0 9
theorem nmX0 : ∀ a, a < 9 → ∀ b, b < 9 → a ≠ b → (TX0 a).2.1 ≠ (TX0 b).2.1 := by decide +kernel
theorem tyX0_ok : ∀ k, k < 9 → parseFieldDescriptor (TX0 k).2.2.1 = some (tyX0 k) := by decide +kernel
abbrev cX0_init : ByteArray := prog_2_method_1_code
def yX0_init : MethodName := ⟨RX0, "<init>", "()V"⟩
abbrev cX0_become : ByteArray := prog_2_method_2_code
def yX0_become : MethodName := ⟨RX0, "become", "(LTeleprompter$Script;)V"⟩
abbrev cX0_empty : ByteArray := prog_2_method_3_code
def yX0_empty : MethodName := ⟨RX0, "empty", "()V"⟩
abbrev cX0_read : ByteArray := prog_2_method_4_code
def yX0_read : MethodName := ⟨RX0, "read", "(II)I"⟩
abbrev cX0_append : ByteArray := prog_2_method_5_code
def yX0_append : MethodName := ⟨RX0, "append", "(I)I"⟩
abbrev cX0_setCue : ByteArray := prog_2_method_6_code
def yX0_setCue : MethodName := ⟨RX0, "setCue", "()I"⟩
abbrev cX0_endPassage : ByteArray := prog_2_method_7_code
def yX0_endPassage : MethodName := ⟨RX0, "endPassage", "()I"⟩
abbrev cX0_lay : ByteArray := prog_2_method_8_code
def yX0_lay : MethodName := ⟨RX0, "lay", "(I)V"⟩
abbrev cX0_has : ByteArray := prog_2_method_9_code
def yX0_has : MethodName := ⟨RX0, "has", "(I)Z"⟩
abbrev cX0_rowLength : ByteArray := prog_2_method_10_code
def yX0_rowLength : MethodName := ⟨RX0, "rowLength", "(I)I"⟩
abbrev cX0_cueCount : ByteArray := prog_2_method_11_code
def yX0_cueCount : MethodName := ⟨RX0, "cueCount", "()I"⟩
abbrev cX0_nextCue : ByteArray := prog_2_method_12_code
def yX0_nextCue : MethodName := ⟨RX0, "nextCue", "()I"⟩
abbrev cX0_freeCue : ByteArray := prog_2_method_13_code
def yX0_freeCue : MethodName := ⟨RX0, "freeCue", "(I)V"⟩
abbrev cX0_passWaitingBefore : ByteArray := prog_2_method_14_code
def yX0_passWaitingBefore : MethodName := ⟨RX0, "passWaitingBefore", "(I)I"⟩
abbrev cX0_setCuesAround : ByteArray := prog_2_method_15_code
def yX0_setCuesAround : MethodName := ⟨RX0, "setCuesAround", "(I)V"⟩
abbrev cX0_uniqueLength : ByteArray := prog_2_method_16_code
def yX0_uniqueLength : MethodName := ⟨RX0, "uniqueLength", "(I)I"⟩
abbrev cX0_endsElsewhere : ByteArray := prog_2_method_17_code
def yX0_endsElsewhere : MethodName := ⟨RX0, "endsElsewhere", "(II)Z"⟩
abbrev cX0_sameEnding : ByteArray := prog_2_method_18_code
def yX0_sameEnding : MethodName := ⟨RX0, "sameEnding", "(III)Z"⟩
def RX1 : String := "Teleprompter$State"
def TX1 : u_T := fun k => match k with
  | 0 => ("Teleprompter$State", "settings", "[I", true)
  | 1 => ("Teleprompter$State", "script", "LTeleprompter$Script;", true)
  | 2 => ("Teleprompter$State", "trail", "LTeleprompter$Trail;", true)
  | 3 => ("Teleprompter$State", "kept", "[I", true)
  | 4 => ("Teleprompter$State", "keptCount", "I", false)
  | 5 => ("Teleprompter$State", "position", "I", false)
  | 6 => ("Teleprompter$State", "speed", "I", false)
  | 7 => ("Teleprompter$State", "time", "I", false)
  | 8 => ("Teleprompter$State", "heardTime", "I", false)
  | 9 => ("Teleprompter$State", "top", "I", false)
  | 10 => ("Teleprompter$State", "skips", "I", false)
  | 11 => ("Teleprompter$State", "repeats", "I", false)
  | 12 => ("Teleprompter$State", "misses", "I", false)
  | 13 => ("Teleprompter$State", "jerks", "I", false)
  | _ => ("Teleprompter$State", "overruns", "I", false)
def tyX1 : Nat → FieldType := fun k => match k with
  | 0 => .array .int
  | 1 => .object "Teleprompter$Script"
  | 2 => .object "Teleprompter$Trail"
  | 3 => .array .int
  | 4 => .int
  | 5 => .int
  | 6 => .int
  | 7 => .int
  | 8 => .int
  | 9 => .int
  | 10 => .int
  | 11 => .int
  | 12 => .int
  | 13 => .int
  | _ => .int
abbrev wsX10 : List Cond := u_ws RX1 TX1 15
theorem nmX1 : ∀ a, a < 15 → ∀ b, b < 15 → a ≠ b → (TX1 a).2.1 ≠ (TX1 b).2.1 := by decide +kernel
theorem tyX1_ok : ∀ k, k < 15 → parseFieldDescriptor (TX1 k).2.2.1 = some (tyX1 k) := by decide +kernel
abbrev cX1_init : ByteArray := prog_3_method_1_code
def yX1_init : MethodName := ⟨RX1, "<init>", "()V"⟩
abbrev cX1_become : ByteArray := prog_3_method_2_code
def yX1_become : MethodName := ⟨RX1, "become", "(LTeleprompter$State;)V"⟩
abbrev cX1_begin : ByteArray := prog_3_method_3_code
def yX1_begin : MethodName := ⟨RX1, "begin", "(LTeleprompter$Script;)V"⟩
abbrev cX1_change : ByteArray := prog_3_method_4_code
def yX1_change : MethodName := ⟨RX1, "change", "(II)V"⟩
abbrev cX1_jump : ByteArray := prog_3_method_5_code
def yX1_jump : MethodName := ⟨RX1, "jump", "(I)V"⟩
abbrev cX1_listen : ByteArray := prog_3_method_6_code
def yX1_listen : MethodName := ⟨RX1, "listen", "(I)Z"⟩
abbrev cX1_bestCandidate : ByteArray := prog_3_method_7_code
def yX1_bestCandidate : MethodName := ⟨RX1, "bestCandidate", "(I)I"⟩
abbrev cX1_isBetter : ByteArray := prog_3_method_8_code
def yX1_isBetter : MethodName := ⟨RX1, "isBetter", "(II)Z"⟩
abbrev cX1_points : ByteArray := prog_3_method_9_code
def yX1_points : MethodName := ⟨RX1, "points", "(I)I"⟩
abbrev cX1_accepts : ByteArray := prog_3_method_10_code
def yX1_accepts : MethodName := ⟨RX1, "accepts", "(I)Z"⟩
abbrev cX1_follow : ByteArray := prog_3_method_11_code
def yX1_follow : MethodName := ⟨RX1, "follow", "(I)V"⟩
abbrev cX1_keepHeard : ByteArray := prog_3_method_12_code
def yX1_keepHeard : MethodName := ⟨RX1, "keepHeard", "(I)V"⟩
abbrev cX1_readToEnd : ByteArray := prog_3_method_13_code
def yX1_readToEnd : MethodName := ⟨RX1, "readToEnd", "(I)V"⟩
abbrev cX1_estimatedWord : ByteArray := prog_3_method_14_code
def yX1_estimatedWord : MethodName := ⟨RX1, "estimatedWord", "()I"⟩
abbrev cX1_holdingWord : ByteArray := prog_3_method_15_code
def yX1_holdingWord : MethodName := ⟨RX1, "holdingWord", "()I"⟩
abbrev cX1_estimate : ByteArray := prog_3_method_16_code
def yX1_estimate : MethodName := ⟨RX1, "estimate", "(II)I"⟩
abbrev cX1_ticksTo : ByteArray := prog_3_method_17_code
def yX1_ticksTo : MethodName := ⟨RX1, "ticksTo", "(I)I"⟩
abbrev cX1_highestTop : ByteArray := prog_3_method_18_code
def yX1_highestTop : MethodName := ⟨RX1, "highestTop", "()I"⟩
abbrev cX1_desiredTop : ByteArray := prog_3_method_19_code
def yX1_desiredTop : MethodName := ⟨RX1, "desiredTop", "(I)I"⟩
abbrev cX1_shows : ByteArray := prog_3_method_20_code
def yX1_shows : MethodName := ⟨RX1, "shows", "(I)Z"⟩
abbrev cX1_lowestShown : ByteArray := prog_3_method_21_code
def yX1_lowestShown : MethodName := ⟨RX1, "lowestShown", "()I"⟩
abbrev cX1_passTime : ByteArray := prog_3_method_22_code
def yX1_passTime : MethodName := ⟨RX1, "passTime", "(I)I"⟩
abbrev cX1_scrollTo : ByteArray := prog_3_method_23_code
def yX1_scrollTo : MethodName := ⟨RX1, "scrollTo", "(I)V"⟩
def RX2 : String := "Teleprompter$Trail"
def TX2 : u_T := fun k => match k with
  | 0 => ("Teleprompter$Trail", "pairs", "I", false)
  | 1 => ("Teleprompter$Trail", "times", "[I", true)
  | _ => ("Teleprompter$Trail", "positions", "[I", true)
def tyX2 : Nat → FieldType := fun k => match k with
  | 0 => .int
  | 1 => .array .int
  | _ => .array .int
abbrev wsX20 : List Cond := u_ws RX2 TX2 3
theorem nmX2 : ∀ a, a < 3 → ∀ b, b < 3 → a ≠ b → (TX2 a).2.1 ≠ (TX2 b).2.1 := by decide +kernel
theorem tyX2_ok : ∀ k, k < 3 → parseFieldDescriptor (TX2 k).2.2.1 = some (tyX2 k) := by decide +kernel
abbrev cX2_init : ByteArray := prog_4_method_1_code
def yX2_init : MethodName := ⟨RX2, "<init>", "()V"⟩
abbrev cX2_become : ByteArray := prog_4_method_2_code
def yX2_become : MethodName := ⟨RX2, "become", "(LTeleprompter$Trail;)V"⟩
abbrev cX2_empty : ByteArray := prog_4_method_3_code
def yX2_empty : MethodName := ⟨RX2, "empty", "()V"⟩
abbrev cX2_add : ByteArray := prog_4_method_4_code
def yX2_add : MethodName := ⟨RX2, "add", "(III)V"⟩
abbrev cX2_speedOr : ByteArray := prog_4_method_5_code
def yX2_speedOr : MethodName := ⟨RX2, "speedOr", "(I)I"⟩
def RX3 : String := "Teleprompter"
def TX3 : u_T := fun k => match k with
  | 0 => ("Teleprompter", "text", "[I", true)
  | 1 => ("Teleprompter", "textLength", "I", false)
  | 2 => ("Teleprompter", "faultKind", "I", false)
  | 3 => ("Teleprompter", "faultPlace", "I", false)
  | 4 => ("Teleprompter", "draft", "LTeleprompter$Script;", true)
  | 5 => ("Teleprompter", "now", "LTeleprompter$State;", true)
  | 6 => ("Teleprompter", "copy", "LTeleprompter$State;", true)
  | 7 => ("Teleprompter", "history", "[LTeleprompter$State;", true)
  | 8 => ("Teleprompter", "undoable", "I", false)
  | 9 => ("Teleprompter", "images", "[LTeleprompter$State;", true)
  | _ => ("Teleprompter", "imageKept", "[Z", true)
def tyX3 : Nat → FieldType := fun k => match k with
  | 0 => .array .int
  | 1 => .int
  | 2 => .int
  | 3 => .int
  | 4 => .object "Teleprompter$Script"
  | 5 => .object "Teleprompter$State"
  | 6 => .object "Teleprompter$State"
  | 7 => .array (.object "Teleprompter$State")
  | 8 => .int
  | 9 => .array (.object "Teleprompter$State")
  | _ => .array .boolean
abbrev wsX30 : List Cond := u_ws RX3 TX3 11
theorem nmX3 : ∀ a, a < 11 → ∀ b, b < 11 → a ≠ b → (TX3 a).2.1 ≠ (TX3 b).2.1 := by decide +kernel
theorem tyX3_ok : ∀ k, k < 11 → parseFieldDescriptor (TX3 k).2.2.1 = some (tyX3 k) := by decide +kernel
abbrev cX3_init : ByteArray := prog_1_method_1_code
def yX3_init : MethodName := ⟨RX3, "<init>", "()V"⟩
abbrev cX3_load : ByteArray := prog_1_method_2_code
def yX3_load : MethodName := ⟨RX3, "load", "()I"⟩
abbrev cX3_set : ByteArray := prog_1_method_3_code
def yX3_set : MethodName := ⟨RX3, "set", "(II)I"⟩
abbrev cX3_hear : ByteArray := prog_1_method_4_code
def yX3_hear : MethodName := ⟨RX3, "hear", "(I)I"⟩
abbrev cX3_tick : ByteArray := prog_1_method_5_code
def yX3_tick : MethodName := ⟨RX3, "tick", "(I)I"⟩
abbrev cX3_release : ByteArray := prog_1_method_6_code
def yX3_release : MethodName := ⟨RX3, "release", "()I"⟩
abbrev cX3_place : ByteArray := prog_1_method_7_code
def yX3_place : MethodName := ⟨RX3, "place", "(I)I"⟩
abbrev cX3_undo : ByteArray := prog_1_method_8_code
def yX3_undo : MethodName := ⟨RX3, "undo", "()I"⟩
abbrev cX3_write : ByteArray := prog_1_method_9_code
def yX3_write : MethodName := ⟨RX3, "write", "(I)I"⟩
abbrev cX3_wipe : ByteArray := prog_1_method_10_code
def yX3_wipe : MethodName := ⟨RX3, "wipe", "()I"⟩
abbrev cX3_fault : ByteArray := prog_1_method_11_code
def yX3_fault : MethodName := ⟨RX3, "fault", "(I)I"⟩
abbrev cX3_told : ByteArray := prog_1_method_12_code
def yX3_told : MethodName := ⟨RX3, "told", "(I)I"⟩
abbrev cX3_setting : ByteArray := prog_1_method_13_code
def yX3_setting : MethodName := ⟨RX3, "setting", "(I)I"⟩
abbrev cX3_word : ByteArray := prog_1_method_14_code
def yX3_word : MethodName := ⟨RX3, "word", "(II)I"⟩
abbrev cX3_row : ByteArray := prog_1_method_15_code
def yX3_row : MethodName := ⟨RX3, "row", "(II)I"⟩
abbrev cX3_heard : ByteArray := prog_1_method_16_code
def yX3_heard : MethodName := ⟨RX3, "heard", "(I)I"⟩
abbrev cX3_trail : ByteArray := prog_1_method_17_code
def yX3_trail : MethodName := ⟨RX3, "trail", "(II)I"⟩
abbrev cX3_score : ByteArray := prog_1_method_18_code
def yX3_score : MethodName := ⟨RX3, "score", "(I)I"⟩
abbrev cX3_best : ByteArray := prog_1_method_19_code
def yX3_best : MethodName := ⟨RX3, "best", "(II)I"⟩
abbrev cX3_unique : ByteArray := prog_1_method_20_code
def yX3_unique : MethodName := ⟨RX3, "unique", "(I)I"⟩
abbrev cX3_mean : ByteArray := prog_1_method_21_code
def yX3_mean : MethodName := ⟨RX3, "mean", "()F"⟩
abbrev cX3_reached : ByteArray := prog_1_method_22_code
def yX3_reached : MethodName := ⟨RX3, "reached", "(I)I"⟩
abbrev cX3_rehearse : ByteArray := prog_1_method_23_code
def yX3_rehearse : MethodName := ⟨RX3, "rehearse", "(II)I"⟩
abbrev cX3_keep : ByteArray := prog_1_method_24_code
def yX3_keep : MethodName := ⟨RX3, "keep", "(I)I"⟩
abbrev cX3_back : ByteArray := prog_1_method_25_code
def yX3_back : MethodName := ⟨RX3, "back", "(I)I"⟩
abbrev cX3_readText : ByteArray := prog_1_method_26_code
def yX3_readText : MethodName := ⟨RX3, "readText", "()Z"⟩
abbrev cX3_record : ByteArray := prog_1_method_27_code
def yX3_record : MethodName := ⟨RX3, "record", "()V"⟩
abbrev cX3_dropOldest : ByteArray := prog_1_method_28_code
def yX3_dropOldest : MethodName := ⟨RX3, "dropOldest", "()V"⟩
abbrev cX3_stateAt : ByteArray := prog_1_method_29_code
def yX3_stateAt : MethodName := ⟨RX3, "stateAt", "([LTeleprompter$State;I)LTeleprompter$State;"⟩
abbrev cX3_isSetting : ByteArray := prog_1_method_30_code
def yX3_isSetting : MethodName := ⟨RX3, "isSetting", "(I)Z"⟩
abbrev cX3_isLetter : ByteArray := prog_1_method_31_code
def yX3_isLetter : MethodName := ⟨RX3, "isLetter", "(I)Z"⟩
abbrev cX3_at : ByteArray := prog_1_method_32_code
def yX3_at : MethodName := ⟨RX3, "at", "([II)I"⟩
abbrev cX3_put : ByteArray := prog_1_method_33_code
def yX3_put : MethodName := ⟨RX3, "put", "([III)V"⟩
abbrev cX3_copyRow : ByteArray := prog_1_method_34_code
def yX3_copyRow : MethodName := ⟨RX3, "copyRow", "([I[I)V"⟩
abbrev cX3_limited : ByteArray := prog_1_method_35_code
def yX3_limited : MethodName := ⟨RX3, "limited", "(III)I"⟩
def RX4 : String := "TeleprompterModel"
def TX4 : u_T := fun k => match k with
  | 0 => ("TeleprompterModel", "w", "[I", true)
  | 1 => ("TeleprompterModel", "past", "[I", true)
  | 2 => ("TeleprompterModel", "pastMany", "I", false)
  | 3 => ("TeleprompterModel", "images", "[I", true)
  | 4 => ("TeleprompterModel", "filled", "I", false)
  | 5 => ("TeleprompterModel", "text", "[I", true)
  | 6 => ("TeleprompterModel", "length", "I", false)
  | 7 => ("TeleprompterModel", "faultKind", "I", false)
  | 8 => ("TeleprompterModel", "faultPlace", "I", false)
  | 9 => ("TeleprompterModel", "rowOf", "[I", true)
  | 10 => ("TeleprompterModel", "rows", "I", false)
  | 11 => ("TeleprompterModel", "wrongKind", "I", false)
  | 12 => ("TeleprompterModel", "wrongPlace", "I", false)
  | 13 => ("TeleprompterModel", "readWords", "I", false)
  | 14 => ("TeleprompterModel", "readPassages", "I", false)
  | 15 => ("TeleprompterModel", "readLetter", "[I", true)
  | 16 => ("TeleprompterModel", "readCue", "[I", true)
  | 17 => ("TeleprompterModel", "readPassage", "[I", true)
  | _ => ("TeleprompterModel", "held", "[I", true)
def tyX4 : Nat → FieldType := fun k => match k with
  | 0 => .array .int
  | 1 => .array .int
  | 2 => .int
  | 3 => .array .int
  | 4 => .int
  | 5 => .array .int
  | 6 => .int
  | 7 => .int
  | 8 => .int
  | 9 => .array .int
  | 10 => .int
  | 11 => .int
  | 12 => .int
  | 13 => .int
  | 14 => .int
  | 15 => .array .int
  | 16 => .array .int
  | 17 => .array .int
  | _ => .array .int
abbrev wsX40 : List Cond := u_ws RX4 TX4 19
theorem nmX4 : ∀ a, a < 19 → ∀ b, b < 19 → a ≠ b → (TX4 a).2.1 ≠ (TX4 b).2.1 := by decide +kernel
theorem tyX4_ok : ∀ k, k < 19 → parseFieldDescriptor (TX4 k).2.2.1 = some (tyX4 k) := by decide +kernel
abbrev cX4_init : ByteArray := prog_6_method_1_code
def yX4_init : MethodName := ⟨RX4, "<init>", "()V"⟩
abbrev cX4_isIn : ByteArray := prog_6_method_3_code
def yX4_isIn : MethodName := ⟨RX4, "isIn", "(III)Z"⟩
abbrev cX4_remember : ByteArray := prog_6_method_4_code
def yX4_remember : MethodName := ⟨RX4, "remember", "()V"⟩
abbrev cX4_layRows : ByteArray := prog_6_method_5_code
def yX4_layRows : MethodName := ⟨RX4, "layRows", "()V"⟩
abbrev cX4_greatestTop : ByteArray := prog_6_method_6_code
def yX4_greatestTop : MethodName := ⟨RX4, "greatestTop", "()I"⟩
abbrev cX4_limited : ByteArray := prog_6_method_7_code
def yX4_limited : MethodName := ⟨RX4, "limited", "(I)I"⟩
abbrev cX4_isWord : ByteArray := prog_6_method_8_code
def yX4_isWord : MethodName := ⟨RX4, "isWord", "(I)Z"⟩
abbrev cX4_isLetter : ByteArray := prog_6_method_9_code
def yX4_isLetter : MethodName := ⟨RX4, "isLetter", "(I)Z"⟩
abbrev cX4_scoreOf : ByteArray := prog_6_method_10_code
def yX4_scoreOf : MethodName := ⟨RX4, "scoreOf", "(I)I"⟩
abbrev cX4_bestOf : ByteArray := prog_6_method_11_code
def yX4_bestOf : MethodName := ⟨RX4, "bestOf", "(I)I"⟩
abbrev cX4_far : ByteArray := prog_6_method_12_code
def yX4_far : MethodName := ⟨RX4, "far", "(I)I"⟩
abbrev cX4_isAccepted : ByteArray := prog_6_method_13_code
def yX4_isAccepted : MethodName := ⟨RX4, "isAccepted", "(I)Z"⟩
abbrev cX4_keepWord : ByteArray := prog_6_method_14_code
def yX4_keepWord : MethodName := ⟨RX4, "keepWord", "(I)V"⟩
abbrev cX4_follow : ByteArray := prog_6_method_15_code
def yX4_follow : MethodName := ⟨RX4, "follow", "(I)V"⟩
abbrev cX4_leaveTrail : ByteArray := prog_6_method_16_code
def yX4_leaveTrail : MethodName := ⟨RX4, "leaveTrail", "()V"⟩
abbrev cX4_hearNow : ByteArray := prog_6_method_17_code
def yX4_hearNow : MethodName := ⟨RX4, "hearNow", "(I)I"⟩
abbrev cX4_nextCue : ByteArray := prog_6_method_18_code
def yX4_nextCue : MethodName := ⟨RX4, "nextCue", "()I"⟩
abbrev cX4_estimated : ByteArray := prog_6_method_19_code
def yX4_estimated : MethodName := ⟨RX4, "estimated", "()I"⟩
abbrev cX4_desired : ByteArray := prog_6_method_20_code
def yX4_desired : MethodName := ⟨RX4, "desired", "()I"⟩
abbrev cX4_isShown : ByteArray := prog_6_method_21_code
def yX4_isShown : MethodName := ⟨RX4, "isShown", "(I)Z"⟩
abbrev cX4_tickOnce : ByteArray := prog_6_method_22_code
def yX4_tickOnce : MethodName := ⟨RX4, "tickOnce", "()V"⟩
abbrev cX4_releaseNext : ByteArray := prog_6_method_23_code
def yX4_releaseNext : MethodName := ⟨RX4, "releaseNext", "()I"⟩
abbrev cX4_fails : ByteArray := prog_6_method_24_code
def yX4_fails : MethodName := ⟨RX4, "fails", "(II)V"⟩
abbrev cX4_readWord : ByteArray := prog_6_method_25_code
def yX4_readWord : MethodName := ⟨RX4, "readWord", "(I)V"⟩
abbrev cX4_hasWord : ByteArray := prog_6_method_26_code
def yX4_hasWord : MethodName := ⟨RX4, "hasWord", "()Z"⟩
abbrev cX4_readByte : ByteArray := prog_6_method_27_code
def yX4_readByte : MethodName := ⟨RX4, "readByte", "(I)V"⟩
abbrev cX4_readText : ByteArray := prog_6_method_28_code
def yX4_readText : MethodName := ⟨RX4, "readText", "()V"⟩
abbrev cX4_load : ByteArray := prog_6_method_29_code
def yX4_load : MethodName := ⟨RX4, "load", "()I"⟩
abbrev cX4_write : ByteArray := prog_6_method_30_code
def yX4_write : MethodName := ⟨RX4, "write", "(I)I"⟩
abbrev cX4_wipe : ByteArray := prog_6_method_31_code
def yX4_wipe : MethodName := ⟨RX4, "wipe", "()I"⟩
abbrev cX4_fault : ByteArray := prog_6_method_32_code
def yX4_fault : MethodName := ⟨RX4, "fault", "(I)I"⟩
abbrev cX4_isOf : ByteArray := prog_6_method_33_code
def yX4_isOf : MethodName := ⟨RX4, "isOf", "(II)Z"⟩
abbrev cX4_set : ByteArray := prog_6_method_34_code
def yX4_set : MethodName := ⟨RX4, "set", "(II)I"⟩
abbrev cX4_hear : ByteArray := prog_6_method_35_code
def yX4_hear : MethodName := ⟨RX4, "hear", "(I)I"⟩
abbrev cX4_tick : ByteArray := prog_6_method_36_code
def yX4_tick : MethodName := ⟨RX4, "tick", "(I)I"⟩
abbrev cX4_release : ByteArray := prog_6_method_37_code
def yX4_release : MethodName := ⟨RX4, "release", "()I"⟩
abbrev cX4_place : ByteArray := prog_6_method_38_code
def yX4_place : MethodName := ⟨RX4, "place", "(I)I"⟩
abbrev cX4_undo : ByteArray := prog_6_method_39_code
def yX4_undo : MethodName := ⟨RX4, "undo", "()I"⟩
abbrev cX4_cues : ByteArray := prog_6_method_40_code
def yX4_cues : MethodName := ⟨RX4, "cues", "()I"⟩
abbrev cX4_told : ByteArray := prog_6_method_41_code
def yX4_told : MethodName := ⟨RX4, "told", "(I)I"⟩
abbrev cX4_setting : ByteArray := prog_6_method_42_code
def yX4_setting : MethodName := ⟨RX4, "setting", "(I)I"⟩
abbrev cX4_word : ByteArray := prog_6_method_43_code
def yX4_word : MethodName := ⟨RX4, "word", "(II)I"⟩
abbrev cX4_row : ByteArray := prog_6_method_44_code
def yX4_row : MethodName := ⟨RX4, "row", "(II)I"⟩
abbrev cX4_heard : ByteArray := prog_6_method_45_code
def yX4_heard : MethodName := ⟨RX4, "heard", "(I)I"⟩
abbrev cX4_trail : ByteArray := prog_6_method_46_code
def yX4_trail : MethodName := ⟨RX4, "trail", "(II)I"⟩
abbrev cX4_score : ByteArray := prog_6_method_47_code
def yX4_score : MethodName := ⟨RX4, "score", "(I)I"⟩
abbrev cX4_best : ByteArray := prog_6_method_48_code
def yX4_best : MethodName := ⟨RX4, "best", "(II)I"⟩
abbrev cX4_isElsewhere : ByteArray := prog_6_method_49_code
def yX4_isElsewhere : MethodName := ⟨RX4, "isElsewhere", "(II)Z"⟩
abbrev cX4_unique : ByteArray := prog_6_method_50_code
def yX4_unique : MethodName := ⟨RX4, "unique", "(I)I"⟩
abbrev cX4_mean : ByteArray := prog_6_method_51_code
def yX4_mean : MethodName := ⟨RX4, "mean", "()F"⟩
abbrev cX4_hold : ByteArray := prog_6_method_52_code
def yX4_hold : MethodName := ⟨RX4, "hold", "()V"⟩
abbrev cX4_restore : ByteArray := prog_6_method_53_code
def yX4_restore : MethodName := ⟨RX4, "restore", "()V"⟩
abbrev cX4_reached : ByteArray := prog_6_method_54_code
def yX4_reached : MethodName := ⟨RX4, "reached", "(I)I"⟩
abbrev cX4_rehearse : ByteArray := prog_6_method_55_code
def yX4_rehearse : MethodName := ⟨RX4, "rehearse", "(II)I"⟩
abbrev cX4_isImage : ByteArray := prog_6_method_56_code
def yX4_isImage : MethodName := ⟨RX4, "isImage", "(I)Z"⟩
abbrev cX4_keep : ByteArray := prog_6_method_57_code
def yX4_keep : MethodName := ⟨RX4, "keep", "(I)I"⟩
abbrev cX4_back : ByteArray := prog_6_method_58_code
def yX4_back : MethodName := ⟨RX4, "back", "(I)I"⟩
def RJ9 : String := "java/lang/Math"
def TJ9 : u_T := fun k => match k with
  | _ => ("", "", "", false)
def tyJ9 : Nat → FieldType := fun k => match k with
  | _ => .int
abbrev wsJ90 : List Cond := u_ws RJ9 TJ9 0
theorem nmJ9 : ∀ a, a < 0 → ∀ b, b < 0 → a ≠ b → (TJ9 a).2.1 ≠ (TJ9 b).2.1 := by decide +kernel
theorem tyJ9_ok : ∀ k, k < 0 → parseFieldDescriptor (TJ9 k).2.2.1 = some (tyJ9 k) := by decide +kernel
abbrev cJ9_abs_0f7a4 : ByteArray := prog_7_method_59_code
def yJ9_abs_0f7a4 : MethodName := ⟨RJ9, "abs", "(I)I"⟩
abbrev cJ9_max_7cf53 : ByteArray := prog_7_method_65_code
def yJ9_max_7cf53 : MethodName := ⟨RJ9, "max", "(II)I"⟩
abbrev cJ9_max_f86c9 : ByteArray := prog_7_method_66_code
def yJ9_max_f86c9 : MethodName := ⟨RJ9, "max", "(JJ)J"⟩
abbrev cJ9_min_7cf53 : ByteArray := prog_7_method_69_code
def yJ9_min_7cf53 : MethodName := ⟨RJ9, "min", "(II)I"⟩
abbrev cJ9_min_f86c9 : ByteArray := prog_7_method_70_code
def yJ9_min_f86c9 : MethodName := ⟨RJ9, "min", "(JJ)J"⟩
def RJ10 : String := "java/lang/System"
def TJ10 : u_T := fun k => match k with
  | _ => ("", "", "", false)
def tyJ10 : Nat → FieldType := fun k => match k with
  | _ => .int
abbrev wsJ100 : List Cond := u_ws RJ10 TJ10 0
theorem nmJ10 : ∀ a, a < 0 → ∀ b, b < 0 → a ≠ b → (TJ10 a).2.1 ≠ (TJ10 b).2.1 := by decide +kernel
theorem tyJ10_ok : ∀ k, k < 0 → parseFieldDescriptor (TJ10 k).2.2.1 = some (tyJ10 k) := by decide +kernel
def RL : String := "TeleprompterLaw"
abbrev cL_law : ByteArray := code
def yL_law : MethodName := ⟨RL, "law", "([I)Z"⟩
def wsX0_init : List Cond := .code yX0_init cX0_init 1 none :: ([.methodLink RX0 3 objectInit, .instanceMethod objectInit, .code objectInit ⟨#[0xb1]⟩ 1 none, .arrayClass .int, .fieldLink RX0 9 "Teleprompter$Script" "letters" "[I", .fieldLink RX0 15 "Teleprompter$Script" "passageOf" "[I", .fieldLink RX0 18 "Teleprompter$Script" "cues" "[I", .fieldLink RX0 21 "Teleprompter$Script" "rowOf" "[I", .fieldLink RX0 24 "Teleprompter$Script" "firstOfRow" "[I"] ++ wsX00)
def wsX3_copyRow : List Cond := .code yX3_copyRow cX3_copyRow 2 none :: ([.methodLink RX3 250 Lib.Math.min.name, .static Lib.Math.min.name, .initialized "java/lang/Math", .code Lib.Math.min.name Lib.Math.min.code 2 (some .int), .methodLink RX3 255 arraycopyName, .native arraycopyName, .static arraycopyName, .initialized "java/lang/System"])
def wsX0_become : List Cond := .code yX0_become cX0_become 2 none :: ([.fieldLink RX0 27 "Teleprompter$Script" "words" "I", .fieldLink RX0 31 "Teleprompter$Script" "passages" "I", .fieldLink RX0 34 "Teleprompter$Script" "wordsInPassage" "I", .fieldLink RX0 37 "Teleprompter$Script" "rows" "I", .fieldLink RX0 9 "Teleprompter$Script" "letters" "[I", .fieldLink RX0 15 "Teleprompter$Script" "passageOf" "[I", .fieldLink RX0 18 "Teleprompter$Script" "cues" "[I", .fieldLink RX0 21 "Teleprompter$Script" "rowOf" "[I", .fieldLink RX0 24 "Teleprompter$Script" "firstOfRow" "[I", .static yX3_copyRow, .initialized RX3, .code yX3_copyRow cX3_copyRow 2 none, .methodLink RX3 250 Lib.Math.min.name, .static Lib.Math.min.name, .initialized "java/lang/Math", .code Lib.Math.min.name Lib.Math.min.code 2 (some .int), .methodLink RX3 255 arraycopyName, .native arraycopyName, .static arraycopyName, .initialized "java/lang/System"] ++ wsX00)
def wsX0_empty : List Cond := .code yX0_empty cX0_empty 1 none :: ([.fieldLink RX0 27 "Teleprompter$Script" "words" "I", .fieldLink RX0 31 "Teleprompter$Script" "passages" "I", .fieldLink RX0 34 "Teleprompter$Script" "wordsInPassage" "I"] ++ wsX00)
def wsX3_isLetter : List Cond := .code yX3_isLetter cX3_isLetter 1 (some .boolean) :: ([])
def wsX3_put : List Cond := .code yX3_put cX3_put 3 none :: ([])
def wsX0_append : List Cond := .code yX0_append cX0_append 2 (some .int) :: ([.fieldLink RX0 27 "Teleprompter$Script" "words" "I", .fieldLink RX0 9 "Teleprompter$Script" "letters" "[I", .fieldLink RX0 15 "Teleprompter$Script" "passageOf" "[I", .fieldLink RX0 31 "Teleprompter$Script" "passages" "I", .fieldLink RX0 18 "Teleprompter$Script" "cues" "[I", .fieldLink RX0 34 "Teleprompter$Script" "wordsInPassage" "I", .static yX3_put, .initialized RX3, .code yX3_put cX3_put 3 none] ++ wsX00)
def wsX0_setCue : List Cond := .code yX0_setCue cX0_setCue 1 (some .int) :: ([.fieldLink RX0 18 "Teleprompter$Script" "cues" "[I", .fieldLink RX0 27 "Teleprompter$Script" "words" "I", .static yX3_put, .initialized RX3, .code yX3_put cX3_put 3 none] ++ wsX00)
def wsX0_endPassage : List Cond := .code yX0_endPassage cX0_endPassage 1 (some .int) :: ([.fieldLink RX0 31 "Teleprompter$Script" "passages" "I", .fieldLink RX0 34 "Teleprompter$Script" "wordsInPassage" "I"] ++ wsX00)
def wsX0_read : List Cond := .code yX0_read cX0_read 3 (some .int) :: ([.fieldLink RX0 34 "Teleprompter$Script" "wordsInPassage" "I", .static yX3_isLetter, .initialized RX3, .code yX3_isLetter cX3_isLetter 1 (some .boolean), .methodLink RX0 48 yX0_append, .instanceMethod yX0_append, .selects RX0 yX0_append yX0_append, .initialized RX0, .code yX0_append cX0_append 2 (some .int), .fieldLink RX0 27 "Teleprompter$Script" "words" "I", .fieldLink RX0 9 "Teleprompter$Script" "letters" "[I", .fieldLink RX0 15 "Teleprompter$Script" "passageOf" "[I", .fieldLink RX0 31 "Teleprompter$Script" "passages" "I", .fieldLink RX0 18 "Teleprompter$Script" "cues" "[I", .static yX3_put, .code yX3_put cX3_put 3 none, .methodLink RX0 52 yX0_setCue, .instanceMethod yX0_setCue, .selects RX0 yX0_setCue yX0_setCue, .code yX0_setCue cX0_setCue 1 (some .int), .methodLink RX0 56 yX0_endPassage, .instanceMethod yX0_endPassage, .selects RX0 yX0_endPassage yX0_endPassage, .code yX0_endPassage cX0_endPassage 1 (some .int)] ++ wsX00)
def wsX3_at : List Cond := .code yX3_at cX3_at 2 (some .int) :: ([])
def wsX0_lay : List Cond := .code yX0_lay cX0_lay 4 none :: ([.fieldLink RX0 37 "Teleprompter$Script" "rows" "I", .fieldLink RX0 27 "Teleprompter$Script" "words" "I", .fieldLink RX0 15 "Teleprompter$Script" "passageOf" "[I", .fieldLink RX0 24 "Teleprompter$Script" "firstOfRow" "[I", .fieldLink RX0 21 "Teleprompter$Script" "rowOf" "[I", .static yX3_at, .initialized RX3, .code yX3_at cX3_at 2 (some .int), .static yX3_put, .code yX3_put cX3_put 3 none] ++ wsX00)
def wsX0_has : List Cond := .code yX0_has cX0_has 2 (some .boolean) :: ([.fieldLink RX0 27 "Teleprompter$Script" "words" "I"] ++ wsX00)
def wsX0_rowLength : List Cond := .code yX0_rowLength cX0_rowLength 3 (some .int) :: ([.fieldLink RX0 37 "Teleprompter$Script" "rows" "I", .fieldLink RX0 24 "Teleprompter$Script" "firstOfRow" "[I", .fieldLink RX0 27 "Teleprompter$Script" "words" "I", .static yX3_at, .initialized RX3, .code yX3_at cX3_at 2 (some .int)] ++ wsX00)
def wsX0_cueCount : List Cond := .code yX0_cueCount cX0_cueCount 3 (some .int) :: ([.fieldLink RX0 27 "Teleprompter$Script" "words" "I", .fieldLink RX0 18 "Teleprompter$Script" "cues" "[I", .static yX3_at, .initialized RX3, .code yX3_at cX3_at 2 (some .int)] ++ wsX00)
def wsX0_nextCue : List Cond := .code yX0_nextCue cX0_nextCue 2 (some .int) :: ([.fieldLink RX0 27 "Teleprompter$Script" "words" "I", .fieldLink RX0 18 "Teleprompter$Script" "cues" "[I", .static yX3_at, .initialized RX3, .code yX3_at cX3_at 2 (some .int)] ++ wsX00)
def wsX0_freeCue : List Cond := .code yX0_freeCue cX0_freeCue 2 none :: ([.fieldLink RX0 18 "Teleprompter$Script" "cues" "[I", .static yX3_put, .initialized RX3, .code yX3_put cX3_put 3 none] ++ wsX00)
def wsX0_passWaitingBefore : List Cond := .code yX0_passWaitingBefore cX0_passWaitingBefore 4 (some .int) :: ([.fieldLink RX0 27 "Teleprompter$Script" "words" "I", .fieldLink RX0 18 "Teleprompter$Script" "cues" "[I", .static yX3_at, .initialized RX3, .code yX3_at cX3_at 2 (some .int), .static yX3_put, .code yX3_put cX3_put 3 none] ++ wsX00)
def wsX0_setCuesAround : List Cond := .code yX0_setCuesAround cX0_setCuesAround 3 none :: ([.fieldLink RX0 27 "Teleprompter$Script" "words" "I", .fieldLink RX0 18 "Teleprompter$Script" "cues" "[I", .static yX3_at, .initialized RX3, .code yX3_at cX3_at 2 (some .int), .static yX3_put, .code yX3_put cX3_put 3 none] ++ wsX00)
def wsX0_sameEnding : List Cond := .code yX0_sameEnding cX0_sameEnding 5 (some .boolean) :: ([.fieldLink RX0 9 "Teleprompter$Script" "letters" "[I", .static yX3_at, .initialized RX3, .code yX3_at cX3_at 2 (some .int)] ++ wsX00)
def wsX0_endsElsewhere : List Cond := .code yX0_endsElsewhere cX0_endsElsewhere 4 (some .boolean) :: ([.fieldLink RX0 27 "Teleprompter$Script" "words" "I", .methodLink RX0 71 yX0_sameEnding, .instanceMethod yX0_sameEnding, .selects RX0 yX0_sameEnding yX0_sameEnding, .initialized RX0, .code yX0_sameEnding cX0_sameEnding 5 (some .boolean), .fieldLink RX0 9 "Teleprompter$Script" "letters" "[I", .static yX3_at, .initialized RX3, .code yX3_at cX3_at 2 (some .int)] ++ wsX00)
def wsX0_uniqueLength : List Cond := .code yX0_uniqueLength cX0_uniqueLength 3 (some .int) :: ([.methodLink RX0 67 yX0_endsElsewhere, .instanceMethod yX0_endsElsewhere, .selects RX0 yX0_endsElsewhere yX0_endsElsewhere, .initialized RX0, .code yX0_endsElsewhere cX0_endsElsewhere 4 (some .boolean), .fieldLink RX0 27 "Teleprompter$Script" "words" "I", .methodLink RX0 71 yX0_sameEnding, .instanceMethod yX0_sameEnding, .selects RX0 yX0_sameEnding yX0_sameEnding, .code yX0_sameEnding cX0_sameEnding 5 (some .boolean), .fieldLink RX0 9 "Teleprompter$Script" "letters" "[I", .static yX3_at, .initialized RX3, .code yX3_at cX3_at 2 (some .int)] ++ wsX00)
def wsX2_init : List Cond := .code yX2_init cX2_init 1 none :: ([.methodLink RX2 3 objectInit, .instanceMethod objectInit, .code objectInit ⟨#[0xb1]⟩ 1 none, .arrayClass .int, .fieldLink RX2 9 "Teleprompter$Trail" "times" "[I", .fieldLink RX2 15 "Teleprompter$Trail" "positions" "[I"] ++ wsX20)
def wsX1_init_r1 : List Cond := [Cond.methodLink RX1 3 objectInit, Cond.instanceMethod objectInit, Cond.code objectInit ⟨#[0xb1]⟩ 1 none, Cond.arrayClass .int, Cond.fieldLink RX1 9 "Teleprompter$State" "settings" "[I", Cond.classLink RX1 15 RX0, Cond.instantiable RX0 9, Cond.initialized RX0, Cond.fieldLink RX1 18 "Teleprompter$State" "script" "LTeleprompter$Script;", Cond.classLink RX1 22 RX2, Cond.instantiable RX2 3, Cond.initialized RX2, Cond.fieldLink RX1 25 "Teleprompter$State" "trail" "LTeleprompter$Trail;", Cond.fieldLink RX1 29 "Teleprompter$State" "kept" "[I", Cond.instanceMethod yX0_init, Cond.code yX0_init cX0_init 1 none, Cond.methodLink RX0 3 objectInit, Cond.fieldLink RX0 9 "Teleprompter$Script" "letters" "[I", Cond.fieldLink RX0 15 "Teleprompter$Script" "passageOf" "[I", Cond.fieldLink RX0 18 "Teleprompter$Script" "cues" "[I", Cond.fieldLink RX0 21 "Teleprompter$Script" "rowOf" "[I", Cond.fieldLink RX0 24 "Teleprompter$Script" "firstOfRow" "[I", Cond.instanceMethod yX2_init, Cond.code yX2_init cX2_init 1 none]
def wsX1_init_r2 : List Cond := [Cond.methodLink RX2 3 objectInit, Cond.fieldLink RX2 9 "Teleprompter$Trail" "times" "[I", Cond.fieldLink RX2 15 "Teleprompter$Trail" "positions" "[I"]
def wsX1_init : List Cond := .code yX1_init cX1_init 1 none :: ((wsX1_init_r1 ++ wsX1_init_r2) ++ wsX10 ++ wsX00 ++ wsX20)
def wsX2_become : List Cond := .code yX2_become cX2_become 2 none :: ([.fieldLink RX2 18 "Teleprompter$Trail" "pairs" "I", .fieldLink RX2 9 "Teleprompter$Trail" "times" "[I", .fieldLink RX2 15 "Teleprompter$Trail" "positions" "[I", .static yX3_copyRow, .initialized RX3, .code yX3_copyRow cX3_copyRow 2 none, .methodLink RX3 250 Lib.Math.min.name, .static Lib.Math.min.name, .initialized "java/lang/Math", .code Lib.Math.min.name Lib.Math.min.code 2 (some .int), .methodLink RX3 255 arraycopyName, .native arraycopyName, .static arraycopyName, .initialized "java/lang/System"] ++ wsX20)
def wsX1_become_r1 : List Cond := [Cond.fieldLink RX1 9 "Teleprompter$State" "settings" "[I", Cond.fieldLink RX1 18 "Teleprompter$State" "script" "LTeleprompter$Script;", Cond.fieldLink RX1 25 "Teleprompter$State" "trail" "LTeleprompter$Trail;", Cond.fieldLink RX1 29 "Teleprompter$State" "kept" "[I", Cond.fieldLink RX1 43 "Teleprompter$State" "keptCount" "I", Cond.fieldLink RX1 47 "Teleprompter$State" "position" "I", Cond.fieldLink RX1 50 "Teleprompter$State" "speed" "I", Cond.fieldLink RX1 53 "Teleprompter$State" "time" "I", Cond.fieldLink RX1 56 "Teleprompter$State" "heardTime" "I", Cond.fieldLink RX1 59 "Teleprompter$State" "top" "I", Cond.fieldLink RX1 62 "Teleprompter$State" "skips" "I", Cond.fieldLink RX1 65 "Teleprompter$State" "repeats" "I", Cond.fieldLink RX1 68 "Teleprompter$State" "misses" "I", Cond.fieldLink RX1 71 "Teleprompter$State" "jerks" "I", Cond.fieldLink RX1 74 "Teleprompter$State" "overruns" "I", Cond.static yX3_copyRow, Cond.initialized RX3, Cond.code yX3_copyRow cX3_copyRow 2 none, Cond.methodLink RX3 250 Lib.Math.min.name, Cond.static Lib.Math.min.name, Cond.initialized "java/lang/Math", Cond.code Lib.Math.min.name Lib.Math.min.code 2 (some .int), Cond.methodLink RX3 255 arraycopyName, Cond.native arraycopyName]
def wsX1_become_r2 : List Cond := [Cond.static arraycopyName, Cond.initialized "java/lang/System", Cond.methodLink RX1 36 yX0_become, Cond.instanceMethod yX0_become, Cond.selects RX0 yX0_become yX0_become, Cond.initialized RX0, Cond.code yX0_become cX0_become 2 none, Cond.fieldLink RX0 27 "Teleprompter$Script" "words" "I", Cond.fieldLink RX0 31 "Teleprompter$Script" "passages" "I", Cond.fieldLink RX0 34 "Teleprompter$Script" "wordsInPassage" "I", Cond.fieldLink RX0 37 "Teleprompter$Script" "rows" "I", Cond.fieldLink RX0 9 "Teleprompter$Script" "letters" "[I", Cond.fieldLink RX0 15 "Teleprompter$Script" "passageOf" "[I", Cond.fieldLink RX0 18 "Teleprompter$Script" "cues" "[I", Cond.fieldLink RX0 21 "Teleprompter$Script" "rowOf" "[I", Cond.fieldLink RX0 24 "Teleprompter$Script" "firstOfRow" "[I", Cond.methodLink RX1 40 yX2_become, Cond.instanceMethod yX2_become, Cond.selects RX2 yX2_become yX2_become, Cond.initialized RX2, Cond.code yX2_become cX2_become 2 none, Cond.fieldLink RX2 18 "Teleprompter$Trail" "pairs" "I", Cond.fieldLink RX2 9 "Teleprompter$Trail" "times" "[I", Cond.fieldLink RX2 15 "Teleprompter$Trail" "positions" "[I"]
def wsX1_become : List Cond := .code yX1_become cX1_become 2 none :: ((wsX1_become_r1 ++ wsX1_become_r2) ++ wsX10 ++ wsX00 ++ wsX20)
def wsX2_empty : List Cond := .code yX2_empty cX2_empty 1 none :: ([.fieldLink RX2 18 "Teleprompter$Trail" "pairs" "I"] ++ wsX20)
def wsX1_begin_r1 : List Cond := [Cond.fieldLink RX1 18 "Teleprompter$State" "script" "LTeleprompter$Script;", Cond.fieldLink RX1 9 "Teleprompter$State" "settings" "[I", Cond.fieldLink RX1 25 "Teleprompter$State" "trail" "LTeleprompter$Trail;", Cond.fieldLink RX1 43 "Teleprompter$State" "keptCount" "I", Cond.fieldLink RX1 47 "Teleprompter$State" "position" "I", Cond.fieldLink RX1 50 "Teleprompter$State" "speed" "I", Cond.fieldLink RX1 53 "Teleprompter$State" "time" "I", Cond.fieldLink RX1 56 "Teleprompter$State" "heardTime" "I", Cond.fieldLink RX1 59 "Teleprompter$State" "top" "I", Cond.fieldLink RX1 62 "Teleprompter$State" "skips" "I", Cond.fieldLink RX1 65 "Teleprompter$State" "repeats" "I", Cond.fieldLink RX1 68 "Teleprompter$State" "misses" "I", Cond.fieldLink RX1 71 "Teleprompter$State" "jerks" "I", Cond.fieldLink RX1 74 "Teleprompter$State" "overruns" "I", Cond.methodLink RX1 36 yX0_become, Cond.instanceMethod yX0_become, Cond.selects RX0 yX0_become yX0_become, Cond.initialized RX0, Cond.code yX0_become cX0_become 2 none, Cond.fieldLink RX0 27 "Teleprompter$Script" "words" "I", Cond.fieldLink RX0 31 "Teleprompter$Script" "passages" "I", Cond.fieldLink RX0 34 "Teleprompter$Script" "wordsInPassage" "I", Cond.fieldLink RX0 37 "Teleprompter$Script" "rows" "I", Cond.fieldLink RX0 9 "Teleprompter$Script" "letters" "[I"]
def wsX1_begin_r2 : List Cond := [Cond.fieldLink RX0 15 "Teleprompter$Script" "passageOf" "[I", Cond.fieldLink RX0 18 "Teleprompter$Script" "cues" "[I", Cond.fieldLink RX0 21 "Teleprompter$Script" "rowOf" "[I", Cond.fieldLink RX0 24 "Teleprompter$Script" "firstOfRow" "[I", Cond.static yX3_copyRow, Cond.initialized RX3, Cond.code yX3_copyRow cX3_copyRow 2 none, Cond.methodLink RX3 250 Lib.Math.min.name, Cond.static Lib.Math.min.name, Cond.initialized "java/lang/Math", Cond.code Lib.Math.min.name Lib.Math.min.code 2 (some .int), Cond.methodLink RX3 255 arraycopyName, Cond.native arraycopyName, Cond.static arraycopyName, Cond.initialized "java/lang/System", Cond.static yX3_at, Cond.code yX3_at cX3_at 2 (some .int), Cond.methodLink RX1 81 yX0_lay, Cond.instanceMethod yX0_lay, Cond.selects RX0 yX0_lay yX0_lay, Cond.code yX0_lay cX0_lay 4 none, Cond.static yX3_put, Cond.code yX3_put cX3_put 3 none, Cond.methodLink RX1 85 yX2_empty]
def wsX1_begin_r3 : List Cond := [Cond.instanceMethod yX2_empty, Cond.selects RX2 yX2_empty yX2_empty, Cond.initialized RX2, Cond.code yX2_empty cX2_empty 1 none, Cond.fieldLink RX2 18 "Teleprompter$Trail" "pairs" "I"]
def wsX1_begin : List Cond := .code yX1_begin cX1_begin 2 none :: ((wsX1_begin_r1 ++ (wsX1_begin_r2 ++ wsX1_begin_r3)) ++ wsX10 ++ wsX00 ++ wsX20)
def wsX1_highestTop : List Cond := .code yX1_highestTop cX1_highestTop 1 (some .int) :: ([.fieldLink RX1 18 "Teleprompter$State" "script" "LTeleprompter$Script;", .fieldLink RX1 177 "Teleprompter$Script" "rows" "I", .fieldLink RX1 9 "Teleprompter$State" "settings" "[I", .methodLink RX1 117 Lib.Math.max.name, .static Lib.Math.max.name, .initialized "java/lang/Math", .code Lib.Math.max.name Lib.Math.max.code 2 (some .int), .static yX3_at, .initialized RX3, .code yX3_at cX3_at 2 (some .int)] ++ wsX10 ++ wsX00)
def wsX3_limited : List Cond := .code yX3_limited cX3_limited 3 (some .int) :: ([.methodLink RX3 250 Lib.Math.min.name, .static Lib.Math.min.name, .initialized "java/lang/Math", .code Lib.Math.min.name Lib.Math.min.code 2 (some .int), .methodLink RX3 261 Lib.Math.max.name, .static Lib.Math.max.name, .code Lib.Math.max.name Lib.Math.max.code 2 (some .int)])
def wsX1_change_r1 : List Cond := [Cond.fieldLink RX1 9 "Teleprompter$State" "settings" "[I", Cond.fieldLink RX1 18 "Teleprompter$State" "script" "LTeleprompter$Script;", Cond.fieldLink RX1 59 "Teleprompter$State" "top" "I", Cond.static yX3_put, Cond.initialized RX3, Cond.code yX3_put cX3_put 3 none, Cond.static yX3_at, Cond.code yX3_at cX3_at 2 (some .int), Cond.methodLink RX1 81 yX0_lay, Cond.instanceMethod yX0_lay, Cond.selects RX0 yX0_lay yX0_lay, Cond.initialized RX0, Cond.code yX0_lay cX0_lay 4 none, Cond.fieldLink RX0 37 "Teleprompter$Script" "rows" "I", Cond.fieldLink RX0 27 "Teleprompter$Script" "words" "I", Cond.fieldLink RX0 15 "Teleprompter$Script" "passageOf" "[I", Cond.fieldLink RX0 24 "Teleprompter$Script" "firstOfRow" "[I", Cond.fieldLink RX0 21 "Teleprompter$Script" "rowOf" "[I", Cond.methodLink RX1 92 yX1_highestTop, Cond.instanceMethod yX1_highestTop, Cond.selects RX1 yX1_highestTop yX1_highestTop, Cond.initialized RX1, Cond.code yX1_highestTop cX1_highestTop 1 (some .int), Cond.fieldLink RX1 177 "Teleprompter$Script" "rows" "I"]
def wsX1_change_r2 : List Cond := [Cond.methodLink RX1 117 Lib.Math.max.name, Cond.static Lib.Math.max.name, Cond.initialized "java/lang/Math", Cond.code Lib.Math.max.name Lib.Math.max.code 2 (some .int), Cond.static yX3_limited, Cond.code yX3_limited cX3_limited 3 (some .int), Cond.methodLink RX3 250 Lib.Math.min.name, Cond.static Lib.Math.min.name, Cond.code Lib.Math.min.name Lib.Math.min.code 2 (some .int), Cond.methodLink RX3 261 Lib.Math.max.name]
def wsX1_change : List Cond := .code yX1_change cX1_change 3 none :: ((wsX1_change_r1 ++ wsX1_change_r2) ++ wsX10 ++ wsX00)
def wsX1_jump : List Cond := .code yX1_jump cX1_jump 2 none :: ([.fieldLink RX1 43 "Teleprompter$State" "keptCount" "I", .fieldLink RX1 25 "Teleprompter$State" "trail" "LTeleprompter$Trail;", .fieldLink RX1 53 "Teleprompter$State" "time" "I", .fieldLink RX1 56 "Teleprompter$State" "heardTime" "I", .fieldLink RX1 47 "Teleprompter$State" "position" "I", .fieldLink RX1 18 "Teleprompter$State" "script" "LTeleprompter$Script;", .methodLink RX1 85 yX2_empty, .instanceMethod yX2_empty, .selects RX2 yX2_empty yX2_empty, .initialized RX2, .code yX2_empty cX2_empty 1 none, .fieldLink RX2 18 "Teleprompter$Trail" "pairs" "I", .methodLink RX1 100 yX0_setCuesAround, .instanceMethod yX0_setCuesAround, .selects RX0 yX0_setCuesAround yX0_setCuesAround, .initialized RX0, .code yX0_setCuesAround cX0_setCuesAround 3 none, .fieldLink RX0 27 "Teleprompter$Script" "words" "I", .fieldLink RX0 18 "Teleprompter$Script" "cues" "[I", .static yX3_at, .initialized RX3, .code yX3_at cX3_at 2 (some .int), .static yX3_put, .code yX3_put cX3_put 3 none] ++ wsX10 ++ wsX20 ++ wsX00)
def wsX1_points : List Cond := .code yX1_points cX1_points 3 (some .int) :: ([.fieldLink RX1 43 "Teleprompter$State" "keptCount" "I", .fieldLink RX1 29 "Teleprompter$State" "kept" "[I", .fieldLink RX1 18 "Teleprompter$State" "script" "LTeleprompter$Script;", .fieldLink RX1 129 "Teleprompter$Script" "letters" "[I", .static yX3_at, .initialized RX3, .code yX3_at cX3_at 2 (some .int)] ++ wsX10 ++ wsX00)
def wsX1_isBetter : List Cond := .code yX1_isBetter cX1_isBetter 5 (some .boolean) :: ([.fieldLink RX1 47 "Teleprompter$State" "position" "I", .methodLink RX1 139 Lib.Math.abs.name, .static Lib.Math.abs.name, .initialized "java/lang/Math", .code Lib.Math.abs.name Lib.Math.abs.code 1 (some .int), .methodLink RX1 136 yX1_points, .instanceMethod yX1_points, .selects RX1 yX1_points yX1_points, .initialized RX1, .code yX1_points cX1_points 3 (some .int), .fieldLink RX1 43 "Teleprompter$State" "keptCount" "I", .fieldLink RX1 29 "Teleprompter$State" "kept" "[I", .fieldLink RX1 18 "Teleprompter$State" "script" "LTeleprompter$Script;", .fieldLink RX1 129 "Teleprompter$Script" "letters" "[I", .static yX3_at, .initialized RX3, .code yX3_at cX3_at 2 (some .int)] ++ wsX10 ++ wsX00)
def wsX1_bestCandidate_r1 : List Cond := [Cond.fieldLink RX1 47 "Teleprompter$State" "position" "I", Cond.fieldLink RX1 9 "Teleprompter$State" "settings" "[I", Cond.methodLink RX1 117 Lib.Math.max.name, Cond.static Lib.Math.max.name, Cond.initialized "java/lang/Math", Cond.code Lib.Math.max.name Lib.Math.max.code 2 (some .int), Cond.fieldLink RX1 18 "Teleprompter$State" "script" "LTeleprompter$Script;", Cond.fieldLink RX1 123 "Teleprompter$Script" "words" "I", Cond.methodLink RX1 126 Lib.Math.min.name, Cond.static Lib.Math.min.name, Cond.code Lib.Math.min.name Lib.Math.min.code 2 (some .int), Cond.fieldLink RX1 129 "Teleprompter$Script" "letters" "[I", Cond.static yX3_at, Cond.initialized RX3, Cond.code yX3_at cX3_at 2 (some .int), Cond.methodLink RX1 132 yX1_isBetter, Cond.instanceMethod yX1_isBetter, Cond.selects RX1 yX1_isBetter yX1_isBetter, Cond.initialized RX1, Cond.code yX1_isBetter cX1_isBetter 5 (some .boolean), Cond.methodLink RX1 139 Lib.Math.abs.name, Cond.static Lib.Math.abs.name, Cond.code Lib.Math.abs.name Lib.Math.abs.code 1 (some .int), Cond.methodLink RX1 136 yX1_points]
def wsX1_bestCandidate_r2 : List Cond := [Cond.instanceMethod yX1_points, Cond.selects RX1 yX1_points yX1_points, Cond.code yX1_points cX1_points 3 (some .int), Cond.fieldLink RX1 43 "Teleprompter$State" "keptCount" "I", Cond.fieldLink RX1 29 "Teleprompter$State" "kept" "[I"]
def wsX1_bestCandidate : List Cond := .code yX1_bestCandidate cX1_bestCandidate 6 (some .int) :: ((wsX1_bestCandidate_r1 ++ wsX1_bestCandidate_r2) ++ wsX10 ++ wsX00)
def wsX1_accepts : List Cond := .code yX1_accepts cX1_accepts 2 (some .boolean) :: ([.fieldLink RX1 47 "Teleprompter$State" "position" "I", .fieldLink RX1 9 "Teleprompter$State" "settings" "[I", .methodLink RX1 136 yX1_points, .instanceMethod yX1_points, .selects RX1 yX1_points yX1_points, .initialized RX1, .code yX1_points cX1_points 3 (some .int), .fieldLink RX1 43 "Teleprompter$State" "keptCount" "I", .fieldLink RX1 29 "Teleprompter$State" "kept" "[I", .fieldLink RX1 18 "Teleprompter$State" "script" "LTeleprompter$Script;", .fieldLink RX1 129 "Teleprompter$Script" "letters" "[I", .static yX3_at, .initialized RX3, .code yX3_at cX3_at 2 (some .int)] ++ wsX10 ++ wsX00)
def wsX2_add : List Cond := .code yX2_add cX2_add 7 none :: ([.fieldLink RX2 18 "Teleprompter$Trail" "pairs" "I", .fieldLink RX2 9 "Teleprompter$Trail" "times" "[I", .fieldLink RX2 15 "Teleprompter$Trail" "positions" "[I", .static yX3_at, .initialized RX3, .code yX3_at cX3_at 2 (some .int), .static yX3_put, .code yX3_put cX3_put 3 none] ++ wsX20)
def wsX2_speedOr : List Cond := .code yX2_speedOr cX2_speedOr 3 (some .int) :: ([.fieldLink RX2 9 "Teleprompter$Trail" "times" "[I", .fieldLink RX2 18 "Teleprompter$Trail" "pairs" "I", .fieldLink RX2 15 "Teleprompter$Trail" "positions" "[I", .static yX3_at, .initialized RX3, .code yX3_at cX3_at 2 (some .int)] ++ wsX20)
def wsX1_follow_r1 : List Cond := [Cond.fieldLink RX1 47 "Teleprompter$State" "position" "I", Cond.fieldLink RX1 62 "Teleprompter$State" "skips" "I", Cond.fieldLink RX1 25 "Teleprompter$State" "trail" "LTeleprompter$Trail;", Cond.fieldLink RX1 65 "Teleprompter$State" "repeats" "I", Cond.fieldLink RX1 53 "Teleprompter$State" "time" "I", Cond.fieldLink RX1 56 "Teleprompter$State" "heardTime" "I", Cond.fieldLink RX1 9 "Teleprompter$State" "settings" "[I", Cond.fieldLink RX1 50 "Teleprompter$State" "speed" "I", Cond.fieldLink RX1 74 "Teleprompter$State" "overruns" "I", Cond.fieldLink RX1 18 "Teleprompter$State" "script" "LTeleprompter$Script;", Cond.methodLink RX1 85 yX2_empty, Cond.instanceMethod yX2_empty, Cond.selects RX2 yX2_empty yX2_empty, Cond.initialized RX2, Cond.code yX2_empty cX2_empty 1 none, Cond.fieldLink RX2 18 "Teleprompter$Trail" "pairs" "I", Cond.static yX3_at, Cond.initialized RX3, Cond.code yX3_at cX3_at 2 (some .int), Cond.methodLink RX1 142 yX2_add, Cond.instanceMethod yX2_add, Cond.selects RX2 yX2_add yX2_add, Cond.code yX2_add cX2_add 7 none, Cond.fieldLink RX2 9 "Teleprompter$Trail" "times" "[I"]
def wsX1_follow_r2 : List Cond := [Cond.fieldLink RX2 15 "Teleprompter$Trail" "positions" "[I", Cond.static yX3_put, Cond.code yX3_put cX3_put 3 none, Cond.methodLink RX1 146 yX2_speedOr, Cond.instanceMethod yX2_speedOr, Cond.selects RX2 yX2_speedOr yX2_speedOr, Cond.code yX2_speedOr cX2_speedOr 3 (some .int), Cond.methodLink RX1 149 yX0_passWaitingBefore, Cond.instanceMethod yX0_passWaitingBefore, Cond.selects RX0 yX0_passWaitingBefore yX0_passWaitingBefore, Cond.initialized RX0, Cond.code yX0_passWaitingBefore cX0_passWaitingBefore 4 (some .int), Cond.fieldLink RX0 27 "Teleprompter$Script" "words" "I", Cond.fieldLink RX0 18 "Teleprompter$Script" "cues" "[I"]
def wsX1_follow : List Cond := .code yX1_follow cX1_follow 2 none :: ((wsX1_follow_r1 ++ wsX1_follow_r2) ++ wsX10 ++ wsX20 ++ wsX00)
def wsX1_keepHeard : List Cond := .code yX1_keepHeard cX1_keepHeard 3 none :: ([.fieldLink RX1 29 "Teleprompter$State" "kept" "[I", .fieldLink RX1 43 "Teleprompter$State" "keptCount" "I", .methodLink RX1 126 Lib.Math.min.name, .static Lib.Math.min.name, .initialized "java/lang/Math", .code Lib.Math.min.name Lib.Math.min.code 2 (some .int), .static yX3_at, .initialized RX3, .code yX3_at cX3_at 2 (some .int), .static yX3_put, .code yX3_put cX3_put 3 none] ++ wsX10)
def wsX1_listen_r1 : List Cond := [Cond.fieldLink RX1 68 "Teleprompter$State" "misses" "I", Cond.methodLink RX1 103 yX1_bestCandidate, Cond.instanceMethod yX1_bestCandidate, Cond.selects RX1 yX1_bestCandidate yX1_bestCandidate, Cond.initialized RX1, Cond.code yX1_bestCandidate cX1_bestCandidate 6 (some .int), Cond.fieldLink RX1 47 "Teleprompter$State" "position" "I", Cond.fieldLink RX1 9 "Teleprompter$State" "settings" "[I", Cond.methodLink RX1 117 Lib.Math.max.name, Cond.static Lib.Math.max.name, Cond.initialized "java/lang/Math", Cond.code Lib.Math.max.name Lib.Math.max.code 2 (some .int), Cond.fieldLink RX1 18 "Teleprompter$State" "script" "LTeleprompter$Script;", Cond.fieldLink RX1 123 "Teleprompter$Script" "words" "I", Cond.methodLink RX1 126 Lib.Math.min.name, Cond.static Lib.Math.min.name, Cond.code Lib.Math.min.name Lib.Math.min.code 2 (some .int), Cond.fieldLink RX1 129 "Teleprompter$Script" "letters" "[I", Cond.static yX3_at, Cond.initialized RX3, Cond.code yX3_at cX3_at 2 (some .int), Cond.methodLink RX1 132 yX1_isBetter, Cond.instanceMethod yX1_isBetter, Cond.selects RX1 yX1_isBetter yX1_isBetter]
def wsX1_listen_r2 : List Cond := [Cond.code yX1_isBetter cX1_isBetter 5 (some .boolean), Cond.methodLink RX1 139 Lib.Math.abs.name, Cond.static Lib.Math.abs.name, Cond.code Lib.Math.abs.name Lib.Math.abs.code 1 (some .int), Cond.methodLink RX1 136 yX1_points, Cond.instanceMethod yX1_points, Cond.selects RX1 yX1_points yX1_points, Cond.code yX1_points cX1_points 3 (some .int), Cond.fieldLink RX1 43 "Teleprompter$State" "keptCount" "I", Cond.fieldLink RX1 29 "Teleprompter$State" "kept" "[I", Cond.methodLink RX1 107 yX1_accepts, Cond.instanceMethod yX1_accepts, Cond.selects RX1 yX1_accepts yX1_accepts, Cond.code yX1_accepts cX1_accepts 2 (some .boolean), Cond.methodLink RX1 111 yX1_follow, Cond.instanceMethod yX1_follow, Cond.selects RX1 yX1_follow yX1_follow, Cond.code yX1_follow cX1_follow 2 none, Cond.fieldLink RX1 62 "Teleprompter$State" "skips" "I", Cond.fieldLink RX1 25 "Teleprompter$State" "trail" "LTeleprompter$Trail;", Cond.fieldLink RX1 65 "Teleprompter$State" "repeats" "I", Cond.fieldLink RX1 53 "Teleprompter$State" "time" "I", Cond.fieldLink RX1 56 "Teleprompter$State" "heardTime" "I", Cond.fieldLink RX1 50 "Teleprompter$State" "speed" "I"]
def wsX1_listen_r3 : List Cond := [Cond.fieldLink RX1 74 "Teleprompter$State" "overruns" "I", Cond.methodLink RX1 85 yX2_empty, Cond.instanceMethod yX2_empty, Cond.selects RX2 yX2_empty yX2_empty, Cond.initialized RX2, Cond.code yX2_empty cX2_empty 1 none, Cond.fieldLink RX2 18 "Teleprompter$Trail" "pairs" "I", Cond.methodLink RX1 142 yX2_add, Cond.instanceMethod yX2_add, Cond.selects RX2 yX2_add yX2_add, Cond.code yX2_add cX2_add 7 none, Cond.fieldLink RX2 9 "Teleprompter$Trail" "times" "[I", Cond.fieldLink RX2 15 "Teleprompter$Trail" "positions" "[I", Cond.static yX3_put, Cond.code yX3_put cX3_put 3 none, Cond.methodLink RX1 146 yX2_speedOr, Cond.instanceMethod yX2_speedOr, Cond.selects RX2 yX2_speedOr yX2_speedOr, Cond.code yX2_speedOr cX2_speedOr 3 (some .int), Cond.methodLink RX1 149 yX0_passWaitingBefore, Cond.instanceMethod yX0_passWaitingBefore, Cond.selects RX0 yX0_passWaitingBefore yX0_passWaitingBefore, Cond.initialized RX0, Cond.code yX0_passWaitingBefore cX0_passWaitingBefore 4 (some .int)]
def wsX1_listen_r4 : List Cond := [Cond.fieldLink RX0 27 "Teleprompter$Script" "words" "I", Cond.fieldLink RX0 18 "Teleprompter$Script" "cues" "[I", Cond.methodLink RX1 114 yX1_keepHeard, Cond.instanceMethod yX1_keepHeard, Cond.selects RX1 yX1_keepHeard yX1_keepHeard, Cond.code yX1_keepHeard cX1_keepHeard 3 none]
def wsX1_listen : List Cond := .code yX1_listen cX1_listen 4 (some .boolean) :: ((wsX1_listen_r1 ++ (wsX1_listen_r2 ++ (wsX1_listen_r3 ++ wsX1_listen_r4))) ++ wsX10 ++ wsX00 ++ wsX20)
def wsX1_holdingWord : List Cond := .code yX1_holdingWord cX1_holdingWord 2 (some .int) :: ([.fieldLink RX1 18 "Teleprompter$State" "script" "LTeleprompter$Script;", .fieldLink RX1 123 "Teleprompter$Script" "words" "I", .methodLink RX1 158 yX0_nextCue, .instanceMethod yX0_nextCue, .selects RX0 yX0_nextCue yX0_nextCue, .initialized RX0, .code yX0_nextCue cX0_nextCue 2 (some .int), .fieldLink RX0 27 "Teleprompter$Script" "words" "I", .fieldLink RX0 18 "Teleprompter$Script" "cues" "[I", .static yX3_at, .initialized RX3, .code yX3_at cX3_at 2 (some .int)] ++ wsX10 ++ wsX00)
def wsX1_estimate : List Cond := .code yX1_estimate cX1_estimate 7 (some .int) :: ([.fieldLink RX1 53 "Teleprompter$State" "time" "I", .fieldLink RX1 56 "Teleprompter$State" "heardTime" "I", .fieldLink RX1 9 "Teleprompter$State" "settings" "[I", .constantLong RX1 170 (100), .fieldLink RX1 47 "Teleprompter$State" "position" "I", .fieldLink RX1 50 "Teleprompter$State" "speed" "I", .methodLink RX1 172 Lib.MathLoose.min_long.x, .static Lib.MathLoose.min_long.x, .initialized "java/lang/Math", .code Lib.MathLoose.min_long.x Lib.MathLoose.min_long.code 4 (some .long), .methodLink RX1 175 Lib.MathLoose.max_long.x, .static Lib.MathLoose.max_long.x, .code Lib.MathLoose.max_long.x Lib.MathLoose.max_long.code 4 (some .long), .static yX3_at, .initialized RX3, .code yX3_at cX3_at 2 (some .int)] ++ wsX10)
def wsX1_desiredTop : List Cond := .code yX1_desiredTop cX1_desiredTop 3 (some .int) :: ([.fieldLink RX1 9 "Teleprompter$State" "settings" "[I", .methodLink RX1 126 Lib.Math.min.name, .static Lib.Math.min.name, .initialized "java/lang/Math", .code Lib.Math.min.name Lib.Math.min.code 2 (some .int), .fieldLink RX1 18 "Teleprompter$State" "script" "LTeleprompter$Script;", .fieldLink RX1 180 "Teleprompter$Script" "rowOf" "[I", .static yX3_at, .initialized RX3, .code yX3_at cX3_at 2 (some .int), .methodLink RX1 92 yX1_highestTop, .instanceMethod yX1_highestTop, .selects RX1 yX1_highestTop yX1_highestTop, .initialized RX1, .code yX1_highestTop cX1_highestTop 1 (some .int), .fieldLink RX1 177 "Teleprompter$Script" "rows" "I", .methodLink RX1 117 Lib.Math.max.name, .static Lib.Math.max.name, .code Lib.Math.max.name Lib.Math.max.code 2 (some .int), .static yX3_limited, .code yX3_limited cX3_limited 3 (some .int), .methodLink RX3 250 Lib.Math.min.name, .methodLink RX3 261 Lib.Math.max.name] ++ wsX10 ++ wsX00)
def wsX1_lowestShown : List Cond := .code yX1_lowestShown cX1_lowestShown 1 (some .int) :: ([.fieldLink RX1 9 "Teleprompter$State" "settings" "[I", .static yX3_at, .initialized RX3, .code yX3_at cX3_at 2 (some .int)] ++ wsX10)
def wsX1_shows : List Cond := .code yX1_shows cX1_shows 2 (some .boolean) :: ([.fieldLink RX1 59 "Teleprompter$State" "top" "I", .methodLink RX1 183 yX1_lowestShown, .instanceMethod yX1_lowestShown, .selects RX1 yX1_lowestShown yX1_lowestShown, .initialized RX1, .code yX1_lowestShown cX1_lowestShown 1 (some .int), .fieldLink RX1 9 "Teleprompter$State" "settings" "[I", .static yX3_at, .initialized RX3, .code yX3_at cX3_at 2 (some .int)] ++ wsX10)
def wsX1_scrollTo_r1 : List Cond := [Cond.fieldLink RX1 9 "Teleprompter$State" "settings" "[I", Cond.fieldLink RX1 59 "Teleprompter$State" "top" "I", Cond.fieldLink RX1 18 "Teleprompter$State" "script" "LTeleprompter$Script;", Cond.fieldLink RX1 180 "Teleprompter$Script" "rowOf" "[I", Cond.fieldLink RX1 71 "Teleprompter$State" "jerks" "I", Cond.static yX3_at, Cond.initialized RX3, Cond.code yX3_at cX3_at 2 (some .int), Cond.methodLink RX1 189 yX1_desiredTop, Cond.instanceMethod yX1_desiredTop, Cond.selects RX1 yX1_desiredTop yX1_desiredTop, Cond.initialized RX1, Cond.code yX1_desiredTop cX1_desiredTop 3 (some .int), Cond.methodLink RX1 126 Lib.Math.min.name, Cond.static Lib.Math.min.name, Cond.initialized "java/lang/Math", Cond.code Lib.Math.min.name Lib.Math.min.code 2 (some .int), Cond.methodLink RX1 92 yX1_highestTop, Cond.instanceMethod yX1_highestTop, Cond.selects RX1 yX1_highestTop yX1_highestTop, Cond.code yX1_highestTop cX1_highestTop 1 (some .int), Cond.fieldLink RX1 177 "Teleprompter$Script" "rows" "I", Cond.methodLink RX1 117 Lib.Math.max.name, Cond.static Lib.Math.max.name]
def wsX1_scrollTo_r2 : List Cond := [Cond.code Lib.Math.max.name Lib.Math.max.code 2 (some .int), Cond.static yX3_limited, Cond.code yX3_limited cX3_limited 3 (some .int), Cond.methodLink RX3 250 Lib.Math.min.name, Cond.methodLink RX3 261 Lib.Math.max.name, Cond.methodLink RX1 192 yX1_shows, Cond.instanceMethod yX1_shows, Cond.selects RX1 yX1_shows yX1_shows, Cond.code yX1_shows cX1_shows 2 (some .boolean), Cond.methodLink RX1 183 yX1_lowestShown, Cond.instanceMethod yX1_lowestShown, Cond.selects RX1 yX1_lowestShown yX1_lowestShown, Cond.code yX1_lowestShown cX1_lowestShown 1 (some .int)]
def wsX1_scrollTo : List Cond := .code yX1_scrollTo cX1_scrollTo 4 none :: ((wsX1_scrollTo_r1 ++ wsX1_scrollTo_r2) ++ wsX10 ++ wsX00)
def wsX1_passTime_r1 : List Cond := [Cond.fieldLink RX1 71 "Teleprompter$State" "jerks" "I", Cond.fieldLink RX1 53 "Teleprompter$State" "time" "I", Cond.methodLink RX1 164 yX1_holdingWord, Cond.instanceMethod yX1_holdingWord, Cond.selects RX1 yX1_holdingWord yX1_holdingWord, Cond.initialized RX1, Cond.code yX1_holdingWord cX1_holdingWord 2 (some .int), Cond.fieldLink RX1 18 "Teleprompter$State" "script" "LTeleprompter$Script;", Cond.fieldLink RX1 123 "Teleprompter$Script" "words" "I", Cond.methodLink RX1 158 yX0_nextCue, Cond.instanceMethod yX0_nextCue, Cond.selects RX0 yX0_nextCue yX0_nextCue, Cond.initialized RX0, Cond.code yX0_nextCue cX0_nextCue 2 (some .int), Cond.fieldLink RX0 27 "Teleprompter$Script" "words" "I", Cond.fieldLink RX0 18 "Teleprompter$Script" "cues" "[I", Cond.static yX3_at, Cond.initialized RX3, Cond.code yX3_at cX3_at 2 (some .int), Cond.methodLink RX1 167 yX1_estimate, Cond.instanceMethod yX1_estimate, Cond.selects RX1 yX1_estimate yX1_estimate, Cond.code yX1_estimate cX1_estimate 7 (some .int), Cond.fieldLink RX1 56 "Teleprompter$State" "heardTime" "I"]
def wsX1_passTime_r2 : List Cond := [Cond.fieldLink RX1 9 "Teleprompter$State" "settings" "[I", Cond.constantLong RX1 170 (100), Cond.fieldLink RX1 47 "Teleprompter$State" "position" "I", Cond.fieldLink RX1 50 "Teleprompter$State" "speed" "I", Cond.methodLink RX1 172 Lib.MathLoose.min_long.x, Cond.static Lib.MathLoose.min_long.x, Cond.initialized "java/lang/Math", Cond.code Lib.MathLoose.min_long.x Lib.MathLoose.min_long.code 4 (some .long), Cond.methodLink RX1 175 Lib.MathLoose.max_long.x, Cond.static Lib.MathLoose.max_long.x, Cond.code Lib.MathLoose.max_long.x Lib.MathLoose.max_long.code 4 (some .long), Cond.methodLink RX1 186 yX1_scrollTo, Cond.instanceMethod yX1_scrollTo, Cond.selects RX1 yX1_scrollTo yX1_scrollTo, Cond.code yX1_scrollTo cX1_scrollTo 4 none, Cond.fieldLink RX1 59 "Teleprompter$State" "top" "I", Cond.fieldLink RX1 180 "Teleprompter$Script" "rowOf" "[I", Cond.methodLink RX1 189 yX1_desiredTop, Cond.instanceMethod yX1_desiredTop, Cond.selects RX1 yX1_desiredTop yX1_desiredTop, Cond.code yX1_desiredTop cX1_desiredTop 3 (some .int), Cond.methodLink RX1 126 Lib.Math.min.name, Cond.static Lib.Math.min.name, Cond.code Lib.Math.min.name Lib.Math.min.code 2 (some .int)]
def wsX1_passTime_r3 : List Cond := [Cond.methodLink RX1 92 yX1_highestTop, Cond.instanceMethod yX1_highestTop, Cond.selects RX1 yX1_highestTop yX1_highestTop, Cond.code yX1_highestTop cX1_highestTop 1 (some .int), Cond.fieldLink RX1 177 "Teleprompter$Script" "rows" "I", Cond.methodLink RX1 117 Lib.Math.max.name, Cond.static Lib.Math.max.name, Cond.code Lib.Math.max.name Lib.Math.max.code 2 (some .int), Cond.static yX3_limited, Cond.code yX3_limited cX3_limited 3 (some .int), Cond.methodLink RX3 250 Lib.Math.min.name, Cond.methodLink RX3 261 Lib.Math.max.name, Cond.methodLink RX1 192 yX1_shows, Cond.instanceMethod yX1_shows, Cond.selects RX1 yX1_shows yX1_shows, Cond.code yX1_shows cX1_shows 2 (some .boolean), Cond.methodLink RX1 183 yX1_lowestShown, Cond.instanceMethod yX1_lowestShown, Cond.selects RX1 yX1_lowestShown yX1_lowestShown, Cond.code yX1_lowestShown cX1_lowestShown 1 (some .int)]
def wsX1_passTime : List Cond := .code yX1_passTime cX1_passTime 5 (some .int) :: ((wsX1_passTime_r1 ++ (wsX1_passTime_r2 ++ wsX1_passTime_r3)) ++ wsX10 ++ wsX00)
def wsX1_readToEnd_r1 : List Cond := [Cond.fieldLink RX1 47 "Teleprompter$State" "position" "I", Cond.fieldLink RX1 18 "Teleprompter$State" "script" "LTeleprompter$Script;", Cond.fieldLink RX1 123 "Teleprompter$Script" "words" "I", Cond.fieldLink RX1 129 "Teleprompter$Script" "letters" "[I", Cond.methodLink RX1 152 yX1_passTime, Cond.instanceMethod yX1_passTime, Cond.selects RX1 yX1_passTime yX1_passTime, Cond.initialized RX1, Cond.code yX1_passTime cX1_passTime 5 (some .int), Cond.fieldLink RX1 71 "Teleprompter$State" "jerks" "I", Cond.fieldLink RX1 53 "Teleprompter$State" "time" "I", Cond.methodLink RX1 164 yX1_holdingWord, Cond.instanceMethod yX1_holdingWord, Cond.selects RX1 yX1_holdingWord yX1_holdingWord, Cond.code yX1_holdingWord cX1_holdingWord 2 (some .int), Cond.methodLink RX1 158 yX0_nextCue, Cond.instanceMethod yX0_nextCue, Cond.selects RX0 yX0_nextCue yX0_nextCue, Cond.initialized RX0, Cond.code yX0_nextCue cX0_nextCue 2 (some .int), Cond.fieldLink RX0 27 "Teleprompter$Script" "words" "I", Cond.fieldLink RX0 18 "Teleprompter$Script" "cues" "[I", Cond.static yX3_at, Cond.initialized RX3]
def wsX1_readToEnd_r2 : List Cond := [Cond.code yX3_at cX3_at 2 (some .int), Cond.methodLink RX1 167 yX1_estimate, Cond.instanceMethod yX1_estimate, Cond.selects RX1 yX1_estimate yX1_estimate, Cond.code yX1_estimate cX1_estimate 7 (some .int), Cond.fieldLink RX1 56 "Teleprompter$State" "heardTime" "I", Cond.fieldLink RX1 9 "Teleprompter$State" "settings" "[I", Cond.constantLong RX1 170 (100), Cond.fieldLink RX1 50 "Teleprompter$State" "speed" "I", Cond.methodLink RX1 172 Lib.MathLoose.min_long.x, Cond.static Lib.MathLoose.min_long.x, Cond.initialized "java/lang/Math", Cond.code Lib.MathLoose.min_long.x Lib.MathLoose.min_long.code 4 (some .long), Cond.methodLink RX1 175 Lib.MathLoose.max_long.x, Cond.static Lib.MathLoose.max_long.x, Cond.code Lib.MathLoose.max_long.x Lib.MathLoose.max_long.code 4 (some .long), Cond.methodLink RX1 186 yX1_scrollTo, Cond.instanceMethod yX1_scrollTo, Cond.selects RX1 yX1_scrollTo yX1_scrollTo, Cond.code yX1_scrollTo cX1_scrollTo 4 none, Cond.fieldLink RX1 59 "Teleprompter$State" "top" "I", Cond.fieldLink RX1 180 "Teleprompter$Script" "rowOf" "[I", Cond.methodLink RX1 189 yX1_desiredTop, Cond.instanceMethod yX1_desiredTop]
def wsX1_readToEnd_r3 : List Cond := [Cond.selects RX1 yX1_desiredTop yX1_desiredTop, Cond.code yX1_desiredTop cX1_desiredTop 3 (some .int), Cond.methodLink RX1 126 Lib.Math.min.name, Cond.static Lib.Math.min.name, Cond.code Lib.Math.min.name Lib.Math.min.code 2 (some .int), Cond.methodLink RX1 92 yX1_highestTop, Cond.instanceMethod yX1_highestTop, Cond.selects RX1 yX1_highestTop yX1_highestTop, Cond.code yX1_highestTop cX1_highestTop 1 (some .int), Cond.fieldLink RX1 177 "Teleprompter$Script" "rows" "I", Cond.methodLink RX1 117 Lib.Math.max.name, Cond.static Lib.Math.max.name, Cond.code Lib.Math.max.name Lib.Math.max.code 2 (some .int), Cond.static yX3_limited, Cond.code yX3_limited cX3_limited 3 (some .int), Cond.methodLink RX3 250 Lib.Math.min.name, Cond.methodLink RX3 261 Lib.Math.max.name, Cond.methodLink RX1 192 yX1_shows, Cond.instanceMethod yX1_shows, Cond.selects RX1 yX1_shows yX1_shows, Cond.code yX1_shows cX1_shows 2 (some .boolean), Cond.methodLink RX1 183 yX1_lowestShown, Cond.instanceMethod yX1_lowestShown, Cond.selects RX1 yX1_lowestShown yX1_lowestShown]
def wsX1_readToEnd_r4 : List Cond := [Cond.code yX1_lowestShown cX1_lowestShown 1 (some .int), Cond.methodLink RX1 155 yX1_listen, Cond.instanceMethod yX1_listen, Cond.selects RX1 yX1_listen yX1_listen, Cond.code yX1_listen cX1_listen 4 (some .boolean), Cond.fieldLink RX1 68 "Teleprompter$State" "misses" "I", Cond.methodLink RX1 103 yX1_bestCandidate, Cond.instanceMethod yX1_bestCandidate, Cond.selects RX1 yX1_bestCandidate yX1_bestCandidate, Cond.code yX1_bestCandidate cX1_bestCandidate 6 (some .int), Cond.methodLink RX1 132 yX1_isBetter, Cond.instanceMethod yX1_isBetter, Cond.selects RX1 yX1_isBetter yX1_isBetter, Cond.code yX1_isBetter cX1_isBetter 5 (some .boolean), Cond.methodLink RX1 139 Lib.Math.abs.name, Cond.static Lib.Math.abs.name, Cond.code Lib.Math.abs.name Lib.Math.abs.code 1 (some .int), Cond.methodLink RX1 136 yX1_points, Cond.instanceMethod yX1_points, Cond.selects RX1 yX1_points yX1_points, Cond.code yX1_points cX1_points 3 (some .int), Cond.fieldLink RX1 43 "Teleprompter$State" "keptCount" "I", Cond.fieldLink RX1 29 "Teleprompter$State" "kept" "[I", Cond.methodLink RX1 107 yX1_accepts]
def wsX1_readToEnd_r5 : List Cond := [Cond.instanceMethod yX1_accepts, Cond.selects RX1 yX1_accepts yX1_accepts, Cond.code yX1_accepts cX1_accepts 2 (some .boolean), Cond.methodLink RX1 111 yX1_follow, Cond.instanceMethod yX1_follow, Cond.selects RX1 yX1_follow yX1_follow, Cond.code yX1_follow cX1_follow 2 none, Cond.fieldLink RX1 62 "Teleprompter$State" "skips" "I", Cond.fieldLink RX1 25 "Teleprompter$State" "trail" "LTeleprompter$Trail;", Cond.fieldLink RX1 65 "Teleprompter$State" "repeats" "I", Cond.fieldLink RX1 74 "Teleprompter$State" "overruns" "I", Cond.methodLink RX1 85 yX2_empty, Cond.instanceMethod yX2_empty, Cond.selects RX2 yX2_empty yX2_empty, Cond.initialized RX2, Cond.code yX2_empty cX2_empty 1 none, Cond.fieldLink RX2 18 "Teleprompter$Trail" "pairs" "I", Cond.methodLink RX1 142 yX2_add, Cond.instanceMethod yX2_add, Cond.selects RX2 yX2_add yX2_add, Cond.code yX2_add cX2_add 7 none, Cond.fieldLink RX2 9 "Teleprompter$Trail" "times" "[I", Cond.fieldLink RX2 15 "Teleprompter$Trail" "positions" "[I", Cond.static yX3_put]
def wsX1_readToEnd_r6 : List Cond := [Cond.code yX3_put cX3_put 3 none, Cond.methodLink RX1 146 yX2_speedOr, Cond.instanceMethod yX2_speedOr, Cond.selects RX2 yX2_speedOr yX2_speedOr, Cond.code yX2_speedOr cX2_speedOr 3 (some .int), Cond.methodLink RX1 149 yX0_passWaitingBefore, Cond.instanceMethod yX0_passWaitingBefore, Cond.selects RX0 yX0_passWaitingBefore yX0_passWaitingBefore, Cond.code yX0_passWaitingBefore cX0_passWaitingBefore 4 (some .int), Cond.methodLink RX1 114 yX1_keepHeard, Cond.instanceMethod yX1_keepHeard, Cond.selects RX1 yX1_keepHeard yX1_keepHeard, Cond.code yX1_keepHeard cX1_keepHeard 3 none, Cond.methodLink RX1 161 yX0_freeCue, Cond.instanceMethod yX0_freeCue, Cond.selects RX0 yX0_freeCue yX0_freeCue, Cond.code yX0_freeCue cX0_freeCue 2 none]
def wsX1_readToEnd : List Cond := .code yX1_readToEnd cX1_readToEnd 4 none :: ((wsX1_readToEnd_r1 ++ (wsX1_readToEnd_r2 ++ (wsX1_readToEnd_r3 ++ (wsX1_readToEnd_r4 ++ (wsX1_readToEnd_r5 ++ wsX1_readToEnd_r6))))) ++ wsX10 ++ wsX00 ++ wsX20)
def wsX1_estimatedWord_r1 : List Cond := [Cond.methodLink RX1 164 yX1_holdingWord, Cond.instanceMethod yX1_holdingWord, Cond.selects RX1 yX1_holdingWord yX1_holdingWord, Cond.initialized RX1, Cond.code yX1_holdingWord cX1_holdingWord 2 (some .int), Cond.fieldLink RX1 18 "Teleprompter$State" "script" "LTeleprompter$Script;", Cond.fieldLink RX1 123 "Teleprompter$Script" "words" "I", Cond.methodLink RX1 158 yX0_nextCue, Cond.instanceMethod yX0_nextCue, Cond.selects RX0 yX0_nextCue yX0_nextCue, Cond.initialized RX0, Cond.code yX0_nextCue cX0_nextCue 2 (some .int), Cond.fieldLink RX0 27 "Teleprompter$Script" "words" "I", Cond.fieldLink RX0 18 "Teleprompter$Script" "cues" "[I", Cond.static yX3_at, Cond.initialized RX3, Cond.code yX3_at cX3_at 2 (some .int), Cond.methodLink RX1 167 yX1_estimate, Cond.instanceMethod yX1_estimate, Cond.selects RX1 yX1_estimate yX1_estimate, Cond.code yX1_estimate cX1_estimate 7 (some .int), Cond.fieldLink RX1 53 "Teleprompter$State" "time" "I", Cond.fieldLink RX1 56 "Teleprompter$State" "heardTime" "I", Cond.fieldLink RX1 9 "Teleprompter$State" "settings" "[I"]
def wsX1_estimatedWord_r2 : List Cond := [Cond.constantLong RX1 170 (100), Cond.fieldLink RX1 47 "Teleprompter$State" "position" "I", Cond.fieldLink RX1 50 "Teleprompter$State" "speed" "I", Cond.methodLink RX1 172 Lib.MathLoose.min_long.x, Cond.static Lib.MathLoose.min_long.x, Cond.initialized "java/lang/Math", Cond.code Lib.MathLoose.min_long.x Lib.MathLoose.min_long.code 4 (some .long), Cond.methodLink RX1 175 Lib.MathLoose.max_long.x, Cond.static Lib.MathLoose.max_long.x, Cond.code Lib.MathLoose.max_long.x Lib.MathLoose.max_long.code 4 (some .long)]
def wsX1_estimatedWord : List Cond := .code yX1_estimatedWord cX1_estimatedWord 1 (some .int) :: ((wsX1_estimatedWord_r1 ++ wsX1_estimatedWord_r2) ++ wsX10 ++ wsX00)
def wsX1_ticksTo_r1 : List Cond := [Cond.methodLink RX1 164 yX1_holdingWord, Cond.instanceMethod yX1_holdingWord, Cond.selects RX1 yX1_holdingWord yX1_holdingWord, Cond.initialized RX1, Cond.code yX1_holdingWord cX1_holdingWord 2 (some .int), Cond.fieldLink RX1 18 "Teleprompter$State" "script" "LTeleprompter$Script;", Cond.fieldLink RX1 123 "Teleprompter$Script" "words" "I", Cond.methodLink RX1 158 yX0_nextCue, Cond.instanceMethod yX0_nextCue, Cond.selects RX0 yX0_nextCue yX0_nextCue, Cond.initialized RX0, Cond.code yX0_nextCue cX0_nextCue 2 (some .int), Cond.fieldLink RX0 27 "Teleprompter$Script" "words" "I", Cond.fieldLink RX0 18 "Teleprompter$Script" "cues" "[I", Cond.static yX3_at, Cond.initialized RX3, Cond.code yX3_at cX3_at 2 (some .int), Cond.methodLink RX1 167 yX1_estimate, Cond.instanceMethod yX1_estimate, Cond.selects RX1 yX1_estimate yX1_estimate, Cond.code yX1_estimate cX1_estimate 7 (some .int), Cond.fieldLink RX1 53 "Teleprompter$State" "time" "I", Cond.fieldLink RX1 56 "Teleprompter$State" "heardTime" "I", Cond.fieldLink RX1 9 "Teleprompter$State" "settings" "[I"]
def wsX1_ticksTo_r2 : List Cond := [Cond.constantLong RX1 170 (100), Cond.fieldLink RX1 47 "Teleprompter$State" "position" "I", Cond.fieldLink RX1 50 "Teleprompter$State" "speed" "I", Cond.methodLink RX1 172 Lib.MathLoose.min_long.x, Cond.static Lib.MathLoose.min_long.x, Cond.initialized "java/lang/Math", Cond.code Lib.MathLoose.min_long.x Lib.MathLoose.min_long.code 4 (some .long), Cond.methodLink RX1 175 Lib.MathLoose.max_long.x, Cond.static Lib.MathLoose.max_long.x, Cond.code Lib.MathLoose.max_long.x Lib.MathLoose.max_long.code 4 (some .long)]
def wsX1_ticksTo : List Cond := .code yX1_ticksTo cX1_ticksTo 4 (some .int) :: ((wsX1_ticksTo_r1 ++ wsX1_ticksTo_r2) ++ wsX10 ++ wsX00)
def wsX3_init_r1 : List Cond := [Cond.methodLink RX3 1 objectInit, Cond.instanceMethod objectInit, Cond.code objectInit ⟨#[0xb1]⟩ 1 none, Cond.arrayClass .int, Cond.fieldLink RX3 9 "Teleprompter" "text" "[I", Cond.classLink RX3 13 RX0, Cond.instantiable RX0 9, Cond.initialized RX0, Cond.fieldLink RX3 16 "Teleprompter" "draft" "LTeleprompter$Script;", Cond.classLink RX3 20 RX1, Cond.instantiable RX1 15, Cond.initialized RX1, Cond.fieldLink RX3 23 "Teleprompter" "now" "LTeleprompter$State;", Cond.fieldLink RX3 27 "Teleprompter" "copy" "LTeleprompter$State;", Cond.fieldLink RX3 30 "Teleprompter" "history" "[LTeleprompter$State;", Cond.fieldLink RX3 34 "Teleprompter" "images" "[LTeleprompter$State;", Cond.arrayClass .boolean, Cond.fieldLink RX3 37 "Teleprompter" "imageKept" "[Z", Cond.fieldLink RX3 41 "Teleprompter" "FIRST" "[I", Cond.fieldLink RX3 44 "Teleprompter$State" "settings" "[I", Cond.instanceMethod yX0_init, Cond.code yX0_init cX0_init 1 none, Cond.methodLink RX0 3 objectInit, Cond.fieldLink RX0 9 "Teleprompter$Script" "letters" "[I"]
def wsX3_init_r2 : List Cond := [Cond.fieldLink RX0 15 "Teleprompter$Script" "passageOf" "[I", Cond.fieldLink RX0 18 "Teleprompter$Script" "cues" "[I", Cond.fieldLink RX0 21 "Teleprompter$Script" "rowOf" "[I", Cond.fieldLink RX0 24 "Teleprompter$Script" "firstOfRow" "[I", Cond.instanceMethod yX1_init, Cond.code yX1_init cX1_init 1 none, Cond.methodLink RX1 3 objectInit, Cond.fieldLink RX1 9 "Teleprompter$State" "settings" "[I", Cond.classLink RX1 15 RX0, Cond.fieldLink RX1 18 "Teleprompter$State" "script" "LTeleprompter$Script;", Cond.classLink RX1 22 RX2, Cond.instantiable RX2 3, Cond.initialized RX2, Cond.fieldLink RX1 25 "Teleprompter$State" "trail" "LTeleprompter$Trail;", Cond.fieldLink RX1 29 "Teleprompter$State" "kept" "[I", Cond.instanceMethod yX2_init, Cond.code yX2_init cX2_init 1 none, Cond.methodLink RX2 3 objectInit, Cond.fieldLink RX2 9 "Teleprompter$Trail" "times" "[I", Cond.fieldLink RX2 15 "Teleprompter$Trail" "positions" "[I", Cond.methodLink RX3 47 yX3_copyRow, Cond.static yX3_copyRow, Cond.initialized RX3, Cond.code yX3_copyRow cX3_copyRow 2 none]
def wsX3_init_r3 : List Cond := [Cond.methodLink RX3 250 Lib.Math.min.name, Cond.static Lib.Math.min.name, Cond.initialized "java/lang/Math", Cond.code Lib.Math.min.name Lib.Math.min.code 2 (some .int), Cond.methodLink RX3 255 arraycopyName, Cond.native arraycopyName, Cond.static arraycopyName, Cond.initialized "java/lang/System", Cond.methodLink RX3 51 yX0_empty, Cond.instanceMethod yX0_empty, Cond.selects RX0 yX0_empty yX0_empty, Cond.code yX0_empty cX0_empty 1 none, Cond.fieldLink RX0 27 "Teleprompter$Script" "words" "I", Cond.fieldLink RX0 31 "Teleprompter$Script" "passages" "I", Cond.fieldLink RX0 34 "Teleprompter$Script" "wordsInPassage" "I", Cond.methodLink RX3 54 yX0_read, Cond.instanceMethod yX0_read, Cond.selects RX0 yX0_read yX0_read, Cond.code yX0_read cX0_read 3 (some .int), Cond.static yX3_isLetter, Cond.code yX3_isLetter cX3_isLetter 1 (some .boolean), Cond.methodLink RX0 48 yX0_append, Cond.instanceMethod yX0_append, Cond.selects RX0 yX0_append yX0_append]
def wsX3_init_r4 : List Cond := [Cond.code yX0_append cX0_append 2 (some .int), Cond.static yX3_put, Cond.code yX3_put cX3_put 3 none, Cond.methodLink RX0 52 yX0_setCue, Cond.instanceMethod yX0_setCue, Cond.selects RX0 yX0_setCue yX0_setCue, Cond.code yX0_setCue cX0_setCue 1 (some .int), Cond.methodLink RX0 56 yX0_endPassage, Cond.instanceMethod yX0_endPassage, Cond.selects RX0 yX0_endPassage yX0_endPassage, Cond.code yX0_endPassage cX0_endPassage 1 (some .int), Cond.methodLink RX3 58 yX1_begin, Cond.instanceMethod yX1_begin, Cond.selects RX1 yX1_begin yX1_begin, Cond.code yX1_begin cX1_begin 2 none, Cond.fieldLink RX1 43 "Teleprompter$State" "keptCount" "I", Cond.fieldLink RX1 47 "Teleprompter$State" "position" "I", Cond.fieldLink RX1 50 "Teleprompter$State" "speed" "I", Cond.fieldLink RX1 53 "Teleprompter$State" "time" "I", Cond.fieldLink RX1 56 "Teleprompter$State" "heardTime" "I", Cond.fieldLink RX1 59 "Teleprompter$State" "top" "I", Cond.fieldLink RX1 62 "Teleprompter$State" "skips" "I", Cond.fieldLink RX1 65 "Teleprompter$State" "repeats" "I", Cond.fieldLink RX1 68 "Teleprompter$State" "misses" "I"]
def wsX3_init_r5 : List Cond := [Cond.fieldLink RX1 71 "Teleprompter$State" "jerks" "I", Cond.fieldLink RX1 74 "Teleprompter$State" "overruns" "I", Cond.methodLink RX1 36 yX0_become, Cond.instanceMethod yX0_become, Cond.selects RX0 yX0_become yX0_become, Cond.code yX0_become cX0_become 2 none, Cond.fieldLink RX0 37 "Teleprompter$Script" "rows" "I", Cond.static yX3_at, Cond.code yX3_at cX3_at 2 (some .int), Cond.methodLink RX1 81 yX0_lay, Cond.instanceMethod yX0_lay, Cond.selects RX0 yX0_lay yX0_lay, Cond.code yX0_lay cX0_lay 4 none, Cond.methodLink RX1 85 yX2_empty, Cond.instanceMethod yX2_empty, Cond.selects RX2 yX2_empty yX2_empty, Cond.code yX2_empty cX2_empty 1 none, Cond.fieldLink RX2 18 "Teleprompter$Trail" "pairs" "I"]
def wsX3_init : List Cond := .code yX3_init cX3_init 2 none :: ((wsX3_init_r1 ++ (wsX3_init_r2 ++ (wsX3_init_r3 ++ (wsX3_init_r4 ++ wsX3_init_r5)))) ++ wsX30 ++ wsX00 ++ wsX10 ++ wsX20)
def wsX3_readText_r1 : List Cond := [Cond.fieldLink RX3 16 "Teleprompter" "draft" "LTeleprompter$Script;", Cond.fieldLink RX3 132 "Teleprompter" "textLength" "I", Cond.fieldLink RX3 9 "Teleprompter" "text" "[I", Cond.fieldLink RX3 139 "Teleprompter" "faultKind" "I", Cond.fieldLink RX3 142 "Teleprompter" "faultPlace" "I", Cond.fieldLink RX3 244 "Teleprompter$Script" "wordsInPassage" "I", Cond.methodLink RX3 51 yX0_empty, Cond.instanceMethod yX0_empty, Cond.selects RX0 yX0_empty yX0_empty, Cond.initialized RX0, Cond.code yX0_empty cX0_empty 1 none, Cond.fieldLink RX0 27 "Teleprompter$Script" "words" "I", Cond.fieldLink RX0 31 "Teleprompter$Script" "passages" "I", Cond.fieldLink RX0 34 "Teleprompter$Script" "wordsInPassage" "I", Cond.methodLink RX3 83 yX3_at, Cond.static yX3_at, Cond.initialized RX3, Cond.code yX3_at cX3_at 2 (some .int), Cond.methodLink RX3 54 yX0_read, Cond.instanceMethod yX0_read, Cond.selects RX0 yX0_read yX0_read, Cond.code yX0_read cX0_read 3 (some .int), Cond.static yX3_isLetter, Cond.code yX3_isLetter cX3_isLetter 1 (some .boolean)]
def wsX3_readText_r2 : List Cond := [Cond.methodLink RX0 48 yX0_append, Cond.instanceMethod yX0_append, Cond.selects RX0 yX0_append yX0_append, Cond.code yX0_append cX0_append 2 (some .int), Cond.fieldLink RX0 9 "Teleprompter$Script" "letters" "[I", Cond.fieldLink RX0 15 "Teleprompter$Script" "passageOf" "[I", Cond.fieldLink RX0 18 "Teleprompter$Script" "cues" "[I", Cond.static yX3_put, Cond.code yX3_put cX3_put 3 none, Cond.methodLink RX0 52 yX0_setCue, Cond.instanceMethod yX0_setCue, Cond.selects RX0 yX0_setCue yX0_setCue, Cond.code yX0_setCue cX0_setCue 1 (some .int), Cond.methodLink RX0 56 yX0_endPassage, Cond.instanceMethod yX0_endPassage, Cond.selects RX0 yX0_endPassage yX0_endPassage, Cond.code yX0_endPassage cX0_endPassage 1 (some .int)]
def wsX3_readText : List Cond := .code yX3_readText cX3_readText 3 (some .boolean) :: ((wsX3_readText_r1 ++ wsX3_readText_r2) ++ wsX30 ++ wsX00)
def wsX3_stateAt : List Cond := .code yX3_stateAt cX3_stateAt 3 (some (.object "Teleprompter$State")) :: ([.fieldLink RX3 27 "Teleprompter" "copy" "LTeleprompter$State;"] ++ wsX30)
def wsX3_dropOldest : List Cond := .code yX3_dropOldest cX3_dropOldest 3 none :: ([.fieldLink RX3 30 "Teleprompter" "history" "[LTeleprompter$State;", .fieldLink RX3 121 "Teleprompter" "undoable" "I", .methodLink RX3 124 yX3_stateAt, .instanceMethod yX3_stateAt, .selects RX3 yX3_stateAt yX3_stateAt, .initialized RX3, .code yX3_stateAt cX3_stateAt 3 (some (.object "Teleprompter$State")), .fieldLink RX3 27 "Teleprompter" "copy" "LTeleprompter$State;"] ++ wsX30)
def wsX3_record_r1 : List Cond := [Cond.fieldLink RX3 121 "Teleprompter" "undoable" "I", Cond.fieldLink RX3 30 "Teleprompter" "history" "[LTeleprompter$State;", Cond.fieldLink RX3 23 "Teleprompter" "now" "LTeleprompter$State;", Cond.methodLink RX3 247 yX3_dropOldest, Cond.instanceMethod yX3_dropOldest, Cond.selects RX3 yX3_dropOldest yX3_dropOldest, Cond.initialized RX3, Cond.code yX3_dropOldest cX3_dropOldest 3 none, Cond.methodLink RX3 124 yX3_stateAt, Cond.instanceMethod yX3_stateAt, Cond.selects RX3 yX3_stateAt yX3_stateAt, Cond.code yX3_stateAt cX3_stateAt 3 (some (.object "Teleprompter$State")), Cond.fieldLink RX3 27 "Teleprompter" "copy" "LTeleprompter$State;", Cond.methodLink RX3 128 yX1_become, Cond.instanceMethod yX1_become, Cond.selects RX1 yX1_become yX1_become, Cond.initialized RX1, Cond.code yX1_become cX1_become 2 none, Cond.fieldLink RX1 9 "Teleprompter$State" "settings" "[I", Cond.fieldLink RX1 18 "Teleprompter$State" "script" "LTeleprompter$Script;", Cond.fieldLink RX1 25 "Teleprompter$State" "trail" "LTeleprompter$Trail;", Cond.fieldLink RX1 29 "Teleprompter$State" "kept" "[I", Cond.fieldLink RX1 43 "Teleprompter$State" "keptCount" "I", Cond.fieldLink RX1 47 "Teleprompter$State" "position" "I"]
def wsX3_record_r2 : List Cond := [Cond.fieldLink RX1 50 "Teleprompter$State" "speed" "I", Cond.fieldLink RX1 53 "Teleprompter$State" "time" "I", Cond.fieldLink RX1 56 "Teleprompter$State" "heardTime" "I", Cond.fieldLink RX1 59 "Teleprompter$State" "top" "I", Cond.fieldLink RX1 62 "Teleprompter$State" "skips" "I", Cond.fieldLink RX1 65 "Teleprompter$State" "repeats" "I", Cond.fieldLink RX1 68 "Teleprompter$State" "misses" "I", Cond.fieldLink RX1 71 "Teleprompter$State" "jerks" "I", Cond.fieldLink RX1 74 "Teleprompter$State" "overruns" "I", Cond.static yX3_copyRow, Cond.code yX3_copyRow cX3_copyRow 2 none, Cond.methodLink RX3 250 Lib.Math.min.name, Cond.static Lib.Math.min.name, Cond.initialized "java/lang/Math", Cond.code Lib.Math.min.name Lib.Math.min.code 2 (some .int), Cond.methodLink RX3 255 arraycopyName, Cond.native arraycopyName, Cond.static arraycopyName, Cond.initialized "java/lang/System", Cond.methodLink RX1 36 yX0_become, Cond.instanceMethod yX0_become, Cond.selects RX0 yX0_become yX0_become, Cond.initialized RX0, Cond.code yX0_become cX0_become 2 none]
def wsX3_record_r3 : List Cond := [Cond.fieldLink RX0 27 "Teleprompter$Script" "words" "I", Cond.fieldLink RX0 31 "Teleprompter$Script" "passages" "I", Cond.fieldLink RX0 34 "Teleprompter$Script" "wordsInPassage" "I", Cond.fieldLink RX0 37 "Teleprompter$Script" "rows" "I", Cond.fieldLink RX0 9 "Teleprompter$Script" "letters" "[I", Cond.fieldLink RX0 15 "Teleprompter$Script" "passageOf" "[I", Cond.fieldLink RX0 18 "Teleprompter$Script" "cues" "[I", Cond.fieldLink RX0 21 "Teleprompter$Script" "rowOf" "[I", Cond.fieldLink RX0 24 "Teleprompter$Script" "firstOfRow" "[I", Cond.methodLink RX1 40 yX2_become, Cond.instanceMethod yX2_become, Cond.selects RX2 yX2_become yX2_become, Cond.initialized RX2, Cond.code yX2_become cX2_become 2 none, Cond.fieldLink RX2 18 "Teleprompter$Trail" "pairs" "I", Cond.fieldLink RX2 9 "Teleprompter$Trail" "times" "[I", Cond.fieldLink RX2 15 "Teleprompter$Trail" "positions" "[I"]
def wsX3_record : List Cond := .code yX3_record cX3_record 1 none :: ((wsX3_record_r1 ++ (wsX3_record_r2 ++ wsX3_record_r3)) ++ wsX30 ++ wsX10 ++ wsX00 ++ wsX20)
def wsX3_load_r1 : List Cond := [Cond.fieldLink RX3 23 "Teleprompter" "now" "LTeleprompter$State;", Cond.fieldLink RX3 16 "Teleprompter" "draft" "LTeleprompter$Script;", Cond.fieldLink RX3 69 "Teleprompter$State" "script" "LTeleprompter$Script;", Cond.fieldLink RX3 72 "Teleprompter$Script" "words" "I", Cond.methodLink RX3 62 yX3_readText, Cond.instanceMethod yX3_readText, Cond.selects RX3 yX3_readText yX3_readText, Cond.initialized RX3, Cond.code yX3_readText cX3_readText 3 (some .boolean), Cond.fieldLink RX3 132 "Teleprompter" "textLength" "I", Cond.fieldLink RX3 9 "Teleprompter" "text" "[I", Cond.fieldLink RX3 139 "Teleprompter" "faultKind" "I", Cond.fieldLink RX3 142 "Teleprompter" "faultPlace" "I", Cond.fieldLink RX3 244 "Teleprompter$Script" "wordsInPassage" "I", Cond.methodLink RX3 51 yX0_empty, Cond.instanceMethod yX0_empty, Cond.selects RX0 yX0_empty yX0_empty, Cond.initialized RX0, Cond.code yX0_empty cX0_empty 1 none, Cond.fieldLink RX0 27 "Teleprompter$Script" "words" "I", Cond.fieldLink RX0 31 "Teleprompter$Script" "passages" "I", Cond.fieldLink RX0 34 "Teleprompter$Script" "wordsInPassage" "I", Cond.methodLink RX3 83 yX3_at, Cond.static yX3_at]
def wsX3_load_r2 : List Cond := [Cond.code yX3_at cX3_at 2 (some .int), Cond.methodLink RX3 54 yX0_read, Cond.instanceMethod yX0_read, Cond.selects RX0 yX0_read yX0_read, Cond.code yX0_read cX0_read 3 (some .int), Cond.static yX3_isLetter, Cond.code yX3_isLetter cX3_isLetter 1 (some .boolean), Cond.methodLink RX0 48 yX0_append, Cond.instanceMethod yX0_append, Cond.selects RX0 yX0_append yX0_append, Cond.code yX0_append cX0_append 2 (some .int), Cond.fieldLink RX0 9 "Teleprompter$Script" "letters" "[I", Cond.fieldLink RX0 15 "Teleprompter$Script" "passageOf" "[I", Cond.fieldLink RX0 18 "Teleprompter$Script" "cues" "[I", Cond.static yX3_put, Cond.code yX3_put cX3_put 3 none, Cond.methodLink RX0 52 yX0_setCue, Cond.instanceMethod yX0_setCue, Cond.selects RX0 yX0_setCue yX0_setCue, Cond.code yX0_setCue cX0_setCue 1 (some .int), Cond.methodLink RX0 56 yX0_endPassage, Cond.instanceMethod yX0_endPassage, Cond.selects RX0 yX0_endPassage yX0_endPassage, Cond.code yX0_endPassage cX0_endPassage 1 (some .int)]
def wsX3_load_r3 : List Cond := [Cond.methodLink RX3 66 yX3_record, Cond.instanceMethod yX3_record, Cond.selects RX3 yX3_record yX3_record, Cond.code yX3_record cX3_record 1 none, Cond.fieldLink RX3 121 "Teleprompter" "undoable" "I", Cond.fieldLink RX3 30 "Teleprompter" "history" "[LTeleprompter$State;", Cond.methodLink RX3 247 yX3_dropOldest, Cond.instanceMethod yX3_dropOldest, Cond.selects RX3 yX3_dropOldest yX3_dropOldest, Cond.code yX3_dropOldest cX3_dropOldest 3 none, Cond.methodLink RX3 124 yX3_stateAt, Cond.instanceMethod yX3_stateAt, Cond.selects RX3 yX3_stateAt yX3_stateAt, Cond.code yX3_stateAt cX3_stateAt 3 (some (.object "Teleprompter$State")), Cond.fieldLink RX3 27 "Teleprompter" "copy" "LTeleprompter$State;", Cond.methodLink RX3 128 yX1_become, Cond.instanceMethod yX1_become, Cond.selects RX1 yX1_become yX1_become, Cond.initialized RX1, Cond.code yX1_become cX1_become 2 none, Cond.fieldLink RX1 9 "Teleprompter$State" "settings" "[I", Cond.fieldLink RX1 18 "Teleprompter$State" "script" "LTeleprompter$Script;", Cond.fieldLink RX1 25 "Teleprompter$State" "trail" "LTeleprompter$Trail;", Cond.fieldLink RX1 29 "Teleprompter$State" "kept" "[I"]
def wsX3_load_r4 : List Cond := [Cond.fieldLink RX1 43 "Teleprompter$State" "keptCount" "I", Cond.fieldLink RX1 47 "Teleprompter$State" "position" "I", Cond.fieldLink RX1 50 "Teleprompter$State" "speed" "I", Cond.fieldLink RX1 53 "Teleprompter$State" "time" "I", Cond.fieldLink RX1 56 "Teleprompter$State" "heardTime" "I", Cond.fieldLink RX1 59 "Teleprompter$State" "top" "I", Cond.fieldLink RX1 62 "Teleprompter$State" "skips" "I", Cond.fieldLink RX1 65 "Teleprompter$State" "repeats" "I", Cond.fieldLink RX1 68 "Teleprompter$State" "misses" "I", Cond.fieldLink RX1 71 "Teleprompter$State" "jerks" "I", Cond.fieldLink RX1 74 "Teleprompter$State" "overruns" "I", Cond.static yX3_copyRow, Cond.code yX3_copyRow cX3_copyRow 2 none, Cond.methodLink RX3 250 Lib.Math.min.name, Cond.static Lib.Math.min.name, Cond.initialized "java/lang/Math", Cond.code Lib.Math.min.name Lib.Math.min.code 2 (some .int), Cond.methodLink RX3 255 arraycopyName, Cond.native arraycopyName, Cond.static arraycopyName, Cond.initialized "java/lang/System", Cond.methodLink RX1 36 yX0_become, Cond.instanceMethod yX0_become, Cond.selects RX0 yX0_become yX0_become]
def wsX3_load_r5 : List Cond := [Cond.code yX0_become cX0_become 2 none, Cond.fieldLink RX0 37 "Teleprompter$Script" "rows" "I", Cond.fieldLink RX0 21 "Teleprompter$Script" "rowOf" "[I", Cond.fieldLink RX0 24 "Teleprompter$Script" "firstOfRow" "[I", Cond.methodLink RX1 40 yX2_become, Cond.instanceMethod yX2_become, Cond.selects RX2 yX2_become yX2_become, Cond.initialized RX2, Cond.code yX2_become cX2_become 2 none, Cond.fieldLink RX2 18 "Teleprompter$Trail" "pairs" "I", Cond.fieldLink RX2 9 "Teleprompter$Trail" "times" "[I", Cond.fieldLink RX2 15 "Teleprompter$Trail" "positions" "[I", Cond.methodLink RX3 58 yX1_begin, Cond.instanceMethod yX1_begin, Cond.selects RX1 yX1_begin yX1_begin, Cond.code yX1_begin cX1_begin 2 none, Cond.methodLink RX1 81 yX0_lay, Cond.instanceMethod yX0_lay, Cond.selects RX0 yX0_lay yX0_lay, Cond.code yX0_lay cX0_lay 4 none, Cond.methodLink RX1 85 yX2_empty, Cond.instanceMethod yX2_empty, Cond.selects RX2 yX2_empty yX2_empty, Cond.code yX2_empty cX2_empty 1 none]
def wsX3_load : List Cond := .code yX3_load cX3_load 1 (some .int) :: ((wsX3_load_r1 ++ (wsX3_load_r2 ++ (wsX3_load_r3 ++ (wsX3_load_r4 ++ wsX3_load_r5)))) ++ wsX30 ++ wsX10 ++ wsX00 ++ wsX20)
def wsX3_isSetting : List Cond := .code yX3_isSetting cX3_isSetting 1 (some .boolean) :: ([])
def wsX3_set_r1 : List Cond := [Cond.fieldLink RX3 80 "Teleprompter" "LEAST" "[I", Cond.fieldLink RX3 87 "Teleprompter" "MOST" "[I", Cond.fieldLink RX3 23 "Teleprompter" "now" "LTeleprompter$State;", Cond.fieldLink RX3 44 "Teleprompter$State" "settings" "[I", Cond.methodLink RX3 76 yX3_isSetting, Cond.static yX3_isSetting, Cond.initialized RX3, Cond.code yX3_isSetting cX3_isSetting 1 (some .boolean), Cond.methodLink RX3 83 yX3_at, Cond.static yX3_at, Cond.code yX3_at cX3_at 2 (some .int), Cond.methodLink RX3 66 yX3_record, Cond.instanceMethod yX3_record, Cond.selects RX3 yX3_record yX3_record, Cond.code yX3_record cX3_record 1 none, Cond.fieldLink RX3 121 "Teleprompter" "undoable" "I", Cond.fieldLink RX3 30 "Teleprompter" "history" "[LTeleprompter$State;", Cond.methodLink RX3 247 yX3_dropOldest, Cond.instanceMethod yX3_dropOldest, Cond.selects RX3 yX3_dropOldest yX3_dropOldest, Cond.code yX3_dropOldest cX3_dropOldest 3 none, Cond.methodLink RX3 124 yX3_stateAt, Cond.instanceMethod yX3_stateAt, Cond.selects RX3 yX3_stateAt yX3_stateAt]
def wsX3_set_r2 : List Cond := [Cond.code yX3_stateAt cX3_stateAt 3 (some (.object "Teleprompter$State")), Cond.fieldLink RX3 27 "Teleprompter" "copy" "LTeleprompter$State;", Cond.methodLink RX3 128 yX1_become, Cond.instanceMethod yX1_become, Cond.selects RX1 yX1_become yX1_become, Cond.initialized RX1, Cond.code yX1_become cX1_become 2 none, Cond.fieldLink RX1 9 "Teleprompter$State" "settings" "[I", Cond.fieldLink RX1 18 "Teleprompter$State" "script" "LTeleprompter$Script;", Cond.fieldLink RX1 25 "Teleprompter$State" "trail" "LTeleprompter$Trail;", Cond.fieldLink RX1 29 "Teleprompter$State" "kept" "[I", Cond.fieldLink RX1 43 "Teleprompter$State" "keptCount" "I", Cond.fieldLink RX1 47 "Teleprompter$State" "position" "I", Cond.fieldLink RX1 50 "Teleprompter$State" "speed" "I", Cond.fieldLink RX1 53 "Teleprompter$State" "time" "I", Cond.fieldLink RX1 56 "Teleprompter$State" "heardTime" "I", Cond.fieldLink RX1 59 "Teleprompter$State" "top" "I", Cond.fieldLink RX1 62 "Teleprompter$State" "skips" "I", Cond.fieldLink RX1 65 "Teleprompter$State" "repeats" "I", Cond.fieldLink RX1 68 "Teleprompter$State" "misses" "I", Cond.fieldLink RX1 71 "Teleprompter$State" "jerks" "I", Cond.fieldLink RX1 74 "Teleprompter$State" "overruns" "I", Cond.static yX3_copyRow, Cond.code yX3_copyRow cX3_copyRow 2 none]
def wsX3_set_r3 : List Cond := [Cond.methodLink RX3 250 Lib.Math.min.name, Cond.static Lib.Math.min.name, Cond.initialized "java/lang/Math", Cond.code Lib.Math.min.name Lib.Math.min.code 2 (some .int), Cond.methodLink RX3 255 arraycopyName, Cond.native arraycopyName, Cond.static arraycopyName, Cond.initialized "java/lang/System", Cond.methodLink RX1 36 yX0_become, Cond.instanceMethod yX0_become, Cond.selects RX0 yX0_become yX0_become, Cond.initialized RX0, Cond.code yX0_become cX0_become 2 none, Cond.fieldLink RX0 27 "Teleprompter$Script" "words" "I", Cond.fieldLink RX0 31 "Teleprompter$Script" "passages" "I", Cond.fieldLink RX0 34 "Teleprompter$Script" "wordsInPassage" "I", Cond.fieldLink RX0 37 "Teleprompter$Script" "rows" "I", Cond.fieldLink RX0 9 "Teleprompter$Script" "letters" "[I", Cond.fieldLink RX0 15 "Teleprompter$Script" "passageOf" "[I", Cond.fieldLink RX0 18 "Teleprompter$Script" "cues" "[I", Cond.fieldLink RX0 21 "Teleprompter$Script" "rowOf" "[I", Cond.fieldLink RX0 24 "Teleprompter$Script" "firstOfRow" "[I", Cond.methodLink RX1 40 yX2_become, Cond.instanceMethod yX2_become]
def wsX3_set_r4 : List Cond := [Cond.selects RX2 yX2_become yX2_become, Cond.initialized RX2, Cond.code yX2_become cX2_become 2 none, Cond.fieldLink RX2 18 "Teleprompter$Trail" "pairs" "I", Cond.fieldLink RX2 9 "Teleprompter$Trail" "times" "[I", Cond.fieldLink RX2 15 "Teleprompter$Trail" "positions" "[I", Cond.methodLink RX3 90 yX1_change, Cond.instanceMethod yX1_change, Cond.selects RX1 yX1_change yX1_change, Cond.code yX1_change cX1_change 3 none, Cond.static yX3_put, Cond.code yX3_put cX3_put 3 none, Cond.methodLink RX1 81 yX0_lay, Cond.instanceMethod yX0_lay, Cond.selects RX0 yX0_lay yX0_lay, Cond.code yX0_lay cX0_lay 4 none, Cond.methodLink RX1 92 yX1_highestTop, Cond.instanceMethod yX1_highestTop, Cond.selects RX1 yX1_highestTop yX1_highestTop, Cond.code yX1_highestTop cX1_highestTop 1 (some .int), Cond.fieldLink RX1 177 "Teleprompter$Script" "rows" "I", Cond.methodLink RX1 117 Lib.Math.max.name, Cond.static Lib.Math.max.name, Cond.code Lib.Math.max.name Lib.Math.max.code 2 (some .int)]
def wsX3_set_r5 : List Cond := [Cond.static yX3_limited, Cond.code yX3_limited cX3_limited 3 (some .int), Cond.methodLink RX3 261 Lib.Math.max.name]
def wsX3_set : List Cond := .code yX3_set cX3_set 4 (some .int) :: ((wsX3_set_r1 ++ (wsX3_set_r2 ++ (wsX3_set_r3 ++ (wsX3_set_r4 ++ wsX3_set_r5)))) ++ wsX30 ++ wsX10 ++ wsX00 ++ wsX20)
def wsX3_hear_r1 : List Cond := [Cond.fieldLink RX3 23 "Teleprompter" "now" "LTeleprompter$State;", Cond.fieldLink RX3 100 "Teleprompter$State" "position" "I", Cond.methodLink RX3 94 yX3_isLetter, Cond.static yX3_isLetter, Cond.initialized RX3, Cond.code yX3_isLetter cX3_isLetter 1 (some .boolean), Cond.methodLink RX3 66 yX3_record, Cond.instanceMethod yX3_record, Cond.selects RX3 yX3_record yX3_record, Cond.code yX3_record cX3_record 1 none, Cond.fieldLink RX3 121 "Teleprompter" "undoable" "I", Cond.fieldLink RX3 30 "Teleprompter" "history" "[LTeleprompter$State;", Cond.methodLink RX3 247 yX3_dropOldest, Cond.instanceMethod yX3_dropOldest, Cond.selects RX3 yX3_dropOldest yX3_dropOldest, Cond.code yX3_dropOldest cX3_dropOldest 3 none, Cond.methodLink RX3 124 yX3_stateAt, Cond.instanceMethod yX3_stateAt, Cond.selects RX3 yX3_stateAt yX3_stateAt, Cond.code yX3_stateAt cX3_stateAt 3 (some (.object "Teleprompter$State")), Cond.fieldLink RX3 27 "Teleprompter" "copy" "LTeleprompter$State;", Cond.methodLink RX3 128 yX1_become, Cond.instanceMethod yX1_become, Cond.selects RX1 yX1_become yX1_become]
def wsX3_hear_r2 : List Cond := [Cond.initialized RX1, Cond.code yX1_become cX1_become 2 none, Cond.fieldLink RX1 9 "Teleprompter$State" "settings" "[I", Cond.fieldLink RX1 18 "Teleprompter$State" "script" "LTeleprompter$Script;", Cond.fieldLink RX1 25 "Teleprompter$State" "trail" "LTeleprompter$Trail;", Cond.fieldLink RX1 29 "Teleprompter$State" "kept" "[I", Cond.fieldLink RX1 43 "Teleprompter$State" "keptCount" "I", Cond.fieldLink RX1 47 "Teleprompter$State" "position" "I", Cond.fieldLink RX1 50 "Teleprompter$State" "speed" "I", Cond.fieldLink RX1 53 "Teleprompter$State" "time" "I", Cond.fieldLink RX1 56 "Teleprompter$State" "heardTime" "I", Cond.fieldLink RX1 59 "Teleprompter$State" "top" "I", Cond.fieldLink RX1 62 "Teleprompter$State" "skips" "I", Cond.fieldLink RX1 65 "Teleprompter$State" "repeats" "I", Cond.fieldLink RX1 68 "Teleprompter$State" "misses" "I", Cond.fieldLink RX1 71 "Teleprompter$State" "jerks" "I", Cond.fieldLink RX1 74 "Teleprompter$State" "overruns" "I", Cond.static yX3_copyRow, Cond.code yX3_copyRow cX3_copyRow 2 none, Cond.methodLink RX3 250 Lib.Math.min.name, Cond.static Lib.Math.min.name, Cond.initialized "java/lang/Math", Cond.code Lib.Math.min.name Lib.Math.min.code 2 (some .int), Cond.methodLink RX3 255 arraycopyName]
def wsX3_hear_r3 : List Cond := [Cond.native arraycopyName, Cond.static arraycopyName, Cond.initialized "java/lang/System", Cond.methodLink RX1 36 yX0_become, Cond.instanceMethod yX0_become, Cond.selects RX0 yX0_become yX0_become, Cond.initialized RX0, Cond.code yX0_become cX0_become 2 none, Cond.fieldLink RX0 27 "Teleprompter$Script" "words" "I", Cond.fieldLink RX0 31 "Teleprompter$Script" "passages" "I", Cond.fieldLink RX0 34 "Teleprompter$Script" "wordsInPassage" "I", Cond.fieldLink RX0 37 "Teleprompter$Script" "rows" "I", Cond.fieldLink RX0 9 "Teleprompter$Script" "letters" "[I", Cond.fieldLink RX0 15 "Teleprompter$Script" "passageOf" "[I", Cond.fieldLink RX0 18 "Teleprompter$Script" "cues" "[I", Cond.fieldLink RX0 21 "Teleprompter$Script" "rowOf" "[I", Cond.fieldLink RX0 24 "Teleprompter$Script" "firstOfRow" "[I", Cond.methodLink RX1 40 yX2_become, Cond.instanceMethod yX2_become, Cond.selects RX2 yX2_become yX2_become, Cond.initialized RX2, Cond.code yX2_become cX2_become 2 none, Cond.fieldLink RX2 18 "Teleprompter$Trail" "pairs" "I", Cond.fieldLink RX2 9 "Teleprompter$Trail" "times" "[I"]
def wsX3_hear_r4 : List Cond := [Cond.fieldLink RX2 15 "Teleprompter$Trail" "positions" "[I", Cond.methodLink RX3 97 yX1_listen, Cond.instanceMethod yX1_listen, Cond.selects RX1 yX1_listen yX1_listen, Cond.code yX1_listen cX1_listen 4 (some .boolean), Cond.methodLink RX1 103 yX1_bestCandidate, Cond.instanceMethod yX1_bestCandidate, Cond.selects RX1 yX1_bestCandidate yX1_bestCandidate, Cond.code yX1_bestCandidate cX1_bestCandidate 6 (some .int), Cond.methodLink RX1 117 Lib.Math.max.name, Cond.static Lib.Math.max.name, Cond.code Lib.Math.max.name Lib.Math.max.code 2 (some .int), Cond.fieldLink RX1 123 "Teleprompter$Script" "words" "I", Cond.methodLink RX1 126 Lib.Math.min.name, Cond.fieldLink RX1 129 "Teleprompter$Script" "letters" "[I", Cond.static yX3_at, Cond.code yX3_at cX3_at 2 (some .int), Cond.methodLink RX1 132 yX1_isBetter, Cond.instanceMethod yX1_isBetter, Cond.selects RX1 yX1_isBetter yX1_isBetter, Cond.code yX1_isBetter cX1_isBetter 5 (some .boolean), Cond.methodLink RX1 139 Lib.Math.abs.name, Cond.static Lib.Math.abs.name, Cond.code Lib.Math.abs.name Lib.Math.abs.code 1 (some .int)]
def wsX3_hear_r5 : List Cond := [Cond.methodLink RX1 136 yX1_points, Cond.instanceMethod yX1_points, Cond.selects RX1 yX1_points yX1_points, Cond.code yX1_points cX1_points 3 (some .int), Cond.methodLink RX1 107 yX1_accepts, Cond.instanceMethod yX1_accepts, Cond.selects RX1 yX1_accepts yX1_accepts, Cond.code yX1_accepts cX1_accepts 2 (some .boolean), Cond.methodLink RX1 111 yX1_follow, Cond.instanceMethod yX1_follow, Cond.selects RX1 yX1_follow yX1_follow, Cond.code yX1_follow cX1_follow 2 none, Cond.methodLink RX1 85 yX2_empty, Cond.instanceMethod yX2_empty, Cond.selects RX2 yX2_empty yX2_empty, Cond.code yX2_empty cX2_empty 1 none, Cond.methodLink RX1 142 yX2_add, Cond.instanceMethod yX2_add, Cond.selects RX2 yX2_add yX2_add, Cond.code yX2_add cX2_add 7 none, Cond.static yX3_put, Cond.code yX3_put cX3_put 3 none, Cond.methodLink RX1 146 yX2_speedOr, Cond.instanceMethod yX2_speedOr]
def wsX3_hear_r6 : List Cond := [Cond.selects RX2 yX2_speedOr yX2_speedOr, Cond.code yX2_speedOr cX2_speedOr 3 (some .int), Cond.methodLink RX1 149 yX0_passWaitingBefore, Cond.instanceMethod yX0_passWaitingBefore, Cond.selects RX0 yX0_passWaitingBefore yX0_passWaitingBefore, Cond.code yX0_passWaitingBefore cX0_passWaitingBefore 4 (some .int), Cond.methodLink RX1 114 yX1_keepHeard, Cond.instanceMethod yX1_keepHeard, Cond.selects RX1 yX1_keepHeard yX1_keepHeard, Cond.code yX1_keepHeard cX1_keepHeard 3 none]
def wsX3_hear : List Cond := .code yX3_hear cX3_hear 2 (some .int) :: ((wsX3_hear_r1 ++ (wsX3_hear_r2 ++ (wsX3_hear_r3 ++ (wsX3_hear_r4 ++ (wsX3_hear_r5 ++ wsX3_hear_r6))))) ++ wsX30 ++ wsX10 ++ wsX00 ++ wsX20)
def wsX3_tick_r1 : List Cond := [Cond.fieldLink RX3 23 "Teleprompter" "now" "LTeleprompter$State;", Cond.methodLink RX3 66 yX3_record, Cond.instanceMethod yX3_record, Cond.selects RX3 yX3_record yX3_record, Cond.initialized RX3, Cond.code yX3_record cX3_record 1 none, Cond.fieldLink RX3 121 "Teleprompter" "undoable" "I", Cond.fieldLink RX3 30 "Teleprompter" "history" "[LTeleprompter$State;", Cond.methodLink RX3 247 yX3_dropOldest, Cond.instanceMethod yX3_dropOldest, Cond.selects RX3 yX3_dropOldest yX3_dropOldest, Cond.code yX3_dropOldest cX3_dropOldest 3 none, Cond.methodLink RX3 124 yX3_stateAt, Cond.instanceMethod yX3_stateAt, Cond.selects RX3 yX3_stateAt yX3_stateAt, Cond.code yX3_stateAt cX3_stateAt 3 (some (.object "Teleprompter$State")), Cond.fieldLink RX3 27 "Teleprompter" "copy" "LTeleprompter$State;", Cond.methodLink RX3 128 yX1_become, Cond.instanceMethod yX1_become, Cond.selects RX1 yX1_become yX1_become, Cond.initialized RX1, Cond.code yX1_become cX1_become 2 none, Cond.fieldLink RX1 9 "Teleprompter$State" "settings" "[I", Cond.fieldLink RX1 18 "Teleprompter$State" "script" "LTeleprompter$Script;"]
def wsX3_tick_r2 : List Cond := [Cond.fieldLink RX1 25 "Teleprompter$State" "trail" "LTeleprompter$Trail;", Cond.fieldLink RX1 29 "Teleprompter$State" "kept" "[I", Cond.fieldLink RX1 43 "Teleprompter$State" "keptCount" "I", Cond.fieldLink RX1 47 "Teleprompter$State" "position" "I", Cond.fieldLink RX1 50 "Teleprompter$State" "speed" "I", Cond.fieldLink RX1 53 "Teleprompter$State" "time" "I", Cond.fieldLink RX1 56 "Teleprompter$State" "heardTime" "I", Cond.fieldLink RX1 59 "Teleprompter$State" "top" "I", Cond.fieldLink RX1 62 "Teleprompter$State" "skips" "I", Cond.fieldLink RX1 65 "Teleprompter$State" "repeats" "I", Cond.fieldLink RX1 68 "Teleprompter$State" "misses" "I", Cond.fieldLink RX1 71 "Teleprompter$State" "jerks" "I", Cond.fieldLink RX1 74 "Teleprompter$State" "overruns" "I", Cond.static yX3_copyRow, Cond.code yX3_copyRow cX3_copyRow 2 none, Cond.methodLink RX3 250 Lib.Math.min.name, Cond.static Lib.Math.min.name, Cond.initialized "java/lang/Math", Cond.code Lib.Math.min.name Lib.Math.min.code 2 (some .int), Cond.methodLink RX3 255 arraycopyName, Cond.native arraycopyName, Cond.static arraycopyName, Cond.initialized "java/lang/System", Cond.methodLink RX1 36 yX0_become]
def wsX3_tick_r3 : List Cond := [Cond.instanceMethod yX0_become, Cond.selects RX0 yX0_become yX0_become, Cond.initialized RX0, Cond.code yX0_become cX0_become 2 none, Cond.fieldLink RX0 27 "Teleprompter$Script" "words" "I", Cond.fieldLink RX0 31 "Teleprompter$Script" "passages" "I", Cond.fieldLink RX0 34 "Teleprompter$Script" "wordsInPassage" "I", Cond.fieldLink RX0 37 "Teleprompter$Script" "rows" "I", Cond.fieldLink RX0 9 "Teleprompter$Script" "letters" "[I", Cond.fieldLink RX0 15 "Teleprompter$Script" "passageOf" "[I", Cond.fieldLink RX0 18 "Teleprompter$Script" "cues" "[I", Cond.fieldLink RX0 21 "Teleprompter$Script" "rowOf" "[I", Cond.fieldLink RX0 24 "Teleprompter$Script" "firstOfRow" "[I", Cond.methodLink RX1 40 yX2_become, Cond.instanceMethod yX2_become, Cond.selects RX2 yX2_become yX2_become, Cond.initialized RX2, Cond.code yX2_become cX2_become 2 none, Cond.fieldLink RX2 18 "Teleprompter$Trail" "pairs" "I", Cond.fieldLink RX2 9 "Teleprompter$Trail" "times" "[I", Cond.fieldLink RX2 15 "Teleprompter$Trail" "positions" "[I", Cond.methodLink RX3 103 yX1_passTime, Cond.instanceMethod yX1_passTime, Cond.selects RX1 yX1_passTime yX1_passTime]
def wsX3_tick_r4 : List Cond := [Cond.code yX1_passTime cX1_passTime 5 (some .int), Cond.methodLink RX1 164 yX1_holdingWord, Cond.instanceMethod yX1_holdingWord, Cond.selects RX1 yX1_holdingWord yX1_holdingWord, Cond.code yX1_holdingWord cX1_holdingWord 2 (some .int), Cond.fieldLink RX1 123 "Teleprompter$Script" "words" "I", Cond.methodLink RX1 158 yX0_nextCue, Cond.instanceMethod yX0_nextCue, Cond.selects RX0 yX0_nextCue yX0_nextCue, Cond.code yX0_nextCue cX0_nextCue 2 (some .int), Cond.static yX3_at, Cond.code yX3_at cX3_at 2 (some .int), Cond.methodLink RX1 167 yX1_estimate, Cond.instanceMethod yX1_estimate, Cond.selects RX1 yX1_estimate yX1_estimate, Cond.code yX1_estimate cX1_estimate 7 (some .int), Cond.constantLong RX1 170 (100), Cond.methodLink RX1 172 Lib.MathLoose.min_long.x, Cond.static Lib.MathLoose.min_long.x, Cond.code Lib.MathLoose.min_long.x Lib.MathLoose.min_long.code 4 (some .long), Cond.methodLink RX1 175 Lib.MathLoose.max_long.x, Cond.static Lib.MathLoose.max_long.x, Cond.code Lib.MathLoose.max_long.x Lib.MathLoose.max_long.code 4 (some .long), Cond.methodLink RX1 186 yX1_scrollTo]
def wsX3_tick_r5 : List Cond := [Cond.instanceMethod yX1_scrollTo, Cond.selects RX1 yX1_scrollTo yX1_scrollTo, Cond.code yX1_scrollTo cX1_scrollTo 4 none, Cond.fieldLink RX1 180 "Teleprompter$Script" "rowOf" "[I", Cond.methodLink RX1 189 yX1_desiredTop, Cond.instanceMethod yX1_desiredTop, Cond.selects RX1 yX1_desiredTop yX1_desiredTop, Cond.code yX1_desiredTop cX1_desiredTop 3 (some .int), Cond.methodLink RX1 126 Lib.Math.min.name, Cond.methodLink RX1 92 yX1_highestTop, Cond.instanceMethod yX1_highestTop, Cond.selects RX1 yX1_highestTop yX1_highestTop, Cond.code yX1_highestTop cX1_highestTop 1 (some .int), Cond.fieldLink RX1 177 "Teleprompter$Script" "rows" "I", Cond.methodLink RX1 117 Lib.Math.max.name, Cond.static Lib.Math.max.name, Cond.code Lib.Math.max.name Lib.Math.max.code 2 (some .int), Cond.static yX3_limited, Cond.code yX3_limited cX3_limited 3 (some .int), Cond.methodLink RX3 261 Lib.Math.max.name, Cond.methodLink RX1 192 yX1_shows, Cond.instanceMethod yX1_shows, Cond.selects RX1 yX1_shows yX1_shows, Cond.code yX1_shows cX1_shows 2 (some .boolean)]
def wsX3_tick_r6 : List Cond := [Cond.methodLink RX1 183 yX1_lowestShown, Cond.instanceMethod yX1_lowestShown, Cond.selects RX1 yX1_lowestShown yX1_lowestShown, Cond.code yX1_lowestShown cX1_lowestShown 1 (some .int)]
def wsX3_tick : List Cond := .code yX3_tick cX3_tick 2 (some .int) :: ((wsX3_tick_r1 ++ (wsX3_tick_r2 ++ (wsX3_tick_r3 ++ (wsX3_tick_r4 ++ (wsX3_tick_r5 ++ wsX3_tick_r6))))) ++ wsX30 ++ wsX10 ++ wsX00 ++ wsX20)
def wsX3_release_r1 : List Cond := [Cond.fieldLink RX3 23 "Teleprompter" "now" "LTeleprompter$State;", Cond.fieldLink RX3 69 "Teleprompter$State" "script" "LTeleprompter$Script;", Cond.methodLink RX3 107 yX0_nextCue, Cond.instanceMethod yX0_nextCue, Cond.selects RX0 yX0_nextCue yX0_nextCue, Cond.initialized RX0, Cond.code yX0_nextCue cX0_nextCue 2 (some .int), Cond.fieldLink RX0 27 "Teleprompter$Script" "words" "I", Cond.fieldLink RX0 18 "Teleprompter$Script" "cues" "[I", Cond.static yX3_at, Cond.initialized RX3, Cond.code yX3_at cX3_at 2 (some .int), Cond.methodLink RX3 66 yX3_record, Cond.instanceMethod yX3_record, Cond.selects RX3 yX3_record yX3_record, Cond.code yX3_record cX3_record 1 none, Cond.fieldLink RX3 121 "Teleprompter" "undoable" "I", Cond.fieldLink RX3 30 "Teleprompter" "history" "[LTeleprompter$State;", Cond.methodLink RX3 247 yX3_dropOldest, Cond.instanceMethod yX3_dropOldest, Cond.selects RX3 yX3_dropOldest yX3_dropOldest, Cond.code yX3_dropOldest cX3_dropOldest 3 none, Cond.methodLink RX3 124 yX3_stateAt, Cond.instanceMethod yX3_stateAt]
def wsX3_release_r2 : List Cond := [Cond.selects RX3 yX3_stateAt yX3_stateAt, Cond.code yX3_stateAt cX3_stateAt 3 (some (.object "Teleprompter$State")), Cond.fieldLink RX3 27 "Teleprompter" "copy" "LTeleprompter$State;", Cond.methodLink RX3 128 yX1_become, Cond.instanceMethod yX1_become, Cond.selects RX1 yX1_become yX1_become, Cond.initialized RX1, Cond.code yX1_become cX1_become 2 none, Cond.fieldLink RX1 9 "Teleprompter$State" "settings" "[I", Cond.fieldLink RX1 18 "Teleprompter$State" "script" "LTeleprompter$Script;", Cond.fieldLink RX1 25 "Teleprompter$State" "trail" "LTeleprompter$Trail;", Cond.fieldLink RX1 29 "Teleprompter$State" "kept" "[I", Cond.fieldLink RX1 43 "Teleprompter$State" "keptCount" "I", Cond.fieldLink RX1 47 "Teleprompter$State" "position" "I", Cond.fieldLink RX1 50 "Teleprompter$State" "speed" "I", Cond.fieldLink RX1 53 "Teleprompter$State" "time" "I", Cond.fieldLink RX1 56 "Teleprompter$State" "heardTime" "I", Cond.fieldLink RX1 59 "Teleprompter$State" "top" "I", Cond.fieldLink RX1 62 "Teleprompter$State" "skips" "I", Cond.fieldLink RX1 65 "Teleprompter$State" "repeats" "I", Cond.fieldLink RX1 68 "Teleprompter$State" "misses" "I", Cond.fieldLink RX1 71 "Teleprompter$State" "jerks" "I", Cond.fieldLink RX1 74 "Teleprompter$State" "overruns" "I", Cond.static yX3_copyRow]
def wsX3_release_r3 : List Cond := [Cond.code yX3_copyRow cX3_copyRow 2 none, Cond.methodLink RX3 250 Lib.Math.min.name, Cond.static Lib.Math.min.name, Cond.initialized "java/lang/Math", Cond.code Lib.Math.min.name Lib.Math.min.code 2 (some .int), Cond.methodLink RX3 255 arraycopyName, Cond.native arraycopyName, Cond.static arraycopyName, Cond.initialized "java/lang/System", Cond.methodLink RX1 36 yX0_become, Cond.instanceMethod yX0_become, Cond.selects RX0 yX0_become yX0_become, Cond.code yX0_become cX0_become 2 none, Cond.fieldLink RX0 31 "Teleprompter$Script" "passages" "I", Cond.fieldLink RX0 34 "Teleprompter$Script" "wordsInPassage" "I", Cond.fieldLink RX0 37 "Teleprompter$Script" "rows" "I", Cond.fieldLink RX0 9 "Teleprompter$Script" "letters" "[I", Cond.fieldLink RX0 15 "Teleprompter$Script" "passageOf" "[I", Cond.fieldLink RX0 21 "Teleprompter$Script" "rowOf" "[I", Cond.fieldLink RX0 24 "Teleprompter$Script" "firstOfRow" "[I", Cond.methodLink RX1 40 yX2_become, Cond.instanceMethod yX2_become, Cond.selects RX2 yX2_become yX2_become, Cond.initialized RX2]
def wsX3_release_r4 : List Cond := [Cond.code yX2_become cX2_become 2 none, Cond.fieldLink RX2 18 "Teleprompter$Trail" "pairs" "I", Cond.fieldLink RX2 9 "Teleprompter$Trail" "times" "[I", Cond.fieldLink RX2 15 "Teleprompter$Trail" "positions" "[I", Cond.methodLink RX3 111 yX0_freeCue, Cond.instanceMethod yX0_freeCue, Cond.selects RX0 yX0_freeCue yX0_freeCue, Cond.code yX0_freeCue cX0_freeCue 2 none, Cond.static yX3_put, Cond.code yX3_put cX3_put 3 none]
def wsX3_release : List Cond := .code yX3_release cX3_release 2 (some .int) :: ((wsX3_release_r1 ++ (wsX3_release_r2 ++ (wsX3_release_r3 ++ wsX3_release_r4))) ++ wsX30 ++ wsX10 ++ wsX00 ++ wsX20)
def wsX3_place_r1 : List Cond := [Cond.fieldLink RX3 23 "Teleprompter" "now" "LTeleprompter$State;", Cond.fieldLink RX3 69 "Teleprompter$State" "script" "LTeleprompter$Script;", Cond.fieldLink RX3 100 "Teleprompter$State" "position" "I", Cond.methodLink RX3 115 yX0_has, Cond.instanceMethod yX0_has, Cond.selects RX0 yX0_has yX0_has, Cond.initialized RX0, Cond.code yX0_has cX0_has 2 (some .boolean), Cond.fieldLink RX0 27 "Teleprompter$Script" "words" "I", Cond.methodLink RX3 66 yX3_record, Cond.instanceMethod yX3_record, Cond.selects RX3 yX3_record yX3_record, Cond.initialized RX3, Cond.code yX3_record cX3_record 1 none, Cond.fieldLink RX3 121 "Teleprompter" "undoable" "I", Cond.fieldLink RX3 30 "Teleprompter" "history" "[LTeleprompter$State;", Cond.methodLink RX3 247 yX3_dropOldest, Cond.instanceMethod yX3_dropOldest, Cond.selects RX3 yX3_dropOldest yX3_dropOldest, Cond.code yX3_dropOldest cX3_dropOldest 3 none, Cond.methodLink RX3 124 yX3_stateAt, Cond.instanceMethod yX3_stateAt, Cond.selects RX3 yX3_stateAt yX3_stateAt, Cond.code yX3_stateAt cX3_stateAt 3 (some (.object "Teleprompter$State"))]
def wsX3_place_r2 : List Cond := [Cond.fieldLink RX3 27 "Teleprompter" "copy" "LTeleprompter$State;", Cond.methodLink RX3 128 yX1_become, Cond.instanceMethod yX1_become, Cond.selects RX1 yX1_become yX1_become, Cond.initialized RX1, Cond.code yX1_become cX1_become 2 none, Cond.fieldLink RX1 9 "Teleprompter$State" "settings" "[I", Cond.fieldLink RX1 18 "Teleprompter$State" "script" "LTeleprompter$Script;", Cond.fieldLink RX1 25 "Teleprompter$State" "trail" "LTeleprompter$Trail;", Cond.fieldLink RX1 29 "Teleprompter$State" "kept" "[I", Cond.fieldLink RX1 43 "Teleprompter$State" "keptCount" "I", Cond.fieldLink RX1 47 "Teleprompter$State" "position" "I", Cond.fieldLink RX1 50 "Teleprompter$State" "speed" "I", Cond.fieldLink RX1 53 "Teleprompter$State" "time" "I", Cond.fieldLink RX1 56 "Teleprompter$State" "heardTime" "I", Cond.fieldLink RX1 59 "Teleprompter$State" "top" "I", Cond.fieldLink RX1 62 "Teleprompter$State" "skips" "I", Cond.fieldLink RX1 65 "Teleprompter$State" "repeats" "I", Cond.fieldLink RX1 68 "Teleprompter$State" "misses" "I", Cond.fieldLink RX1 71 "Teleprompter$State" "jerks" "I", Cond.fieldLink RX1 74 "Teleprompter$State" "overruns" "I", Cond.static yX3_copyRow, Cond.code yX3_copyRow cX3_copyRow 2 none, Cond.methodLink RX3 250 Lib.Math.min.name]
def wsX3_place_r3 : List Cond := [Cond.static Lib.Math.min.name, Cond.initialized "java/lang/Math", Cond.code Lib.Math.min.name Lib.Math.min.code 2 (some .int), Cond.methodLink RX3 255 arraycopyName, Cond.native arraycopyName, Cond.static arraycopyName, Cond.initialized "java/lang/System", Cond.methodLink RX1 36 yX0_become, Cond.instanceMethod yX0_become, Cond.selects RX0 yX0_become yX0_become, Cond.code yX0_become cX0_become 2 none, Cond.fieldLink RX0 31 "Teleprompter$Script" "passages" "I", Cond.fieldLink RX0 34 "Teleprompter$Script" "wordsInPassage" "I", Cond.fieldLink RX0 37 "Teleprompter$Script" "rows" "I", Cond.fieldLink RX0 9 "Teleprompter$Script" "letters" "[I", Cond.fieldLink RX0 15 "Teleprompter$Script" "passageOf" "[I", Cond.fieldLink RX0 18 "Teleprompter$Script" "cues" "[I", Cond.fieldLink RX0 21 "Teleprompter$Script" "rowOf" "[I", Cond.fieldLink RX0 24 "Teleprompter$Script" "firstOfRow" "[I", Cond.methodLink RX1 40 yX2_become, Cond.instanceMethod yX2_become, Cond.selects RX2 yX2_become yX2_become, Cond.initialized RX2, Cond.code yX2_become cX2_become 2 none]
def wsX3_place_r4 : List Cond := [Cond.fieldLink RX2 18 "Teleprompter$Trail" "pairs" "I", Cond.fieldLink RX2 9 "Teleprompter$Trail" "times" "[I", Cond.fieldLink RX2 15 "Teleprompter$Trail" "positions" "[I", Cond.methodLink RX3 118 yX1_jump, Cond.instanceMethod yX1_jump, Cond.selects RX1 yX1_jump yX1_jump, Cond.code yX1_jump cX1_jump 2 none, Cond.methodLink RX1 85 yX2_empty, Cond.instanceMethod yX2_empty, Cond.selects RX2 yX2_empty yX2_empty, Cond.code yX2_empty cX2_empty 1 none, Cond.methodLink RX1 100 yX0_setCuesAround, Cond.instanceMethod yX0_setCuesAround, Cond.selects RX0 yX0_setCuesAround yX0_setCuesAround, Cond.code yX0_setCuesAround cX0_setCuesAround 3 none, Cond.static yX3_at, Cond.code yX3_at cX3_at 2 (some .int), Cond.static yX3_put, Cond.code yX3_put cX3_put 3 none]
def wsX3_place : List Cond := .code yX3_place cX3_place 3 (some .int) :: ((wsX3_place_r1 ++ (wsX3_place_r2 ++ (wsX3_place_r3 ++ wsX3_place_r4))) ++ wsX30 ++ wsX10 ++ wsX00 ++ wsX20)
def wsX3_undo_r1 : List Cond := [Cond.fieldLink RX3 121 "Teleprompter" "undoable" "I", Cond.fieldLink RX3 23 "Teleprompter" "now" "LTeleprompter$State;", Cond.fieldLink RX3 30 "Teleprompter" "history" "[LTeleprompter$State;", Cond.methodLink RX3 124 yX3_stateAt, Cond.instanceMethod yX3_stateAt, Cond.selects RX3 yX3_stateAt yX3_stateAt, Cond.initialized RX3, Cond.code yX3_stateAt cX3_stateAt 3 (some (.object "Teleprompter$State")), Cond.fieldLink RX3 27 "Teleprompter" "copy" "LTeleprompter$State;", Cond.methodLink RX3 128 yX1_become, Cond.instanceMethod yX1_become, Cond.selects RX1 yX1_become yX1_become, Cond.initialized RX1, Cond.code yX1_become cX1_become 2 none, Cond.fieldLink RX1 9 "Teleprompter$State" "settings" "[I", Cond.fieldLink RX1 18 "Teleprompter$State" "script" "LTeleprompter$Script;", Cond.fieldLink RX1 25 "Teleprompter$State" "trail" "LTeleprompter$Trail;", Cond.fieldLink RX1 29 "Teleprompter$State" "kept" "[I", Cond.fieldLink RX1 43 "Teleprompter$State" "keptCount" "I", Cond.fieldLink RX1 47 "Teleprompter$State" "position" "I", Cond.fieldLink RX1 50 "Teleprompter$State" "speed" "I", Cond.fieldLink RX1 53 "Teleprompter$State" "time" "I", Cond.fieldLink RX1 56 "Teleprompter$State" "heardTime" "I", Cond.fieldLink RX1 59 "Teleprompter$State" "top" "I"]
def wsX3_undo_r2 : List Cond := [Cond.fieldLink RX1 62 "Teleprompter$State" "skips" "I", Cond.fieldLink RX1 65 "Teleprompter$State" "repeats" "I", Cond.fieldLink RX1 68 "Teleprompter$State" "misses" "I", Cond.fieldLink RX1 71 "Teleprompter$State" "jerks" "I", Cond.fieldLink RX1 74 "Teleprompter$State" "overruns" "I", Cond.static yX3_copyRow, Cond.code yX3_copyRow cX3_copyRow 2 none, Cond.methodLink RX3 250 Lib.Math.min.name, Cond.static Lib.Math.min.name, Cond.initialized "java/lang/Math", Cond.code Lib.Math.min.name Lib.Math.min.code 2 (some .int), Cond.methodLink RX3 255 arraycopyName, Cond.native arraycopyName, Cond.static arraycopyName, Cond.initialized "java/lang/System", Cond.methodLink RX1 36 yX0_become, Cond.instanceMethod yX0_become, Cond.selects RX0 yX0_become yX0_become, Cond.initialized RX0, Cond.code yX0_become cX0_become 2 none, Cond.fieldLink RX0 27 "Teleprompter$Script" "words" "I", Cond.fieldLink RX0 31 "Teleprompter$Script" "passages" "I", Cond.fieldLink RX0 34 "Teleprompter$Script" "wordsInPassage" "I", Cond.fieldLink RX0 37 "Teleprompter$Script" "rows" "I"]
def wsX3_undo_r3 : List Cond := [Cond.fieldLink RX0 9 "Teleprompter$Script" "letters" "[I", Cond.fieldLink RX0 15 "Teleprompter$Script" "passageOf" "[I", Cond.fieldLink RX0 18 "Teleprompter$Script" "cues" "[I", Cond.fieldLink RX0 21 "Teleprompter$Script" "rowOf" "[I", Cond.fieldLink RX0 24 "Teleprompter$Script" "firstOfRow" "[I", Cond.methodLink RX1 40 yX2_become, Cond.instanceMethod yX2_become, Cond.selects RX2 yX2_become yX2_become, Cond.initialized RX2, Cond.code yX2_become cX2_become 2 none, Cond.fieldLink RX2 18 "Teleprompter$Trail" "pairs" "I", Cond.fieldLink RX2 9 "Teleprompter$Trail" "times" "[I", Cond.fieldLink RX2 15 "Teleprompter$Trail" "positions" "[I"]
def wsX3_undo : List Cond := .code yX3_undo cX3_undo 1 (some .int) :: ((wsX3_undo_r1 ++ (wsX3_undo_r2 ++ wsX3_undo_r3)) ++ wsX30 ++ wsX10 ++ wsX00 ++ wsX20)
def wsX3_write : List Cond := .code yX3_write cX3_write 2 (some .int) :: ([.fieldLink RX3 132 "Teleprompter" "textLength" "I", .fieldLink RX3 9 "Teleprompter" "text" "[I", .methodLink RX3 135 yX3_put, .static yX3_put, .initialized RX3, .code yX3_put cX3_put 3 none] ++ wsX30)
def wsX3_wipe : List Cond := .code yX3_wipe cX3_wipe 2 (some .int) :: ([.fieldLink RX3 132 "Teleprompter" "textLength" "I"] ++ wsX30)
def wsX3_fault : List Cond := .code yX3_fault cX3_fault 2 (some .int) :: ([.fieldLink RX3 139 "Teleprompter" "faultKind" "I", .fieldLink RX3 142 "Teleprompter" "faultPlace" "I"] ++ wsX30)
def wsX3_told_r1 : List Cond := [Cond.fieldLink RX3 23 "Teleprompter" "now" "LTeleprompter$State;", Cond.fieldLink RX3 69 "Teleprompter$State" "script" "LTeleprompter$Script;", Cond.fieldLink RX3 72 "Teleprompter$Script" "words" "I", Cond.fieldLink RX3 145 "Teleprompter$Script" "rows" "I", Cond.fieldLink RX3 148 "Teleprompter$Script" "passages" "I", Cond.fieldLink RX3 154 "Teleprompter$State" "time" "I", Cond.fieldLink RX3 100 "Teleprompter$State" "position" "I", Cond.fieldLink RX3 157 "Teleprompter$State" "speed" "I", Cond.fieldLink RX3 163 "Teleprompter$State" "top" "I", Cond.fieldLink RX3 169 "Teleprompter$State" "skips" "I", Cond.fieldLink RX3 172 "Teleprompter$State" "repeats" "I", Cond.fieldLink RX3 175 "Teleprompter$State" "misses" "I", Cond.fieldLink RX3 178 "Teleprompter$State" "jerks" "I", Cond.fieldLink RX3 181 "Teleprompter$State" "overruns" "I", Cond.fieldLink RX3 184 "Teleprompter$State" "trail" "LTeleprompter$Trail;", Cond.fieldLink RX3 188 "Teleprompter$Trail" "pairs" "I", Cond.fieldLink RX3 193 "Teleprompter$State" "keptCount" "I", Cond.fieldLink RX3 121 "Teleprompter" "undoable" "I", Cond.methodLink RX3 151 yX0_cueCount, Cond.instanceMethod yX0_cueCount, Cond.selects RX0 yX0_cueCount yX0_cueCount, Cond.initialized RX0, Cond.code yX0_cueCount cX0_cueCount 3 (some .int), Cond.fieldLink RX0 27 "Teleprompter$Script" "words" "I"]
def wsX3_told_r2 : List Cond := [Cond.fieldLink RX0 18 "Teleprompter$Script" "cues" "[I", Cond.static yX3_at, Cond.initialized RX3, Cond.code yX3_at cX3_at 2 (some .int), Cond.methodLink RX3 160 yX1_estimatedWord, Cond.instanceMethod yX1_estimatedWord, Cond.selects RX1 yX1_estimatedWord yX1_estimatedWord, Cond.initialized RX1, Cond.code yX1_estimatedWord cX1_estimatedWord 1 (some .int), Cond.methodLink RX1 164 yX1_holdingWord, Cond.instanceMethod yX1_holdingWord, Cond.selects RX1 yX1_holdingWord yX1_holdingWord, Cond.code yX1_holdingWord cX1_holdingWord 2 (some .int), Cond.fieldLink RX1 18 "Teleprompter$State" "script" "LTeleprompter$Script;", Cond.fieldLink RX1 123 "Teleprompter$Script" "words" "I", Cond.methodLink RX1 158 yX0_nextCue, Cond.instanceMethod yX0_nextCue, Cond.selects RX0 yX0_nextCue yX0_nextCue, Cond.code yX0_nextCue cX0_nextCue 2 (some .int), Cond.methodLink RX1 167 yX1_estimate, Cond.instanceMethod yX1_estimate, Cond.selects RX1 yX1_estimate yX1_estimate, Cond.code yX1_estimate cX1_estimate 7 (some .int), Cond.fieldLink RX1 53 "Teleprompter$State" "time" "I"]
def wsX3_told_r3 : List Cond := [Cond.fieldLink RX1 56 "Teleprompter$State" "heardTime" "I", Cond.fieldLink RX1 9 "Teleprompter$State" "settings" "[I", Cond.constantLong RX1 170 (100), Cond.fieldLink RX1 47 "Teleprompter$State" "position" "I", Cond.fieldLink RX1 50 "Teleprompter$State" "speed" "I", Cond.methodLink RX1 172 Lib.MathLoose.min_long.x, Cond.static Lib.MathLoose.min_long.x, Cond.initialized "java/lang/Math", Cond.code Lib.MathLoose.min_long.x Lib.MathLoose.min_long.code 4 (some .long), Cond.methodLink RX1 175 Lib.MathLoose.max_long.x, Cond.static Lib.MathLoose.max_long.x, Cond.code Lib.MathLoose.max_long.x Lib.MathLoose.max_long.code 4 (some .long), Cond.methodLink RX3 166 yX1_desiredTop, Cond.instanceMethod yX1_desiredTop, Cond.selects RX1 yX1_desiredTop yX1_desiredTop, Cond.code yX1_desiredTop cX1_desiredTop 3 (some .int), Cond.methodLink RX1 126 Lib.Math.min.name, Cond.static Lib.Math.min.name, Cond.code Lib.Math.min.name Lib.Math.min.code 2 (some .int), Cond.fieldLink RX1 180 "Teleprompter$Script" "rowOf" "[I", Cond.methodLink RX1 92 yX1_highestTop, Cond.instanceMethod yX1_highestTop, Cond.selects RX1 yX1_highestTop yX1_highestTop, Cond.code yX1_highestTop cX1_highestTop 1 (some .int)]
def wsX3_told_r4 : List Cond := [Cond.fieldLink RX1 177 "Teleprompter$Script" "rows" "I", Cond.methodLink RX1 117 Lib.Math.max.name, Cond.static Lib.Math.max.name, Cond.code Lib.Math.max.name Lib.Math.max.code 2 (some .int), Cond.static yX3_limited, Cond.code yX3_limited cX3_limited 3 (some .int), Cond.methodLink RX3 250 Lib.Math.min.name, Cond.methodLink RX3 261 Lib.Math.max.name, Cond.methodLink RX3 107 yX0_nextCue]
def wsX3_told : List Cond := .code yX3_told cX3_told 2 (some .int) :: ((wsX3_told_r1 ++ (wsX3_told_r2 ++ (wsX3_told_r3 ++ wsX3_told_r4))) ++ wsX30 ++ wsX10 ++ wsX00 ++ wsX20)
def wsX3_setting : List Cond := .code yX3_setting cX3_setting 2 (some .int) :: ([.fieldLink RX3 23 "Teleprompter" "now" "LTeleprompter$State;", .fieldLink RX3 44 "Teleprompter$State" "settings" "[I", .methodLink RX3 76 yX3_isSetting, .static yX3_isSetting, .initialized RX3, .code yX3_isSetting cX3_isSetting 1 (some .boolean), .methodLink RX3 83 yX3_at, .static yX3_at, .code yX3_at cX3_at 2 (some .int)] ++ wsX30 ++ wsX10)
def wsX3_word_r1 : List Cond := [Cond.fieldLink RX3 23 "Teleprompter" "now" "LTeleprompter$State;", Cond.fieldLink RX3 69 "Teleprompter$State" "script" "LTeleprompter$Script;", Cond.fieldLink RX3 196 "Teleprompter$Script" "letters" "[I", Cond.fieldLink RX3 199 "Teleprompter$Script" "rowOf" "[I", Cond.fieldLink RX3 202 "Teleprompter$Script" "passageOf" "[I", Cond.fieldLink RX3 205 "Teleprompter$Script" "cues" "[I", Cond.methodLink RX3 115 yX0_has, Cond.instanceMethod yX0_has, Cond.selects RX0 yX0_has yX0_has, Cond.initialized RX0, Cond.code yX0_has cX0_has 2 (some .boolean), Cond.fieldLink RX0 27 "Teleprompter$Script" "words" "I", Cond.methodLink RX3 83 yX3_at, Cond.static yX3_at, Cond.initialized RX3, Cond.code yX3_at cX3_at 2 (some .int), Cond.methodLink RX3 208 yX1_shows, Cond.instanceMethod yX1_shows, Cond.selects RX1 yX1_shows yX1_shows, Cond.initialized RX1, Cond.code yX1_shows cX1_shows 2 (some .boolean), Cond.fieldLink RX1 59 "Teleprompter$State" "top" "I", Cond.methodLink RX1 183 yX1_lowestShown, Cond.instanceMethod yX1_lowestShown]
def wsX3_word_r2 : List Cond := [Cond.selects RX1 yX1_lowestShown yX1_lowestShown, Cond.code yX1_lowestShown cX1_lowestShown 1 (some .int), Cond.fieldLink RX1 9 "Teleprompter$State" "settings" "[I"]
def wsX3_word : List Cond := .code yX3_word cX3_word 4 (some .int) :: ((wsX3_word_r1 ++ wsX3_word_r2) ++ wsX30 ++ wsX10 ++ wsX00)
def wsX3_row : List Cond := .code yX3_row cX3_row 3 (some .int) :: ([.fieldLink RX3 23 "Teleprompter" "now" "LTeleprompter$State;", .fieldLink RX3 69 "Teleprompter$State" "script" "LTeleprompter$Script;", .fieldLink RX3 145 "Teleprompter$Script" "rows" "I", .fieldLink RX3 211 "Teleprompter$Script" "firstOfRow" "[I", .methodLink RX3 83 yX3_at, .static yX3_at, .initialized RX3, .code yX3_at cX3_at 2 (some .int), .methodLink RX3 214 yX0_rowLength, .instanceMethod yX0_rowLength, .selects RX0 yX0_rowLength yX0_rowLength, .initialized RX0, .code yX0_rowLength cX0_rowLength 3 (some .int), .fieldLink RX0 37 "Teleprompter$Script" "rows" "I", .fieldLink RX0 24 "Teleprompter$Script" "firstOfRow" "[I", .fieldLink RX0 27 "Teleprompter$Script" "words" "I"] ++ wsX30 ++ wsX10 ++ wsX00)
def wsX3_heard : List Cond := .code yX3_heard cX3_heard 2 (some .int) :: ([.fieldLink RX3 23 "Teleprompter" "now" "LTeleprompter$State;", .fieldLink RX3 193 "Teleprompter$State" "keptCount" "I", .fieldLink RX3 217 "Teleprompter$State" "kept" "[I", .methodLink RX3 83 yX3_at, .static yX3_at, .initialized RX3, .code yX3_at cX3_at 2 (some .int)] ++ wsX30 ++ wsX10)
def wsX3_trail : List Cond := .code yX3_trail cX3_trail 3 (some .int) :: ([.fieldLink RX3 23 "Teleprompter" "now" "LTeleprompter$State;", .fieldLink RX3 184 "Teleprompter$State" "trail" "LTeleprompter$Trail;", .fieldLink RX3 188 "Teleprompter$Trail" "pairs" "I", .fieldLink RX3 220 "Teleprompter$Trail" "times" "[I", .fieldLink RX3 223 "Teleprompter$Trail" "positions" "[I", .methodLink RX3 83 yX3_at, .static yX3_at, .initialized RX3, .code yX3_at cX3_at 2 (some .int)] ++ wsX30 ++ wsX10 ++ wsX20)
def wsX3_score : List Cond := .code yX3_score cX3_score 2 (some .int) :: ([.fieldLink RX3 23 "Teleprompter" "now" "LTeleprompter$State;", .fieldLink RX3 69 "Teleprompter$State" "script" "LTeleprompter$Script;", .methodLink RX3 115 yX0_has, .instanceMethod yX0_has, .selects RX0 yX0_has yX0_has, .initialized RX0, .code yX0_has cX0_has 2 (some .boolean), .fieldLink RX0 27 "Teleprompter$Script" "words" "I", .methodLink RX3 226 yX1_points, .instanceMethod yX1_points, .selects RX1 yX1_points yX1_points, .initialized RX1, .code yX1_points cX1_points 3 (some .int), .fieldLink RX1 43 "Teleprompter$State" "keptCount" "I", .fieldLink RX1 29 "Teleprompter$State" "kept" "[I", .fieldLink RX1 18 "Teleprompter$State" "script" "LTeleprompter$Script;", .fieldLink RX1 129 "Teleprompter$Script" "letters" "[I", .static yX3_at, .initialized RX3, .code yX3_at cX3_at 2 (some .int)] ++ wsX30 ++ wsX10 ++ wsX00)
def wsX3_best_r1 : List Cond := [Cond.fieldLink RX3 23 "Teleprompter" "now" "LTeleprompter$State;", Cond.methodLink RX3 94 yX3_isLetter, Cond.static yX3_isLetter, Cond.initialized RX3, Cond.code yX3_isLetter cX3_isLetter 1 (some .boolean), Cond.methodLink RX3 229 yX1_bestCandidate, Cond.instanceMethod yX1_bestCandidate, Cond.selects RX1 yX1_bestCandidate yX1_bestCandidate, Cond.initialized RX1, Cond.code yX1_bestCandidate cX1_bestCandidate 6 (some .int), Cond.fieldLink RX1 47 "Teleprompter$State" "position" "I", Cond.fieldLink RX1 9 "Teleprompter$State" "settings" "[I", Cond.methodLink RX1 117 Lib.Math.max.name, Cond.static Lib.Math.max.name, Cond.initialized "java/lang/Math", Cond.code Lib.Math.max.name Lib.Math.max.code 2 (some .int), Cond.fieldLink RX1 18 "Teleprompter$State" "script" "LTeleprompter$Script;", Cond.fieldLink RX1 123 "Teleprompter$Script" "words" "I", Cond.methodLink RX1 126 Lib.Math.min.name, Cond.static Lib.Math.min.name, Cond.code Lib.Math.min.name Lib.Math.min.code 2 (some .int), Cond.fieldLink RX1 129 "Teleprompter$Script" "letters" "[I", Cond.static yX3_at, Cond.code yX3_at cX3_at 2 (some .int)]
def wsX3_best_r2 : List Cond := [Cond.methodLink RX1 132 yX1_isBetter, Cond.instanceMethod yX1_isBetter, Cond.selects RX1 yX1_isBetter yX1_isBetter, Cond.code yX1_isBetter cX1_isBetter 5 (some .boolean), Cond.methodLink RX1 139 Lib.Math.abs.name, Cond.static Lib.Math.abs.name, Cond.code Lib.Math.abs.name Lib.Math.abs.code 1 (some .int), Cond.methodLink RX1 136 yX1_points, Cond.instanceMethod yX1_points, Cond.selects RX1 yX1_points yX1_points, Cond.code yX1_points cX1_points 3 (some .int), Cond.fieldLink RX1 43 "Teleprompter$State" "keptCount" "I", Cond.fieldLink RX1 29 "Teleprompter$State" "kept" "[I", Cond.methodLink RX3 226 yX1_points, Cond.methodLink RX3 232 yX1_accepts, Cond.instanceMethod yX1_accepts, Cond.selects RX1 yX1_accepts yX1_accepts, Cond.code yX1_accepts cX1_accepts 2 (some .boolean)]
def wsX3_best : List Cond := .code yX3_best cX3_best 4 (some .int) :: ((wsX3_best_r1 ++ wsX3_best_r2) ++ wsX30 ++ wsX10 ++ wsX00)
def wsX3_unique : List Cond := .code yX3_unique cX3_unique 2 (some .int) :: ([.fieldLink RX3 23 "Teleprompter" "now" "LTeleprompter$State;", .fieldLink RX3 69 "Teleprompter$State" "script" "LTeleprompter$Script;", .methodLink RX3 115 yX0_has, .instanceMethod yX0_has, .selects RX0 yX0_has yX0_has, .initialized RX0, .code yX0_has cX0_has 2 (some .boolean), .fieldLink RX0 27 "Teleprompter$Script" "words" "I", .methodLink RX3 235 yX0_uniqueLength, .instanceMethod yX0_uniqueLength, .selects RX0 yX0_uniqueLength yX0_uniqueLength, .code yX0_uniqueLength cX0_uniqueLength 3 (some .int), .methodLink RX0 67 yX0_endsElsewhere, .instanceMethod yX0_endsElsewhere, .selects RX0 yX0_endsElsewhere yX0_endsElsewhere, .code yX0_endsElsewhere cX0_endsElsewhere 4 (some .boolean), .methodLink RX0 71 yX0_sameEnding, .instanceMethod yX0_sameEnding, .selects RX0 yX0_sameEnding yX0_sameEnding, .code yX0_sameEnding cX0_sameEnding 5 (some .boolean), .fieldLink RX0 9 "Teleprompter$Script" "letters" "[I", .static yX3_at, .initialized RX3, .code yX3_at cX3_at 2 (some .int)] ++ wsX30 ++ wsX10 ++ wsX00)
def wsX3_mean : List Cond := .code yX3_mean cX3_mean 2 (some .float) :: ([.fieldLink RX3 23 "Teleprompter" "now" "LTeleprompter$State;", .fieldLink RX3 69 "Teleprompter$State" "script" "LTeleprompter$Script;", .fieldLink RX3 145 "Teleprompter$Script" "rows" "I", .fieldLink RX3 72 "Teleprompter$Script" "words" "I"] ++ wsX30 ++ wsX10 ++ wsX00)
def wsX3_reached_r1 : List Cond := [Cond.fieldLink RX3 23 "Teleprompter" "now" "LTeleprompter$State;", Cond.fieldLink RX3 69 "Teleprompter$State" "script" "LTeleprompter$Script;", Cond.methodLink RX3 115 yX0_has, Cond.instanceMethod yX0_has, Cond.selects RX0 yX0_has yX0_has, Cond.initialized RX0, Cond.code yX0_has cX0_has 2 (some .boolean), Cond.fieldLink RX0 27 "Teleprompter$Script" "words" "I", Cond.methodLink RX3 238 yX1_ticksTo, Cond.instanceMethod yX1_ticksTo, Cond.selects RX1 yX1_ticksTo yX1_ticksTo, Cond.initialized RX1, Cond.code yX1_ticksTo cX1_ticksTo 4 (some .int), Cond.methodLink RX1 164 yX1_holdingWord, Cond.instanceMethod yX1_holdingWord, Cond.selects RX1 yX1_holdingWord yX1_holdingWord, Cond.code yX1_holdingWord cX1_holdingWord 2 (some .int), Cond.fieldLink RX1 18 "Teleprompter$State" "script" "LTeleprompter$Script;", Cond.fieldLink RX1 123 "Teleprompter$Script" "words" "I", Cond.methodLink RX1 158 yX0_nextCue, Cond.instanceMethod yX0_nextCue, Cond.selects RX0 yX0_nextCue yX0_nextCue, Cond.code yX0_nextCue cX0_nextCue 2 (some .int), Cond.fieldLink RX0 18 "Teleprompter$Script" "cues" "[I"]
def wsX3_reached_r2 : List Cond := [Cond.static yX3_at, Cond.initialized RX3, Cond.code yX3_at cX3_at 2 (some .int), Cond.methodLink RX1 167 yX1_estimate, Cond.instanceMethod yX1_estimate, Cond.selects RX1 yX1_estimate yX1_estimate, Cond.code yX1_estimate cX1_estimate 7 (some .int), Cond.fieldLink RX1 53 "Teleprompter$State" "time" "I", Cond.fieldLink RX1 56 "Teleprompter$State" "heardTime" "I", Cond.fieldLink RX1 9 "Teleprompter$State" "settings" "[I", Cond.constantLong RX1 170 (100), Cond.fieldLink RX1 47 "Teleprompter$State" "position" "I", Cond.fieldLink RX1 50 "Teleprompter$State" "speed" "I", Cond.methodLink RX1 172 Lib.MathLoose.min_long.x, Cond.static Lib.MathLoose.min_long.x, Cond.initialized "java/lang/Math", Cond.code Lib.MathLoose.min_long.x Lib.MathLoose.min_long.code 4 (some .long), Cond.methodLink RX1 175 Lib.MathLoose.max_long.x, Cond.static Lib.MathLoose.max_long.x, Cond.code Lib.MathLoose.max_long.x Lib.MathLoose.max_long.code 4 (some .long)]
def wsX3_reached : List Cond := .code yX3_reached cX3_reached 2 (some .int) :: ((wsX3_reached_r1 ++ wsX3_reached_r2) ++ wsX30 ++ wsX10 ++ wsX00)
def wsX3_rehearse_r1 : List Cond := [Cond.fieldLink RX3 27 "Teleprompter" "copy" "LTeleprompter$State;", Cond.fieldLink RX3 23 "Teleprompter" "now" "LTeleprompter$State;", Cond.fieldLink RX3 178 "Teleprompter$State" "jerks" "I", Cond.fieldLink RX3 169 "Teleprompter$State" "skips" "I", Cond.fieldLink RX3 172 "Teleprompter$State" "repeats" "I", Cond.fieldLink RX3 175 "Teleprompter$State" "misses" "I", Cond.fieldLink RX3 100 "Teleprompter$State" "position" "I", Cond.methodLink RX3 128 yX1_become, Cond.instanceMethod yX1_become, Cond.selects RX1 yX1_become yX1_become, Cond.initialized RX1, Cond.code yX1_become cX1_become 2 none, Cond.fieldLink RX1 9 "Teleprompter$State" "settings" "[I", Cond.fieldLink RX1 18 "Teleprompter$State" "script" "LTeleprompter$Script;", Cond.fieldLink RX1 25 "Teleprompter$State" "trail" "LTeleprompter$Trail;", Cond.fieldLink RX1 29 "Teleprompter$State" "kept" "[I", Cond.fieldLink RX1 43 "Teleprompter$State" "keptCount" "I", Cond.fieldLink RX1 47 "Teleprompter$State" "position" "I", Cond.fieldLink RX1 50 "Teleprompter$State" "speed" "I", Cond.fieldLink RX1 53 "Teleprompter$State" "time" "I", Cond.fieldLink RX1 56 "Teleprompter$State" "heardTime" "I", Cond.fieldLink RX1 59 "Teleprompter$State" "top" "I", Cond.fieldLink RX1 62 "Teleprompter$State" "skips" "I", Cond.fieldLink RX1 65 "Teleprompter$State" "repeats" "I"]
def wsX3_rehearse_r2 : List Cond := [Cond.fieldLink RX1 68 "Teleprompter$State" "misses" "I", Cond.fieldLink RX1 71 "Teleprompter$State" "jerks" "I", Cond.fieldLink RX1 74 "Teleprompter$State" "overruns" "I", Cond.static yX3_copyRow, Cond.initialized RX3, Cond.code yX3_copyRow cX3_copyRow 2 none, Cond.methodLink RX3 250 Lib.Math.min.name, Cond.static Lib.Math.min.name, Cond.initialized "java/lang/Math", Cond.code Lib.Math.min.name Lib.Math.min.code 2 (some .int), Cond.methodLink RX3 255 arraycopyName, Cond.native arraycopyName, Cond.static arraycopyName, Cond.initialized "java/lang/System", Cond.methodLink RX1 36 yX0_become, Cond.instanceMethod yX0_become, Cond.selects RX0 yX0_become yX0_become, Cond.initialized RX0, Cond.code yX0_become cX0_become 2 none, Cond.fieldLink RX0 27 "Teleprompter$Script" "words" "I", Cond.fieldLink RX0 31 "Teleprompter$Script" "passages" "I", Cond.fieldLink RX0 34 "Teleprompter$Script" "wordsInPassage" "I", Cond.fieldLink RX0 37 "Teleprompter$Script" "rows" "I", Cond.fieldLink RX0 9 "Teleprompter$Script" "letters" "[I"]
def wsX3_rehearse_r3 : List Cond := [Cond.fieldLink RX0 15 "Teleprompter$Script" "passageOf" "[I", Cond.fieldLink RX0 18 "Teleprompter$Script" "cues" "[I", Cond.fieldLink RX0 21 "Teleprompter$Script" "rowOf" "[I", Cond.fieldLink RX0 24 "Teleprompter$Script" "firstOfRow" "[I", Cond.methodLink RX1 40 yX2_become, Cond.instanceMethod yX2_become, Cond.selects RX2 yX2_become yX2_become, Cond.initialized RX2, Cond.code yX2_become cX2_become 2 none, Cond.fieldLink RX2 18 "Teleprompter$Trail" "pairs" "I", Cond.fieldLink RX2 9 "Teleprompter$Trail" "times" "[I", Cond.fieldLink RX2 15 "Teleprompter$Trail" "positions" "[I", Cond.methodLink RX3 241 yX1_readToEnd, Cond.instanceMethod yX1_readToEnd, Cond.selects RX1 yX1_readToEnd yX1_readToEnd, Cond.code yX1_readToEnd cX1_readToEnd 4 none, Cond.fieldLink RX1 123 "Teleprompter$Script" "words" "I", Cond.fieldLink RX1 129 "Teleprompter$Script" "letters" "[I", Cond.methodLink RX1 152 yX1_passTime, Cond.instanceMethod yX1_passTime, Cond.selects RX1 yX1_passTime yX1_passTime, Cond.code yX1_passTime cX1_passTime 5 (some .int), Cond.methodLink RX1 164 yX1_holdingWord, Cond.instanceMethod yX1_holdingWord]
def wsX3_rehearse_r4 : List Cond := [Cond.selects RX1 yX1_holdingWord yX1_holdingWord, Cond.code yX1_holdingWord cX1_holdingWord 2 (some .int), Cond.methodLink RX1 158 yX0_nextCue, Cond.instanceMethod yX0_nextCue, Cond.selects RX0 yX0_nextCue yX0_nextCue, Cond.code yX0_nextCue cX0_nextCue 2 (some .int), Cond.static yX3_at, Cond.code yX3_at cX3_at 2 (some .int), Cond.methodLink RX1 167 yX1_estimate, Cond.instanceMethod yX1_estimate, Cond.selects RX1 yX1_estimate yX1_estimate, Cond.code yX1_estimate cX1_estimate 7 (some .int), Cond.constantLong RX1 170 (100), Cond.methodLink RX1 172 Lib.MathLoose.min_long.x, Cond.static Lib.MathLoose.min_long.x, Cond.code Lib.MathLoose.min_long.x Lib.MathLoose.min_long.code 4 (some .long), Cond.methodLink RX1 175 Lib.MathLoose.max_long.x, Cond.static Lib.MathLoose.max_long.x, Cond.code Lib.MathLoose.max_long.x Lib.MathLoose.max_long.code 4 (some .long), Cond.methodLink RX1 186 yX1_scrollTo, Cond.instanceMethod yX1_scrollTo, Cond.selects RX1 yX1_scrollTo yX1_scrollTo, Cond.code yX1_scrollTo cX1_scrollTo 4 none, Cond.fieldLink RX1 180 "Teleprompter$Script" "rowOf" "[I"]
def wsX3_rehearse_r5 : List Cond := [Cond.methodLink RX1 189 yX1_desiredTop, Cond.instanceMethod yX1_desiredTop, Cond.selects RX1 yX1_desiredTop yX1_desiredTop, Cond.code yX1_desiredTop cX1_desiredTop 3 (some .int), Cond.methodLink RX1 126 Lib.Math.min.name, Cond.methodLink RX1 92 yX1_highestTop, Cond.instanceMethod yX1_highestTop, Cond.selects RX1 yX1_highestTop yX1_highestTop, Cond.code yX1_highestTop cX1_highestTop 1 (some .int), Cond.fieldLink RX1 177 "Teleprompter$Script" "rows" "I", Cond.methodLink RX1 117 Lib.Math.max.name, Cond.static Lib.Math.max.name, Cond.code Lib.Math.max.name Lib.Math.max.code 2 (some .int), Cond.static yX3_limited, Cond.code yX3_limited cX3_limited 3 (some .int), Cond.methodLink RX3 261 Lib.Math.max.name, Cond.methodLink RX1 192 yX1_shows, Cond.instanceMethod yX1_shows, Cond.selects RX1 yX1_shows yX1_shows, Cond.code yX1_shows cX1_shows 2 (some .boolean), Cond.methodLink RX1 183 yX1_lowestShown, Cond.instanceMethod yX1_lowestShown, Cond.selects RX1 yX1_lowestShown yX1_lowestShown, Cond.code yX1_lowestShown cX1_lowestShown 1 (some .int)]
def wsX3_rehearse_r6 : List Cond := [Cond.methodLink RX1 155 yX1_listen, Cond.instanceMethod yX1_listen, Cond.selects RX1 yX1_listen yX1_listen, Cond.code yX1_listen cX1_listen 4 (some .boolean), Cond.methodLink RX1 103 yX1_bestCandidate, Cond.instanceMethod yX1_bestCandidate, Cond.selects RX1 yX1_bestCandidate yX1_bestCandidate, Cond.code yX1_bestCandidate cX1_bestCandidate 6 (some .int), Cond.methodLink RX1 132 yX1_isBetter, Cond.instanceMethod yX1_isBetter, Cond.selects RX1 yX1_isBetter yX1_isBetter, Cond.code yX1_isBetter cX1_isBetter 5 (some .boolean), Cond.methodLink RX1 139 Lib.Math.abs.name, Cond.static Lib.Math.abs.name, Cond.code Lib.Math.abs.name Lib.Math.abs.code 1 (some .int), Cond.methodLink RX1 136 yX1_points, Cond.instanceMethod yX1_points, Cond.selects RX1 yX1_points yX1_points, Cond.code yX1_points cX1_points 3 (some .int), Cond.methodLink RX1 107 yX1_accepts, Cond.instanceMethod yX1_accepts, Cond.selects RX1 yX1_accepts yX1_accepts, Cond.code yX1_accepts cX1_accepts 2 (some .boolean), Cond.methodLink RX1 111 yX1_follow]
def wsX3_rehearse_r7 : List Cond := [Cond.instanceMethod yX1_follow, Cond.selects RX1 yX1_follow yX1_follow, Cond.code yX1_follow cX1_follow 2 none, Cond.methodLink RX1 85 yX2_empty, Cond.instanceMethod yX2_empty, Cond.selects RX2 yX2_empty yX2_empty, Cond.code yX2_empty cX2_empty 1 none, Cond.methodLink RX1 142 yX2_add, Cond.instanceMethod yX2_add, Cond.selects RX2 yX2_add yX2_add, Cond.code yX2_add cX2_add 7 none, Cond.static yX3_put, Cond.code yX3_put cX3_put 3 none, Cond.methodLink RX1 146 yX2_speedOr, Cond.instanceMethod yX2_speedOr, Cond.selects RX2 yX2_speedOr yX2_speedOr, Cond.code yX2_speedOr cX2_speedOr 3 (some .int), Cond.methodLink RX1 149 yX0_passWaitingBefore, Cond.instanceMethod yX0_passWaitingBefore, Cond.selects RX0 yX0_passWaitingBefore yX0_passWaitingBefore, Cond.code yX0_passWaitingBefore cX0_passWaitingBefore 4 (some .int), Cond.methodLink RX1 114 yX1_keepHeard, Cond.instanceMethod yX1_keepHeard, Cond.selects RX1 yX1_keepHeard yX1_keepHeard]
def wsX3_rehearse_r8 : List Cond := [Cond.code yX1_keepHeard cX1_keepHeard 3 none, Cond.methodLink RX1 161 yX0_freeCue, Cond.instanceMethod yX0_freeCue, Cond.selects RX0 yX0_freeCue yX0_freeCue, Cond.code yX0_freeCue cX0_freeCue 2 none]
def wsX3_rehearse : List Cond := .code yX3_rehearse cX3_rehearse 3 (some .int) :: ((wsX3_rehearse_r1 ++ (wsX3_rehearse_r2 ++ (wsX3_rehearse_r3 ++ (wsX3_rehearse_r4 ++ (wsX3_rehearse_r5 ++ (wsX3_rehearse_r6 ++ (wsX3_rehearse_r7 ++ wsX3_rehearse_r8))))))) ++ wsX30 ++ wsX10 ++ wsX00 ++ wsX20)
def wsX3_keep_r1 : List Cond := [Cond.fieldLink RX3 37 "Teleprompter" "imageKept" "[Z", Cond.fieldLink RX3 34 "Teleprompter" "images" "[LTeleprompter$State;", Cond.fieldLink RX3 23 "Teleprompter" "now" "LTeleprompter$State;", Cond.fieldLink RX3 100 "Teleprompter$State" "position" "I", Cond.methodLink RX3 124 yX3_stateAt, Cond.instanceMethod yX3_stateAt, Cond.selects RX3 yX3_stateAt yX3_stateAt, Cond.initialized RX3, Cond.code yX3_stateAt cX3_stateAt 3 (some (.object "Teleprompter$State")), Cond.fieldLink RX3 27 "Teleprompter" "copy" "LTeleprompter$State;", Cond.methodLink RX3 128 yX1_become, Cond.instanceMethod yX1_become, Cond.selects RX1 yX1_become yX1_become, Cond.initialized RX1, Cond.code yX1_become cX1_become 2 none, Cond.fieldLink RX1 9 "Teleprompter$State" "settings" "[I", Cond.fieldLink RX1 18 "Teleprompter$State" "script" "LTeleprompter$Script;", Cond.fieldLink RX1 25 "Teleprompter$State" "trail" "LTeleprompter$Trail;", Cond.fieldLink RX1 29 "Teleprompter$State" "kept" "[I", Cond.fieldLink RX1 43 "Teleprompter$State" "keptCount" "I", Cond.fieldLink RX1 47 "Teleprompter$State" "position" "I", Cond.fieldLink RX1 50 "Teleprompter$State" "speed" "I", Cond.fieldLink RX1 53 "Teleprompter$State" "time" "I", Cond.fieldLink RX1 56 "Teleprompter$State" "heardTime" "I"]
def wsX3_keep_r2 : List Cond := [Cond.fieldLink RX1 59 "Teleprompter$State" "top" "I", Cond.fieldLink RX1 62 "Teleprompter$State" "skips" "I", Cond.fieldLink RX1 65 "Teleprompter$State" "repeats" "I", Cond.fieldLink RX1 68 "Teleprompter$State" "misses" "I", Cond.fieldLink RX1 71 "Teleprompter$State" "jerks" "I", Cond.fieldLink RX1 74 "Teleprompter$State" "overruns" "I", Cond.static yX3_copyRow, Cond.code yX3_copyRow cX3_copyRow 2 none, Cond.methodLink RX3 250 Lib.Math.min.name, Cond.static Lib.Math.min.name, Cond.initialized "java/lang/Math", Cond.code Lib.Math.min.name Lib.Math.min.code 2 (some .int), Cond.methodLink RX3 255 arraycopyName, Cond.native arraycopyName, Cond.static arraycopyName, Cond.initialized "java/lang/System", Cond.methodLink RX1 36 yX0_become, Cond.instanceMethod yX0_become, Cond.selects RX0 yX0_become yX0_become, Cond.initialized RX0, Cond.code yX0_become cX0_become 2 none, Cond.fieldLink RX0 27 "Teleprompter$Script" "words" "I", Cond.fieldLink RX0 31 "Teleprompter$Script" "passages" "I", Cond.fieldLink RX0 34 "Teleprompter$Script" "wordsInPassage" "I"]
def wsX3_keep_r3 : List Cond := [Cond.fieldLink RX0 37 "Teleprompter$Script" "rows" "I", Cond.fieldLink RX0 9 "Teleprompter$Script" "letters" "[I", Cond.fieldLink RX0 15 "Teleprompter$Script" "passageOf" "[I", Cond.fieldLink RX0 18 "Teleprompter$Script" "cues" "[I", Cond.fieldLink RX0 21 "Teleprompter$Script" "rowOf" "[I", Cond.fieldLink RX0 24 "Teleprompter$Script" "firstOfRow" "[I", Cond.methodLink RX1 40 yX2_become, Cond.instanceMethod yX2_become, Cond.selects RX2 yX2_become yX2_become, Cond.initialized RX2, Cond.code yX2_become cX2_become 2 none, Cond.fieldLink RX2 18 "Teleprompter$Trail" "pairs" "I", Cond.fieldLink RX2 9 "Teleprompter$Trail" "times" "[I", Cond.fieldLink RX2 15 "Teleprompter$Trail" "positions" "[I"]
def wsX3_keep : List Cond := .code yX3_keep cX3_keep 2 (some .int) :: ((wsX3_keep_r1 ++ (wsX3_keep_r2 ++ wsX3_keep_r3)) ++ wsX30 ++ wsX10 ++ wsX00 ++ wsX20)
def wsX3_back_r1 : List Cond := [Cond.fieldLink RX3 37 "Teleprompter" "imageKept" "[Z", Cond.fieldLink RX3 23 "Teleprompter" "now" "LTeleprompter$State;", Cond.fieldLink RX3 34 "Teleprompter" "images" "[LTeleprompter$State;", Cond.fieldLink RX3 100 "Teleprompter$State" "position" "I", Cond.methodLink RX3 66 yX3_record, Cond.instanceMethod yX3_record, Cond.selects RX3 yX3_record yX3_record, Cond.initialized RX3, Cond.code yX3_record cX3_record 1 none, Cond.fieldLink RX3 121 "Teleprompter" "undoable" "I", Cond.fieldLink RX3 30 "Teleprompter" "history" "[LTeleprompter$State;", Cond.methodLink RX3 247 yX3_dropOldest, Cond.instanceMethod yX3_dropOldest, Cond.selects RX3 yX3_dropOldest yX3_dropOldest, Cond.code yX3_dropOldest cX3_dropOldest 3 none, Cond.methodLink RX3 124 yX3_stateAt, Cond.instanceMethod yX3_stateAt, Cond.selects RX3 yX3_stateAt yX3_stateAt, Cond.code yX3_stateAt cX3_stateAt 3 (some (.object "Teleprompter$State")), Cond.fieldLink RX3 27 "Teleprompter" "copy" "LTeleprompter$State;", Cond.methodLink RX3 128 yX1_become, Cond.instanceMethod yX1_become, Cond.selects RX1 yX1_become yX1_become, Cond.initialized RX1]
def wsX3_back_r2 : List Cond := [Cond.code yX1_become cX1_become 2 none, Cond.fieldLink RX1 9 "Teleprompter$State" "settings" "[I", Cond.fieldLink RX1 18 "Teleprompter$State" "script" "LTeleprompter$Script;", Cond.fieldLink RX1 25 "Teleprompter$State" "trail" "LTeleprompter$Trail;", Cond.fieldLink RX1 29 "Teleprompter$State" "kept" "[I", Cond.fieldLink RX1 43 "Teleprompter$State" "keptCount" "I", Cond.fieldLink RX1 47 "Teleprompter$State" "position" "I", Cond.fieldLink RX1 50 "Teleprompter$State" "speed" "I", Cond.fieldLink RX1 53 "Teleprompter$State" "time" "I", Cond.fieldLink RX1 56 "Teleprompter$State" "heardTime" "I", Cond.fieldLink RX1 59 "Teleprompter$State" "top" "I", Cond.fieldLink RX1 62 "Teleprompter$State" "skips" "I", Cond.fieldLink RX1 65 "Teleprompter$State" "repeats" "I", Cond.fieldLink RX1 68 "Teleprompter$State" "misses" "I", Cond.fieldLink RX1 71 "Teleprompter$State" "jerks" "I", Cond.fieldLink RX1 74 "Teleprompter$State" "overruns" "I", Cond.static yX3_copyRow, Cond.code yX3_copyRow cX3_copyRow 2 none, Cond.methodLink RX3 250 Lib.Math.min.name, Cond.static Lib.Math.min.name, Cond.initialized "java/lang/Math", Cond.code Lib.Math.min.name Lib.Math.min.code 2 (some .int), Cond.methodLink RX3 255 arraycopyName, Cond.native arraycopyName]
def wsX3_back_r3 : List Cond := [Cond.static arraycopyName, Cond.initialized "java/lang/System", Cond.methodLink RX1 36 yX0_become, Cond.instanceMethod yX0_become, Cond.selects RX0 yX0_become yX0_become, Cond.initialized RX0, Cond.code yX0_become cX0_become 2 none, Cond.fieldLink RX0 27 "Teleprompter$Script" "words" "I", Cond.fieldLink RX0 31 "Teleprompter$Script" "passages" "I", Cond.fieldLink RX0 34 "Teleprompter$Script" "wordsInPassage" "I", Cond.fieldLink RX0 37 "Teleprompter$Script" "rows" "I", Cond.fieldLink RX0 9 "Teleprompter$Script" "letters" "[I", Cond.fieldLink RX0 15 "Teleprompter$Script" "passageOf" "[I", Cond.fieldLink RX0 18 "Teleprompter$Script" "cues" "[I", Cond.fieldLink RX0 21 "Teleprompter$Script" "rowOf" "[I", Cond.fieldLink RX0 24 "Teleprompter$Script" "firstOfRow" "[I", Cond.methodLink RX1 40 yX2_become, Cond.instanceMethod yX2_become, Cond.selects RX2 yX2_become yX2_become, Cond.initialized RX2, Cond.code yX2_become cX2_become 2 none, Cond.fieldLink RX2 18 "Teleprompter$Trail" "pairs" "I", Cond.fieldLink RX2 9 "Teleprompter$Trail" "times" "[I", Cond.fieldLink RX2 15 "Teleprompter$Trail" "positions" "[I"]
def wsX3_back : List Cond := .code yX3_back cX3_back 2 (some .int) :: ((wsX3_back_r1 ++ (wsX3_back_r2 ++ wsX3_back_r3)) ++ wsX30 ++ wsX10 ++ wsX00 ++ wsX20)
def wsX4_layRows : List Cond := .code yX4_layRows cX4_layRows 4 none :: ([.fieldLink RX4 50 "TeleprompterModel" "rows" "I", .fieldLink RX4 7 "TeleprompterModel" "w" "[I", .fieldLink RX4 29 "TeleprompterModel" "rowOf" "[I"] ++ wsX40)
def wsX4_init : List Cond := .code yX4_init cX4_init 1 none :: ([.methodLink RX4 1 objectInit, .instanceMethod objectInit, .code objectInit ⟨#[0xb1]⟩ 1 none, .arrayClass .int, .fieldLink RX4 7 "TeleprompterModel" "w" "[I", .fieldLink RX4 13 "TeleprompterModel" "past" "[I", .fieldLink RX4 16 "TeleprompterModel" "images" "[I", .fieldLink RX4 19 "TeleprompterModel" "text" "[I", .fieldLink RX4 22 "TeleprompterModel" "faultKind" "I", .fieldLink RX4 26 "TeleprompterModel" "faultPlace" "I", .fieldLink RX4 29 "TeleprompterModel" "rowOf" "[I", .fieldLink RX4 32 "TeleprompterModel" "readLetter" "[I", .fieldLink RX4 35 "TeleprompterModel" "readCue" "[I", .fieldLink RX4 38 "TeleprompterModel" "readPassage" "[I", .fieldLink RX4 41 "TeleprompterModel" "held" "[I", .methodLink RX4 44 yX4_layRows, .instanceMethod yX4_layRows, .selects RX4 yX4_layRows yX4_layRows, .initialized RX4, .code yX4_layRows cX4_layRows 4 none, .fieldLink RX4 50 "TeleprompterModel" "rows" "I"] ++ wsX40)
def wsX4_isIn : List Cond := .code yX4_isIn cX4_isIn 3 (some .boolean) :: ([])
def wsX4_remember : List Cond := .code yX4_remember cX4_remember 2 none :: ([.fieldLink RX4 47 "TeleprompterModel" "pastMany" "I", .fieldLink RX4 13 "TeleprompterModel" "past" "[I", .fieldLink RX4 7 "TeleprompterModel" "w" "[I"] ++ wsX40)
def wsX4_greatestTop : List Cond := .code yX4_greatestTop cX4_greatestTop 1 (some .int) :: ([.fieldLink RX4 50 "TeleprompterModel" "rows" "I", .fieldLink RX4 7 "TeleprompterModel" "w" "[I"] ++ wsX40)
def wsX4_limited : List Cond := .code yX4_limited cX4_limited 2 (some .int) :: ([.methodLink RX4 53 yX4_greatestTop, .instanceMethod yX4_greatestTop, .selects RX4 yX4_greatestTop yX4_greatestTop, .initialized RX4, .code yX4_greatestTop cX4_greatestTop 1 (some .int), .fieldLink RX4 50 "TeleprompterModel" "rows" "I", .fieldLink RX4 7 "TeleprompterModel" "w" "[I"] ++ wsX40)
def wsX4_isWord : List Cond := .code yX4_isWord cX4_isWord 2 (some .boolean) :: ([.fieldLink RX4 7 "TeleprompterModel" "w" "[I", .methodLink RX4 57 yX4_isIn, .static yX4_isIn, .initialized RX4, .code yX4_isIn cX4_isIn 3 (some .boolean)] ++ wsX40)
def wsX4_isLetter : List Cond := .code yX4_isLetter cX4_isLetter 1 (some .boolean) :: ([.methodLink RX4 57 yX4_isIn, .static yX4_isIn, .initialized RX4, .code yX4_isIn cX4_isIn 3 (some .boolean)])
def wsX4_scoreOf : List Cond := .code yX4_scoreOf cX4_scoreOf 3 (some .int) :: ([.fieldLink RX4 7 "TeleprompterModel" "w" "[I"] ++ wsX40)
def wsX4_far : List Cond := .code yX4_far cX4_far 2 (some .int) :: ([.fieldLink RX4 7 "TeleprompterModel" "w" "[I"] ++ wsX40)
def wsX4_bestOf : List Cond := .code yX4_bestOf cX4_bestOf 5 (some .int) :: ([.fieldLink RX4 7 "TeleprompterModel" "w" "[I", .methodLink RX4 57 yX4_isIn, .static yX4_isIn, .initialized RX4, .code yX4_isIn cX4_isIn 3 (some .boolean), .methodLink RX4 61 yX4_scoreOf, .instanceMethod yX4_scoreOf, .selects RX4 yX4_scoreOf yX4_scoreOf, .code yX4_scoreOf cX4_scoreOf 3 (some .int), .methodLink RX4 65 yX4_far, .instanceMethod yX4_far, .selects RX4 yX4_far yX4_far, .code yX4_far cX4_far 2 (some .int)] ++ wsX40)
def wsX4_isAccepted : List Cond := .code yX4_isAccepted cX4_isAccepted 2 (some .boolean) :: ([.fieldLink RX4 7 "TeleprompterModel" "w" "[I", .methodLink RX4 61 yX4_scoreOf, .instanceMethod yX4_scoreOf, .selects RX4 yX4_scoreOf yX4_scoreOf, .initialized RX4, .code yX4_scoreOf cX4_scoreOf 3 (some .int)] ++ wsX40)
def wsX4_keepWord : List Cond := .code yX4_keepWord cX4_keepWord 3 none :: ([.fieldLink RX4 7 "TeleprompterModel" "w" "[I"] ++ wsX40)
def wsX4_leaveTrail : List Cond := .code yX4_leaveTrail cX4_leaveTrail 3 none :: ([.fieldLink RX4 7 "TeleprompterModel" "w" "[I"] ++ wsX40)
def wsX4_follow : List Cond := .code yX4_follow cX4_follow 3 none :: ([.fieldLink RX4 7 "TeleprompterModel" "w" "[I", .methodLink RX4 68 yX4_leaveTrail, .instanceMethod yX4_leaveTrail, .selects RX4 yX4_leaveTrail yX4_leaveTrail, .initialized RX4, .code yX4_leaveTrail cX4_leaveTrail 3 none] ++ wsX40)
def wsX4_hearNow_r1 : List Cond := [Cond.fieldLink RX4 7 "TeleprompterModel" "w" "[I", Cond.methodLink RX4 71 yX4_bestOf, Cond.instanceMethod yX4_bestOf, Cond.selects RX4 yX4_bestOf yX4_bestOf, Cond.initialized RX4, Cond.code yX4_bestOf cX4_bestOf 5 (some .int), Cond.methodLink RX4 57 yX4_isIn, Cond.static yX4_isIn, Cond.code yX4_isIn cX4_isIn 3 (some .boolean), Cond.methodLink RX4 61 yX4_scoreOf, Cond.instanceMethod yX4_scoreOf, Cond.selects RX4 yX4_scoreOf yX4_scoreOf, Cond.code yX4_scoreOf cX4_scoreOf 3 (some .int), Cond.methodLink RX4 65 yX4_far, Cond.instanceMethod yX4_far, Cond.selects RX4 yX4_far yX4_far, Cond.code yX4_far cX4_far 2 (some .int), Cond.methodLink RX4 74 yX4_isAccepted, Cond.instanceMethod yX4_isAccepted, Cond.selects RX4 yX4_isAccepted yX4_isAccepted, Cond.code yX4_isAccepted cX4_isAccepted 2 (some .boolean), Cond.methodLink RX4 78 yX4_follow, Cond.instanceMethod yX4_follow, Cond.selects RX4 yX4_follow yX4_follow]
def wsX4_hearNow_r2 : List Cond := [Cond.code yX4_follow cX4_follow 3 none, Cond.methodLink RX4 68 yX4_leaveTrail, Cond.instanceMethod yX4_leaveTrail, Cond.selects RX4 yX4_leaveTrail yX4_leaveTrail, Cond.code yX4_leaveTrail cX4_leaveTrail 3 none, Cond.methodLink RX4 82 yX4_keepWord, Cond.instanceMethod yX4_keepWord, Cond.selects RX4 yX4_keepWord yX4_keepWord, Cond.code yX4_keepWord cX4_keepWord 3 none]
def wsX4_hearNow : List Cond := .code yX4_hearNow cX4_hearNow 4 (some .int) :: ((wsX4_hearNow_r1 ++ wsX4_hearNow_r2) ++ wsX40)
def wsX4_nextCue : List Cond := .code yX4_nextCue cX4_nextCue 2 (some .int) :: ([.fieldLink RX4 7 "TeleprompterModel" "w" "[I"] ++ wsX40)
def wsX4_estimated : List Cond := .code yX4_estimated cX4_estimated 3 (some .int) :: ([.fieldLink RX4 7 "TeleprompterModel" "w" "[I", .methodLink RX4 85 yX4_nextCue, .instanceMethod yX4_nextCue, .selects RX4 yX4_nextCue yX4_nextCue, .initialized RX4, .code yX4_nextCue cX4_nextCue 2 (some .int)] ++ wsX40)
def wsX4_desired : List Cond := .code yX4_desired cX4_desired 2 (some .int) :: ([.fieldLink RX4 7 "TeleprompterModel" "w" "[I", .fieldLink RX4 29 "TeleprompterModel" "rowOf" "[I", .methodLink RX4 88 yX4_estimated, .instanceMethod yX4_estimated, .selects RX4 yX4_estimated yX4_estimated, .initialized RX4, .code yX4_estimated cX4_estimated 3 (some .int), .methodLink RX4 85 yX4_nextCue, .instanceMethod yX4_nextCue, .selects RX4 yX4_nextCue yX4_nextCue, .code yX4_nextCue cX4_nextCue 2 (some .int), .methodLink RX4 91 yX4_limited, .instanceMethod yX4_limited, .selects RX4 yX4_limited yX4_limited, .code yX4_limited cX4_limited 2 (some .int), .methodLink RX4 53 yX4_greatestTop, .instanceMethod yX4_greatestTop, .selects RX4 yX4_greatestTop yX4_greatestTop, .code yX4_greatestTop cX4_greatestTop 1 (some .int), .fieldLink RX4 50 "TeleprompterModel" "rows" "I"] ++ wsX40)
def wsX4_isShown : List Cond := .code yX4_isShown cX4_isShown 2 (some .boolean) :: ([.fieldLink RX4 7 "TeleprompterModel" "w" "[I"] ++ wsX40)
def wsX4_tickOnce_r1 : List Cond := [Cond.fieldLink RX4 7 "TeleprompterModel" "w" "[I", Cond.fieldLink RX4 29 "TeleprompterModel" "rowOf" "[I", Cond.methodLink RX4 94 yX4_desired, Cond.instanceMethod yX4_desired, Cond.selects RX4 yX4_desired yX4_desired, Cond.initialized RX4, Cond.code yX4_desired cX4_desired 2 (some .int), Cond.methodLink RX4 88 yX4_estimated, Cond.instanceMethod yX4_estimated, Cond.selects RX4 yX4_estimated yX4_estimated, Cond.code yX4_estimated cX4_estimated 3 (some .int), Cond.methodLink RX4 85 yX4_nextCue, Cond.instanceMethod yX4_nextCue, Cond.selects RX4 yX4_nextCue yX4_nextCue, Cond.code yX4_nextCue cX4_nextCue 2 (some .int), Cond.methodLink RX4 91 yX4_limited, Cond.instanceMethod yX4_limited, Cond.selects RX4 yX4_limited yX4_limited, Cond.code yX4_limited cX4_limited 2 (some .int), Cond.methodLink RX4 53 yX4_greatestTop, Cond.instanceMethod yX4_greatestTop, Cond.selects RX4 yX4_greatestTop yX4_greatestTop, Cond.code yX4_greatestTop cX4_greatestTop 1 (some .int), Cond.fieldLink RX4 50 "TeleprompterModel" "rows" "I"]
def wsX4_tickOnce_r2 : List Cond := [Cond.methodLink RX4 97 yX4_isShown, Cond.instanceMethod yX4_isShown, Cond.selects RX4 yX4_isShown yX4_isShown, Cond.code yX4_isShown cX4_isShown 2 (some .boolean)]
def wsX4_tickOnce : List Cond := .code yX4_tickOnce cX4_tickOnce 3 none :: ((wsX4_tickOnce_r1 ++ wsX4_tickOnce_r2) ++ wsX40)
def wsX4_releaseNext : List Cond := .code yX4_releaseNext cX4_releaseNext 2 (some .int) :: ([.fieldLink RX4 7 "TeleprompterModel" "w" "[I", .methodLink RX4 85 yX4_nextCue, .instanceMethod yX4_nextCue, .selects RX4 yX4_nextCue yX4_nextCue, .initialized RX4, .code yX4_nextCue cX4_nextCue 2 (some .int)] ++ wsX40)
def wsX4_fails : List Cond := .code yX4_fails cX4_fails 3 none :: ([.fieldLink RX4 100 "TeleprompterModel" "wrongKind" "I", .fieldLink RX4 103 "TeleprompterModel" "wrongPlace" "I"] ++ wsX40)
def wsX4_readWord : List Cond := .code yX4_readWord cX4_readWord 2 none :: ([.fieldLink RX4 106 "TeleprompterModel" "readWords" "I", .fieldLink RX4 32 "TeleprompterModel" "readLetter" "[I", .fieldLink RX4 19 "TeleprompterModel" "text" "[I", .fieldLink RX4 35 "TeleprompterModel" "readCue" "[I", .fieldLink RX4 38 "TeleprompterModel" "readPassage" "[I", .fieldLink RX4 113 "TeleprompterModel" "readPassages" "I", .methodLink RX4 109 yX4_fails, .instanceMethod yX4_fails, .selects RX4 yX4_fails yX4_fails, .initialized RX4, .code yX4_fails cX4_fails 3 none, .fieldLink RX4 100 "TeleprompterModel" "wrongKind" "I", .fieldLink RX4 103 "TeleprompterModel" "wrongPlace" "I"] ++ wsX40)
def wsX4_hasWord : List Cond := .code yX4_hasWord cX4_hasWord 1 (some .boolean) :: ([.fieldLink RX4 106 "TeleprompterModel" "readWords" "I", .fieldLink RX4 38 "TeleprompterModel" "readPassage" "[I", .fieldLink RX4 113 "TeleprompterModel" "readPassages" "I"] ++ wsX40)
def wsX4_readByte_r1 : List Cond := [Cond.fieldLink RX4 19 "TeleprompterModel" "text" "[I", Cond.fieldLink RX4 35 "TeleprompterModel" "readCue" "[I", Cond.fieldLink RX4 106 "TeleprompterModel" "readWords" "I", Cond.fieldLink RX4 113 "TeleprompterModel" "readPassages" "I", Cond.methodLink RX4 116 yX4_isLetter, Cond.static yX4_isLetter, Cond.initialized RX4, Cond.code yX4_isLetter cX4_isLetter 1 (some .boolean), Cond.methodLink RX4 57 yX4_isIn, Cond.static yX4_isIn, Cond.code yX4_isIn cX4_isIn 3 (some .boolean), Cond.methodLink RX4 119 yX4_readWord, Cond.instanceMethod yX4_readWord, Cond.selects RX4 yX4_readWord yX4_readWord, Cond.code yX4_readWord cX4_readWord 2 none, Cond.fieldLink RX4 32 "TeleprompterModel" "readLetter" "[I", Cond.fieldLink RX4 38 "TeleprompterModel" "readPassage" "[I", Cond.methodLink RX4 109 yX4_fails, Cond.instanceMethod yX4_fails, Cond.selects RX4 yX4_fails yX4_fails, Cond.code yX4_fails cX4_fails 3 none, Cond.fieldLink RX4 100 "TeleprompterModel" "wrongKind" "I", Cond.fieldLink RX4 103 "TeleprompterModel" "wrongPlace" "I", Cond.methodLink RX4 122 yX4_hasWord]
def wsX4_readByte_r2 : List Cond := [Cond.instanceMethod yX4_hasWord, Cond.selects RX4 yX4_hasWord yX4_hasWord, Cond.code yX4_hasWord cX4_hasWord 1 (some .boolean)]
def wsX4_readByte : List Cond := .code yX4_readByte cX4_readByte 3 none :: ((wsX4_readByte_r1 ++ wsX4_readByte_r2) ++ wsX40)
def wsX4_readText_r1 : List Cond := [Cond.fieldLink RX4 106 "TeleprompterModel" "readWords" "I", Cond.fieldLink RX4 113 "TeleprompterModel" "readPassages" "I", Cond.fieldLink RX4 126 "TeleprompterModel" "length" "I", Cond.fieldLink RX4 100 "TeleprompterModel" "wrongKind" "I", Cond.methodLink RX4 109 yX4_fails, Cond.instanceMethod yX4_fails, Cond.selects RX4 yX4_fails yX4_fails, Cond.initialized RX4, Cond.code yX4_fails cX4_fails 3 none, Cond.fieldLink RX4 103 "TeleprompterModel" "wrongPlace" "I", Cond.methodLink RX4 129 yX4_readByte, Cond.instanceMethod yX4_readByte, Cond.selects RX4 yX4_readByte yX4_readByte, Cond.code yX4_readByte cX4_readByte 3 none, Cond.fieldLink RX4 19 "TeleprompterModel" "text" "[I", Cond.fieldLink RX4 35 "TeleprompterModel" "readCue" "[I", Cond.methodLink RX4 116 yX4_isLetter, Cond.static yX4_isLetter, Cond.code yX4_isLetter cX4_isLetter 1 (some .boolean), Cond.methodLink RX4 57 yX4_isIn, Cond.static yX4_isIn, Cond.code yX4_isIn cX4_isIn 3 (some .boolean), Cond.methodLink RX4 119 yX4_readWord, Cond.instanceMethod yX4_readWord]
def wsX4_readText_r2 : List Cond := [Cond.selects RX4 yX4_readWord yX4_readWord, Cond.code yX4_readWord cX4_readWord 2 none, Cond.fieldLink RX4 32 "TeleprompterModel" "readLetter" "[I", Cond.fieldLink RX4 38 "TeleprompterModel" "readPassage" "[I", Cond.methodLink RX4 122 yX4_hasWord, Cond.instanceMethod yX4_hasWord, Cond.selects RX4 yX4_hasWord yX4_hasWord, Cond.code yX4_hasWord cX4_hasWord 1 (some .boolean)]
def wsX4_readText : List Cond := .code yX4_readText cX4_readText 2 none :: ((wsX4_readText_r1 ++ wsX4_readText_r2) ++ wsX40)
def wsX4_load_r1 : List Cond := [Cond.fieldLink RX4 100 "TeleprompterModel" "wrongKind" "I", Cond.fieldLink RX4 22 "TeleprompterModel" "faultKind" "I", Cond.fieldLink RX4 103 "TeleprompterModel" "wrongPlace" "I", Cond.fieldLink RX4 26 "TeleprompterModel" "faultPlace" "I", Cond.fieldLink RX4 7 "TeleprompterModel" "w" "[I", Cond.fieldLink RX4 106 "TeleprompterModel" "readWords" "I", Cond.fieldLink RX4 32 "TeleprompterModel" "readLetter" "[I", Cond.fieldLink RX4 35 "TeleprompterModel" "readCue" "[I", Cond.fieldLink RX4 38 "TeleprompterModel" "readPassage" "[I", Cond.methodLink RX4 132 yX4_readText, Cond.instanceMethod yX4_readText, Cond.selects RX4 yX4_readText yX4_readText, Cond.initialized RX4, Cond.code yX4_readText cX4_readText 2 none, Cond.fieldLink RX4 113 "TeleprompterModel" "readPassages" "I", Cond.fieldLink RX4 126 "TeleprompterModel" "length" "I", Cond.methodLink RX4 109 yX4_fails, Cond.instanceMethod yX4_fails, Cond.selects RX4 yX4_fails yX4_fails, Cond.code yX4_fails cX4_fails 3 none, Cond.methodLink RX4 129 yX4_readByte, Cond.instanceMethod yX4_readByte, Cond.selects RX4 yX4_readByte yX4_readByte, Cond.code yX4_readByte cX4_readByte 3 none]
def wsX4_load_r2 : List Cond := [Cond.fieldLink RX4 19 "TeleprompterModel" "text" "[I", Cond.methodLink RX4 116 yX4_isLetter, Cond.static yX4_isLetter, Cond.code yX4_isLetter cX4_isLetter 1 (some .boolean), Cond.methodLink RX4 57 yX4_isIn, Cond.static yX4_isIn, Cond.code yX4_isIn cX4_isIn 3 (some .boolean), Cond.methodLink RX4 119 yX4_readWord, Cond.instanceMethod yX4_readWord, Cond.selects RX4 yX4_readWord yX4_readWord, Cond.code yX4_readWord cX4_readWord 2 none, Cond.methodLink RX4 122 yX4_hasWord, Cond.instanceMethod yX4_hasWord, Cond.selects RX4 yX4_hasWord yX4_hasWord, Cond.code yX4_hasWord cX4_hasWord 1 (some .boolean), Cond.methodLink RX4 135 yX4_remember, Cond.instanceMethod yX4_remember, Cond.selects RX4 yX4_remember yX4_remember, Cond.code yX4_remember cX4_remember 2 none, Cond.fieldLink RX4 47 "TeleprompterModel" "pastMany" "I", Cond.fieldLink RX4 13 "TeleprompterModel" "past" "[I", Cond.methodLink RX4 44 yX4_layRows, Cond.instanceMethod yX4_layRows, Cond.selects RX4 yX4_layRows yX4_layRows]
def wsX4_load_r3 : List Cond := [Cond.code yX4_layRows cX4_layRows 4 none, Cond.fieldLink RX4 50 "TeleprompterModel" "rows" "I", Cond.fieldLink RX4 29 "TeleprompterModel" "rowOf" "[I"]
def wsX4_load : List Cond := .code yX4_load cX4_load 2 (some .int) :: ((wsX4_load_r1 ++ (wsX4_load_r2 ++ wsX4_load_r3)) ++ wsX40)
def wsX4_write : List Cond := .code yX4_write cX4_write 2 (some .int) :: ([.fieldLink RX4 126 "TeleprompterModel" "length" "I", .fieldLink RX4 19 "TeleprompterModel" "text" "[I", .methodLink RX4 57 yX4_isIn, .static yX4_isIn, .initialized RX4, .code yX4_isIn cX4_isIn 3 (some .boolean)] ++ wsX40)
def wsX4_wipe : List Cond := .code yX4_wipe cX4_wipe 2 (some .int) :: ([.fieldLink RX4 126 "TeleprompterModel" "length" "I"] ++ wsX40)
def wsX4_fault : List Cond := .code yX4_fault cX4_fault 2 (some .int) :: ([.fieldLink RX4 22 "TeleprompterModel" "faultKind" "I", .fieldLink RX4 26 "TeleprompterModel" "faultPlace" "I"] ++ wsX40)
def wsX4_isOf : List Cond := .code yX4_isOf cX4_isOf 2 (some .boolean) :: ([.methodLink RX4 57 yX4_isIn, .static yX4_isIn, .initialized RX4, .code yX4_isIn cX4_isIn 3 (some .boolean)])
def wsX4_set_r1 : List Cond := [Cond.fieldLink RX4 7 "TeleprompterModel" "w" "[I", Cond.methodLink RX4 138 yX4_isOf, Cond.static yX4_isOf, Cond.initialized RX4, Cond.code yX4_isOf cX4_isOf 2 (some .boolean), Cond.methodLink RX4 57 yX4_isIn, Cond.static yX4_isIn, Cond.code yX4_isIn cX4_isIn 3 (some .boolean), Cond.methodLink RX4 135 yX4_remember, Cond.instanceMethod yX4_remember, Cond.selects RX4 yX4_remember yX4_remember, Cond.code yX4_remember cX4_remember 2 none, Cond.fieldLink RX4 47 "TeleprompterModel" "pastMany" "I", Cond.fieldLink RX4 13 "TeleprompterModel" "past" "[I", Cond.methodLink RX4 44 yX4_layRows, Cond.instanceMethod yX4_layRows, Cond.selects RX4 yX4_layRows yX4_layRows, Cond.code yX4_layRows cX4_layRows 4 none, Cond.fieldLink RX4 50 "TeleprompterModel" "rows" "I", Cond.fieldLink RX4 29 "TeleprompterModel" "rowOf" "[I", Cond.methodLink RX4 91 yX4_limited, Cond.instanceMethod yX4_limited, Cond.selects RX4 yX4_limited yX4_limited, Cond.code yX4_limited cX4_limited 2 (some .int)]
def wsX4_set_r2 : List Cond := [Cond.methodLink RX4 53 yX4_greatestTop, Cond.instanceMethod yX4_greatestTop, Cond.selects RX4 yX4_greatestTop yX4_greatestTop, Cond.code yX4_greatestTop cX4_greatestTop 1 (some .int)]
def wsX4_set : List Cond := .code yX4_set cX4_set 4 (some .int) :: ((wsX4_set_r1 ++ wsX4_set_r2) ++ wsX40)
def wsX4_hear_r1 : List Cond := [Cond.methodLink RX4 116 yX4_isLetter, Cond.static yX4_isLetter, Cond.initialized RX4, Cond.code yX4_isLetter cX4_isLetter 1 (some .boolean), Cond.methodLink RX4 57 yX4_isIn, Cond.static yX4_isIn, Cond.code yX4_isIn cX4_isIn 3 (some .boolean), Cond.methodLink RX4 135 yX4_remember, Cond.instanceMethod yX4_remember, Cond.selects RX4 yX4_remember yX4_remember, Cond.code yX4_remember cX4_remember 2 none, Cond.fieldLink RX4 47 "TeleprompterModel" "pastMany" "I", Cond.fieldLink RX4 13 "TeleprompterModel" "past" "[I", Cond.fieldLink RX4 7 "TeleprompterModel" "w" "[I", Cond.methodLink RX4 142 yX4_hearNow, Cond.instanceMethod yX4_hearNow, Cond.selects RX4 yX4_hearNow yX4_hearNow, Cond.code yX4_hearNow cX4_hearNow 4 (some .int), Cond.methodLink RX4 71 yX4_bestOf, Cond.instanceMethod yX4_bestOf, Cond.selects RX4 yX4_bestOf yX4_bestOf, Cond.code yX4_bestOf cX4_bestOf 5 (some .int), Cond.methodLink RX4 61 yX4_scoreOf, Cond.instanceMethod yX4_scoreOf]
def wsX4_hear_r2 : List Cond := [Cond.selects RX4 yX4_scoreOf yX4_scoreOf, Cond.code yX4_scoreOf cX4_scoreOf 3 (some .int), Cond.methodLink RX4 65 yX4_far, Cond.instanceMethod yX4_far, Cond.selects RX4 yX4_far yX4_far, Cond.code yX4_far cX4_far 2 (some .int), Cond.methodLink RX4 74 yX4_isAccepted, Cond.instanceMethod yX4_isAccepted, Cond.selects RX4 yX4_isAccepted yX4_isAccepted, Cond.code yX4_isAccepted cX4_isAccepted 2 (some .boolean), Cond.methodLink RX4 78 yX4_follow, Cond.instanceMethod yX4_follow, Cond.selects RX4 yX4_follow yX4_follow, Cond.code yX4_follow cX4_follow 3 none, Cond.methodLink RX4 68 yX4_leaveTrail, Cond.instanceMethod yX4_leaveTrail, Cond.selects RX4 yX4_leaveTrail yX4_leaveTrail, Cond.code yX4_leaveTrail cX4_leaveTrail 3 none, Cond.methodLink RX4 82 yX4_keepWord, Cond.instanceMethod yX4_keepWord, Cond.selects RX4 yX4_keepWord yX4_keepWord, Cond.code yX4_keepWord cX4_keepWord 3 none]
def wsX4_hear : List Cond := .code yX4_hear cX4_hear 2 (some .int) :: ((wsX4_hear_r1 ++ wsX4_hear_r2) ++ wsX40)
def wsX4_tick_r1 : List Cond := [Cond.fieldLink RX4 7 "TeleprompterModel" "w" "[I", Cond.methodLink RX4 57 yX4_isIn, Cond.static yX4_isIn, Cond.initialized RX4, Cond.code yX4_isIn cX4_isIn 3 (some .boolean), Cond.methodLink RX4 135 yX4_remember, Cond.instanceMethod yX4_remember, Cond.selects RX4 yX4_remember yX4_remember, Cond.code yX4_remember cX4_remember 2 none, Cond.fieldLink RX4 47 "TeleprompterModel" "pastMany" "I", Cond.fieldLink RX4 13 "TeleprompterModel" "past" "[I", Cond.methodLink RX4 145 yX4_tickOnce, Cond.instanceMethod yX4_tickOnce, Cond.selects RX4 yX4_tickOnce yX4_tickOnce, Cond.code yX4_tickOnce cX4_tickOnce 3 none, Cond.fieldLink RX4 29 "TeleprompterModel" "rowOf" "[I", Cond.methodLink RX4 94 yX4_desired, Cond.instanceMethod yX4_desired, Cond.selects RX4 yX4_desired yX4_desired, Cond.code yX4_desired cX4_desired 2 (some .int), Cond.methodLink RX4 88 yX4_estimated, Cond.instanceMethod yX4_estimated, Cond.selects RX4 yX4_estimated yX4_estimated, Cond.code yX4_estimated cX4_estimated 3 (some .int)]
def wsX4_tick_r2 : List Cond := [Cond.methodLink RX4 85 yX4_nextCue, Cond.instanceMethod yX4_nextCue, Cond.selects RX4 yX4_nextCue yX4_nextCue, Cond.code yX4_nextCue cX4_nextCue 2 (some .int), Cond.methodLink RX4 91 yX4_limited, Cond.instanceMethod yX4_limited, Cond.selects RX4 yX4_limited yX4_limited, Cond.code yX4_limited cX4_limited 2 (some .int), Cond.methodLink RX4 53 yX4_greatestTop, Cond.instanceMethod yX4_greatestTop, Cond.selects RX4 yX4_greatestTop yX4_greatestTop, Cond.code yX4_greatestTop cX4_greatestTop 1 (some .int), Cond.fieldLink RX4 50 "TeleprompterModel" "rows" "I", Cond.methodLink RX4 97 yX4_isShown, Cond.instanceMethod yX4_isShown, Cond.selects RX4 yX4_isShown yX4_isShown, Cond.code yX4_isShown cX4_isShown 2 (some .boolean)]
def wsX4_tick : List Cond := .code yX4_tick cX4_tick 4 (some .int) :: ((wsX4_tick_r1 ++ wsX4_tick_r2) ++ wsX40)
def wsX4_release : List Cond := .code yX4_release cX4_release 1 (some .int) :: ([.methodLink RX4 85 yX4_nextCue, .instanceMethod yX4_nextCue, .selects RX4 yX4_nextCue yX4_nextCue, .initialized RX4, .code yX4_nextCue cX4_nextCue 2 (some .int), .fieldLink RX4 7 "TeleprompterModel" "w" "[I", .methodLink RX4 135 yX4_remember, .instanceMethod yX4_remember, .selects RX4 yX4_remember yX4_remember, .code yX4_remember cX4_remember 2 none, .fieldLink RX4 47 "TeleprompterModel" "pastMany" "I", .fieldLink RX4 13 "TeleprompterModel" "past" "[I", .methodLink RX4 148 yX4_releaseNext, .instanceMethod yX4_releaseNext, .selects RX4 yX4_releaseNext yX4_releaseNext, .code yX4_releaseNext cX4_releaseNext 2 (some .int)] ++ wsX40)
def wsX4_place : List Cond := .code yX4_place cX4_place 4 (some .int) :: ([.fieldLink RX4 7 "TeleprompterModel" "w" "[I", .methodLink RX4 151 yX4_isWord, .instanceMethod yX4_isWord, .selects RX4 yX4_isWord yX4_isWord, .initialized RX4, .code yX4_isWord cX4_isWord 2 (some .boolean), .methodLink RX4 57 yX4_isIn, .static yX4_isIn, .code yX4_isIn cX4_isIn 3 (some .boolean), .methodLink RX4 135 yX4_remember, .instanceMethod yX4_remember, .selects RX4 yX4_remember yX4_remember, .code yX4_remember cX4_remember 2 none, .fieldLink RX4 47 "TeleprompterModel" "pastMany" "I", .fieldLink RX4 13 "TeleprompterModel" "past" "[I"] ++ wsX40)
def wsX4_undo : List Cond := .code yX4_undo cX4_undo 2 (some .int) :: ([.fieldLink RX4 47 "TeleprompterModel" "pastMany" "I", .fieldLink RX4 7 "TeleprompterModel" "w" "[I", .fieldLink RX4 13 "TeleprompterModel" "past" "[I", .methodLink RX4 44 yX4_layRows, .instanceMethod yX4_layRows, .selects RX4 yX4_layRows yX4_layRows, .initialized RX4, .code yX4_layRows cX4_layRows 4 none, .fieldLink RX4 50 "TeleprompterModel" "rows" "I", .fieldLink RX4 29 "TeleprompterModel" "rowOf" "[I"] ++ wsX40)
def wsX4_cues : List Cond := .code yX4_cues cX4_cues 3 (some .int) :: ([.fieldLink RX4 7 "TeleprompterModel" "w" "[I"] ++ wsX40)
def wsX4_told_r1 : List Cond := [Cond.fieldLink RX4 7 "TeleprompterModel" "w" "[I", Cond.fieldLink RX4 50 "TeleprompterModel" "rows" "I", Cond.fieldLink RX4 47 "TeleprompterModel" "pastMany" "I", Cond.methodLink RX4 154 yX4_cues, Cond.instanceMethod yX4_cues, Cond.selects RX4 yX4_cues yX4_cues, Cond.initialized RX4, Cond.code yX4_cues cX4_cues 3 (some .int), Cond.methodLink RX4 88 yX4_estimated, Cond.instanceMethod yX4_estimated, Cond.selects RX4 yX4_estimated yX4_estimated, Cond.code yX4_estimated cX4_estimated 3 (some .int), Cond.methodLink RX4 85 yX4_nextCue, Cond.instanceMethod yX4_nextCue, Cond.selects RX4 yX4_nextCue yX4_nextCue, Cond.code yX4_nextCue cX4_nextCue 2 (some .int), Cond.methodLink RX4 94 yX4_desired, Cond.instanceMethod yX4_desired, Cond.selects RX4 yX4_desired yX4_desired, Cond.code yX4_desired cX4_desired 2 (some .int), Cond.fieldLink RX4 29 "TeleprompterModel" "rowOf" "[I", Cond.methodLink RX4 91 yX4_limited, Cond.instanceMethod yX4_limited, Cond.selects RX4 yX4_limited yX4_limited]
def wsX4_told_r2 : List Cond := [Cond.code yX4_limited cX4_limited 2 (some .int), Cond.methodLink RX4 53 yX4_greatestTop, Cond.instanceMethod yX4_greatestTop, Cond.selects RX4 yX4_greatestTop yX4_greatestTop, Cond.code yX4_greatestTop cX4_greatestTop 1 (some .int)]
def wsX4_told : List Cond := .code yX4_told cX4_told 2 (some .int) :: ((wsX4_told_r1 ++ wsX4_told_r2) ++ wsX40)
def wsX4_setting : List Cond := .code yX4_setting cX4_setting 2 (some .int) :: ([.fieldLink RX4 7 "TeleprompterModel" "w" "[I", .methodLink RX4 57 yX4_isIn, .static yX4_isIn, .initialized RX4, .code yX4_isIn cX4_isIn 3 (some .boolean)] ++ wsX40)
def wsX4_word : List Cond := .code yX4_word cX4_word 3 (some .int) :: ([.fieldLink RX4 7 "TeleprompterModel" "w" "[I", .fieldLink RX4 29 "TeleprompterModel" "rowOf" "[I", .methodLink RX4 151 yX4_isWord, .instanceMethod yX4_isWord, .selects RX4 yX4_isWord yX4_isWord, .initialized RX4, .code yX4_isWord cX4_isWord 2 (some .boolean), .methodLink RX4 57 yX4_isIn, .static yX4_isIn, .code yX4_isIn cX4_isIn 3 (some .boolean), .methodLink RX4 97 yX4_isShown, .instanceMethod yX4_isShown, .selects RX4 yX4_isShown yX4_isShown, .code yX4_isShown cX4_isShown 2 (some .boolean)] ++ wsX40)
def wsX4_row : List Cond := .code yX4_row cX4_row 6 (some .int) :: ([.fieldLink RX4 50 "TeleprompterModel" "rows" "I", .fieldLink RX4 7 "TeleprompterModel" "w" "[I", .fieldLink RX4 29 "TeleprompterModel" "rowOf" "[I", .methodLink RX4 57 yX4_isIn, .static yX4_isIn, .initialized RX4, .code yX4_isIn cX4_isIn 3 (some .boolean)] ++ wsX40)
def wsX4_heard : List Cond := .code yX4_heard cX4_heard 2 (some .int) :: ([.fieldLink RX4 7 "TeleprompterModel" "w" "[I"] ++ wsX40)
def wsX4_trail : List Cond := .code yX4_trail cX4_trail 3 (some .int) :: ([.fieldLink RX4 7 "TeleprompterModel" "w" "[I", .methodLink RX4 57 yX4_isIn, .static yX4_isIn, .initialized RX4, .code yX4_isIn cX4_isIn 3 (some .boolean)] ++ wsX40)
def wsX4_score : List Cond := .code yX4_score cX4_score 2 (some .int) :: ([.methodLink RX4 151 yX4_isWord, .instanceMethod yX4_isWord, .selects RX4 yX4_isWord yX4_isWord, .initialized RX4, .code yX4_isWord cX4_isWord 2 (some .boolean), .fieldLink RX4 7 "TeleprompterModel" "w" "[I", .methodLink RX4 57 yX4_isIn, .static yX4_isIn, .code yX4_isIn cX4_isIn 3 (some .boolean), .methodLink RX4 61 yX4_scoreOf, .instanceMethod yX4_scoreOf, .selects RX4 yX4_scoreOf yX4_scoreOf, .code yX4_scoreOf cX4_scoreOf 3 (some .int)] ++ wsX40)
def wsX4_best : List Cond := .code yX4_best cX4_best 4 (some .int) :: ([.methodLink RX4 116 yX4_isLetter, .static yX4_isLetter, .initialized RX4, .code yX4_isLetter cX4_isLetter 1 (some .boolean), .methodLink RX4 57 yX4_isIn, .static yX4_isIn, .code yX4_isIn cX4_isIn 3 (some .boolean), .methodLink RX4 71 yX4_bestOf, .instanceMethod yX4_bestOf, .selects RX4 yX4_bestOf yX4_bestOf, .code yX4_bestOf cX4_bestOf 5 (some .int), .fieldLink RX4 7 "TeleprompterModel" "w" "[I", .methodLink RX4 61 yX4_scoreOf, .instanceMethod yX4_scoreOf, .selects RX4 yX4_scoreOf yX4_scoreOf, .code yX4_scoreOf cX4_scoreOf 3 (some .int), .methodLink RX4 65 yX4_far, .instanceMethod yX4_far, .selects RX4 yX4_far yX4_far, .code yX4_far cX4_far 2 (some .int), .methodLink RX4 74 yX4_isAccepted, .instanceMethod yX4_isAccepted, .selects RX4 yX4_isAccepted yX4_isAccepted, .code yX4_isAccepted cX4_isAccepted 2 (some .boolean)] ++ wsX40)
def wsX4_isElsewhere : List Cond := .code yX4_isElsewhere cX4_isElsewhere 6 (some .boolean) :: ([.fieldLink RX4 7 "TeleprompterModel" "w" "[I"] ++ wsX40)
def wsX4_unique : List Cond := .code yX4_unique cX4_unique 3 (some .int) :: ([.methodLink RX4 151 yX4_isWord, .instanceMethod yX4_isWord, .selects RX4 yX4_isWord yX4_isWord, .initialized RX4, .code yX4_isWord cX4_isWord 2 (some .boolean), .fieldLink RX4 7 "TeleprompterModel" "w" "[I", .methodLink RX4 57 yX4_isIn, .static yX4_isIn, .code yX4_isIn cX4_isIn 3 (some .boolean), .methodLink RX4 157 yX4_isElsewhere, .instanceMethod yX4_isElsewhere, .selects RX4 yX4_isElsewhere yX4_isElsewhere, .code yX4_isElsewhere cX4_isElsewhere 6 (some .boolean)] ++ wsX40)
def wsX4_mean : List Cond := .code yX4_mean cX4_mean 1 (some .float) :: ([.fieldLink RX4 7 "TeleprompterModel" "w" "[I", .fieldLink RX4 50 "TeleprompterModel" "rows" "I"] ++ wsX40)
def wsX4_hold : List Cond := .code yX4_hold cX4_hold 2 none :: ([.fieldLink RX4 41 "TeleprompterModel" "held" "[I", .fieldLink RX4 7 "TeleprompterModel" "w" "[I"] ++ wsX40)
def wsX4_restore : List Cond := .code yX4_restore cX4_restore 2 none :: ([.fieldLink RX4 7 "TeleprompterModel" "w" "[I", .fieldLink RX4 41 "TeleprompterModel" "held" "[I"] ++ wsX40)
def wsX4_reached : List Cond := .code yX4_reached cX4_reached 5 (some .int) :: ([.fieldLink RX4 7 "TeleprompterModel" "w" "[I", .methodLink RX4 151 yX4_isWord, .instanceMethod yX4_isWord, .selects RX4 yX4_isWord yX4_isWord, .initialized RX4, .code yX4_isWord cX4_isWord 2 (some .boolean), .methodLink RX4 57 yX4_isIn, .static yX4_isIn, .code yX4_isIn cX4_isIn 3 (some .boolean), .methodLink RX4 88 yX4_estimated, .instanceMethod yX4_estimated, .selects RX4 yX4_estimated yX4_estimated, .code yX4_estimated cX4_estimated 3 (some .int), .methodLink RX4 85 yX4_nextCue, .instanceMethod yX4_nextCue, .selects RX4 yX4_nextCue yX4_nextCue, .code yX4_nextCue cX4_nextCue 2 (some .int)] ++ wsX40)
def wsX4_rehearse_r1 : List Cond := [Cond.fieldLink RX4 41 "TeleprompterModel" "held" "[I", Cond.fieldLink RX4 7 "TeleprompterModel" "w" "[I", Cond.methodLink RX4 57 yX4_isIn, Cond.static yX4_isIn, Cond.initialized RX4, Cond.code yX4_isIn cX4_isIn 3 (some .boolean), Cond.methodLink RX4 160 yX4_hold, Cond.instanceMethod yX4_hold, Cond.selects RX4 yX4_hold yX4_hold, Cond.code yX4_hold cX4_hold 2 none, Cond.methodLink RX4 145 yX4_tickOnce, Cond.instanceMethod yX4_tickOnce, Cond.selects RX4 yX4_tickOnce yX4_tickOnce, Cond.code yX4_tickOnce cX4_tickOnce 3 none, Cond.fieldLink RX4 29 "TeleprompterModel" "rowOf" "[I", Cond.methodLink RX4 94 yX4_desired, Cond.instanceMethod yX4_desired, Cond.selects RX4 yX4_desired yX4_desired, Cond.code yX4_desired cX4_desired 2 (some .int), Cond.methodLink RX4 88 yX4_estimated, Cond.instanceMethod yX4_estimated, Cond.selects RX4 yX4_estimated yX4_estimated, Cond.code yX4_estimated cX4_estimated 3 (some .int), Cond.methodLink RX4 85 yX4_nextCue]
def wsX4_rehearse_r2 : List Cond := [Cond.instanceMethod yX4_nextCue, Cond.selects RX4 yX4_nextCue yX4_nextCue, Cond.code yX4_nextCue cX4_nextCue 2 (some .int), Cond.methodLink RX4 91 yX4_limited, Cond.instanceMethod yX4_limited, Cond.selects RX4 yX4_limited yX4_limited, Cond.code yX4_limited cX4_limited 2 (some .int), Cond.methodLink RX4 53 yX4_greatestTop, Cond.instanceMethod yX4_greatestTop, Cond.selects RX4 yX4_greatestTop yX4_greatestTop, Cond.code yX4_greatestTop cX4_greatestTop 1 (some .int), Cond.fieldLink RX4 50 "TeleprompterModel" "rows" "I", Cond.methodLink RX4 97 yX4_isShown, Cond.instanceMethod yX4_isShown, Cond.selects RX4 yX4_isShown yX4_isShown, Cond.code yX4_isShown cX4_isShown 2 (some .boolean), Cond.methodLink RX4 142 yX4_hearNow, Cond.instanceMethod yX4_hearNow, Cond.selects RX4 yX4_hearNow yX4_hearNow, Cond.code yX4_hearNow cX4_hearNow 4 (some .int), Cond.methodLink RX4 71 yX4_bestOf, Cond.instanceMethod yX4_bestOf, Cond.selects RX4 yX4_bestOf yX4_bestOf, Cond.code yX4_bestOf cX4_bestOf 5 (some .int)]
def wsX4_rehearse_r3 : List Cond := [Cond.methodLink RX4 61 yX4_scoreOf, Cond.instanceMethod yX4_scoreOf, Cond.selects RX4 yX4_scoreOf yX4_scoreOf, Cond.code yX4_scoreOf cX4_scoreOf 3 (some .int), Cond.methodLink RX4 65 yX4_far, Cond.instanceMethod yX4_far, Cond.selects RX4 yX4_far yX4_far, Cond.code yX4_far cX4_far 2 (some .int), Cond.methodLink RX4 74 yX4_isAccepted, Cond.instanceMethod yX4_isAccepted, Cond.selects RX4 yX4_isAccepted yX4_isAccepted, Cond.code yX4_isAccepted cX4_isAccepted 2 (some .boolean), Cond.methodLink RX4 78 yX4_follow, Cond.instanceMethod yX4_follow, Cond.selects RX4 yX4_follow yX4_follow, Cond.code yX4_follow cX4_follow 3 none, Cond.methodLink RX4 68 yX4_leaveTrail, Cond.instanceMethod yX4_leaveTrail, Cond.selects RX4 yX4_leaveTrail yX4_leaveTrail, Cond.code yX4_leaveTrail cX4_leaveTrail 3 none, Cond.methodLink RX4 82 yX4_keepWord, Cond.instanceMethod yX4_keepWord, Cond.selects RX4 yX4_keepWord yX4_keepWord, Cond.code yX4_keepWord cX4_keepWord 3 none]
def wsX4_rehearse_r4 : List Cond := [Cond.methodLink RX4 148 yX4_releaseNext, Cond.instanceMethod yX4_releaseNext, Cond.selects RX4 yX4_releaseNext yX4_releaseNext, Cond.code yX4_releaseNext cX4_releaseNext 2 (some .int), Cond.methodLink RX4 163 yX4_restore, Cond.instanceMethod yX4_restore, Cond.selects RX4 yX4_restore yX4_restore, Cond.code yX4_restore cX4_restore 2 none]
def wsX4_rehearse : List Cond := .code yX4_rehearse cX4_rehearse 7 (some .int) :: ((wsX4_rehearse_r1 ++ (wsX4_rehearse_r2 ++ (wsX4_rehearse_r3 ++ wsX4_rehearse_r4))) ++ wsX40)
def wsX4_isImage : List Cond := .code yX4_isImage cX4_isImage 1 (some .boolean) :: ([.methodLink RX4 57 yX4_isIn, .static yX4_isIn, .initialized RX4, .code yX4_isIn cX4_isIn 3 (some .boolean)])
def wsX4_keep : List Cond := .code yX4_keep cX4_keep 3 (some .int) :: ([.fieldLink RX4 16 "TeleprompterModel" "images" "[I", .fieldLink RX4 7 "TeleprompterModel" "w" "[I", .fieldLink RX4 169 "TeleprompterModel" "filled" "I", .methodLink RX4 166 yX4_isImage, .static yX4_isImage, .initialized RX4, .code yX4_isImage cX4_isImage 1 (some .boolean), .methodLink RX4 57 yX4_isIn, .static yX4_isIn, .code yX4_isIn cX4_isIn 3 (some .boolean)] ++ wsX40)
def wsX4_back : List Cond := .code yX4_back cX4_back 3 (some .int) :: ([.fieldLink RX4 169 "TeleprompterModel" "filled" "I", .fieldLink RX4 7 "TeleprompterModel" "w" "[I", .fieldLink RX4 16 "TeleprompterModel" "images" "[I", .methodLink RX4 166 yX4_isImage, .static yX4_isImage, .initialized RX4, .code yX4_isImage cX4_isImage 1 (some .boolean), .methodLink RX4 57 yX4_isIn, .static yX4_isIn, .code yX4_isIn cX4_isIn 3 (some .boolean), .methodLink RX4 135 yX4_remember, .instanceMethod yX4_remember, .selects RX4 yX4_remember yX4_remember, .code yX4_remember cX4_remember 2 none, .fieldLink RX4 47 "TeleprompterModel" "pastMany" "I", .fieldLink RX4 13 "TeleprompterModel" "past" "[I", .methodLink RX4 44 yX4_layRows, .instanceMethod yX4_layRows, .selects RX4 yX4_layRows yX4_layRows, .code yX4_layRows cX4_layRows 4 none, .fieldLink RX4 50 "TeleprompterModel" "rows" "I", .fieldLink RX4 29 "TeleprompterModel" "rowOf" "[I"] ++ wsX40)
def wsJ9_abs_0f7a4 : List Cond := .code yJ9_abs_0f7a4 cJ9_abs_0f7a4 1 (some .int) :: ([])
def wsJ9_max_7cf53 : List Cond := .code yJ9_max_7cf53 cJ9_max_7cf53 2 (some .int) :: ([])
def wsJ9_max_f86c9 : List Cond := .code yJ9_max_f86c9 cJ9_max_f86c9 4 (some .long) :: ([])
def wsJ9_min_7cf53 : List Cond := .code yJ9_min_7cf53 cJ9_min_7cf53 2 (some .int) :: ([])
def wsJ9_min_f86c9 : List Cond := .code yJ9_min_f86c9 cJ9_min_f86c9 4 (some .long) :: ([])
def wsL_law_r1 : List Cond := [Cond.classLink RL 7 RX3, Cond.instantiable RX3 11, Cond.initialized RX3, Cond.classLink RL 10 RX4, Cond.instantiable RX4 19, Cond.initialized RX4, Cond.methodLink RL 9 yX3_init, Cond.instanceMethod yX3_init, Cond.code yX3_init cX3_init 2 none, Cond.methodLink RX3 1 objectInit, Cond.instanceMethod objectInit, Cond.code objectInit ⟨#[0xb1]⟩ 1 none, Cond.arrayClass .int, Cond.fieldLink RX3 9 "Teleprompter" "text" "[I", Cond.classLink RX3 13 RX0, Cond.instantiable RX0 9, Cond.initialized RX0, Cond.fieldLink RX3 16 "Teleprompter" "draft" "LTeleprompter$Script;", Cond.classLink RX3 20 RX1, Cond.instantiable RX1 15, Cond.initialized RX1, Cond.fieldLink RX3 23 "Teleprompter" "now" "LTeleprompter$State;", Cond.fieldLink RX3 27 "Teleprompter" "copy" "LTeleprompter$State;", Cond.fieldLink RX3 30 "Teleprompter" "history" "[LTeleprompter$State;"]
def wsL_law_r2 : List Cond := [Cond.fieldLink RX3 34 "Teleprompter" "images" "[LTeleprompter$State;", Cond.arrayClass .boolean, Cond.fieldLink RX3 37 "Teleprompter" "imageKept" "[Z", Cond.fieldLink RX3 41 "Teleprompter" "FIRST" "[I", Cond.fieldLink RX3 44 "Teleprompter$State" "settings" "[I", Cond.instanceMethod yX0_init, Cond.code yX0_init cX0_init 1 none, Cond.methodLink RX0 3 objectInit, Cond.fieldLink RX0 9 "Teleprompter$Script" "letters" "[I", Cond.fieldLink RX0 15 "Teleprompter$Script" "passageOf" "[I", Cond.fieldLink RX0 18 "Teleprompter$Script" "cues" "[I", Cond.fieldLink RX0 21 "Teleprompter$Script" "rowOf" "[I", Cond.fieldLink RX0 24 "Teleprompter$Script" "firstOfRow" "[I", Cond.instanceMethod yX1_init, Cond.code yX1_init cX1_init 1 none, Cond.methodLink RX1 3 objectInit, Cond.fieldLink RX1 9 "Teleprompter$State" "settings" "[I", Cond.classLink RX1 15 RX0, Cond.fieldLink RX1 18 "Teleprompter$State" "script" "LTeleprompter$Script;", Cond.classLink RX1 22 RX2, Cond.instantiable RX2 3, Cond.initialized RX2, Cond.fieldLink RX1 25 "Teleprompter$State" "trail" "LTeleprompter$Trail;", Cond.fieldLink RX1 29 "Teleprompter$State" "kept" "[I"]
def wsL_law_r3 : List Cond := [Cond.instanceMethod yX2_init, Cond.code yX2_init cX2_init 1 none, Cond.methodLink RX2 3 objectInit, Cond.fieldLink RX2 9 "Teleprompter$Trail" "times" "[I", Cond.fieldLink RX2 15 "Teleprompter$Trail" "positions" "[I", Cond.methodLink RX3 47 yX3_copyRow, Cond.static yX3_copyRow, Cond.code yX3_copyRow cX3_copyRow 2 none, Cond.methodLink RX3 250 Lib.Math.min.name, Cond.static Lib.Math.min.name, Cond.initialized "java/lang/Math", Cond.code Lib.Math.min.name Lib.Math.min.code 2 (some .int), Cond.methodLink RX3 255 arraycopyName, Cond.native arraycopyName, Cond.static arraycopyName, Cond.initialized "java/lang/System", Cond.methodLink RX3 51 yX0_empty, Cond.instanceMethod yX0_empty, Cond.selects RX0 yX0_empty yX0_empty, Cond.code yX0_empty cX0_empty 1 none, Cond.fieldLink RX0 27 "Teleprompter$Script" "words" "I", Cond.fieldLink RX0 31 "Teleprompter$Script" "passages" "I", Cond.fieldLink RX0 34 "Teleprompter$Script" "wordsInPassage" "I", Cond.methodLink RX3 54 yX0_read]
def wsL_law_r4 : List Cond := [Cond.instanceMethod yX0_read, Cond.selects RX0 yX0_read yX0_read, Cond.code yX0_read cX0_read 3 (some .int), Cond.static yX3_isLetter, Cond.code yX3_isLetter cX3_isLetter 1 (some .boolean), Cond.methodLink RX0 48 yX0_append, Cond.instanceMethod yX0_append, Cond.selects RX0 yX0_append yX0_append, Cond.code yX0_append cX0_append 2 (some .int), Cond.static yX3_put, Cond.code yX3_put cX3_put 3 none, Cond.methodLink RX0 52 yX0_setCue, Cond.instanceMethod yX0_setCue, Cond.selects RX0 yX0_setCue yX0_setCue, Cond.code yX0_setCue cX0_setCue 1 (some .int), Cond.methodLink RX0 56 yX0_endPassage, Cond.instanceMethod yX0_endPassage, Cond.selects RX0 yX0_endPassage yX0_endPassage, Cond.code yX0_endPassage cX0_endPassage 1 (some .int), Cond.methodLink RX3 58 yX1_begin, Cond.instanceMethod yX1_begin, Cond.selects RX1 yX1_begin yX1_begin, Cond.code yX1_begin cX1_begin 2 none, Cond.fieldLink RX1 43 "Teleprompter$State" "keptCount" "I"]
def wsL_law_r5 : List Cond := [Cond.fieldLink RX1 47 "Teleprompter$State" "position" "I", Cond.fieldLink RX1 50 "Teleprompter$State" "speed" "I", Cond.fieldLink RX1 53 "Teleprompter$State" "time" "I", Cond.fieldLink RX1 56 "Teleprompter$State" "heardTime" "I", Cond.fieldLink RX1 59 "Teleprompter$State" "top" "I", Cond.fieldLink RX1 62 "Teleprompter$State" "skips" "I", Cond.fieldLink RX1 65 "Teleprompter$State" "repeats" "I", Cond.fieldLink RX1 68 "Teleprompter$State" "misses" "I", Cond.fieldLink RX1 71 "Teleprompter$State" "jerks" "I", Cond.fieldLink RX1 74 "Teleprompter$State" "overruns" "I", Cond.methodLink RX1 36 yX0_become, Cond.instanceMethod yX0_become, Cond.selects RX0 yX0_become yX0_become, Cond.code yX0_become cX0_become 2 none, Cond.fieldLink RX0 37 "Teleprompter$Script" "rows" "I", Cond.static yX3_at, Cond.code yX3_at cX3_at 2 (some .int), Cond.methodLink RX1 81 yX0_lay, Cond.instanceMethod yX0_lay, Cond.selects RX0 yX0_lay yX0_lay, Cond.code yX0_lay cX0_lay 4 none, Cond.methodLink RX1 85 yX2_empty, Cond.instanceMethod yX2_empty, Cond.selects RX2 yX2_empty yX2_empty]
def wsL_law_r6 : List Cond := [Cond.code yX2_empty cX2_empty 1 none, Cond.fieldLink RX2 18 "Teleprompter$Trail" "pairs" "I", Cond.methodLink RL 12 yX4_init, Cond.instanceMethod yX4_init, Cond.code yX4_init cX4_init 1 none, Cond.methodLink RX4 1 objectInit, Cond.fieldLink RX4 7 "TeleprompterModel" "w" "[I", Cond.fieldLink RX4 13 "TeleprompterModel" "past" "[I", Cond.fieldLink RX4 16 "TeleprompterModel" "images" "[I", Cond.fieldLink RX4 19 "TeleprompterModel" "text" "[I", Cond.fieldLink RX4 22 "TeleprompterModel" "faultKind" "I", Cond.fieldLink RX4 26 "TeleprompterModel" "faultPlace" "I", Cond.fieldLink RX4 29 "TeleprompterModel" "rowOf" "[I", Cond.fieldLink RX4 32 "TeleprompterModel" "readLetter" "[I", Cond.fieldLink RX4 35 "TeleprompterModel" "readCue" "[I", Cond.fieldLink RX4 38 "TeleprompterModel" "readPassage" "[I", Cond.fieldLink RX4 41 "TeleprompterModel" "held" "[I", Cond.methodLink RX4 44 yX4_layRows, Cond.instanceMethod yX4_layRows, Cond.selects RX4 yX4_layRows yX4_layRows, Cond.code yX4_layRows cX4_layRows 4 none, Cond.fieldLink RX4 50 "TeleprompterModel" "rows" "I", Cond.methodLink RL 13 yX3_load, Cond.instanceMethod yX3_load]
def wsL_law_r7 : List Cond := [Cond.selects RX3 yX3_load yX3_load, Cond.code yX3_load cX3_load 1 (some .int), Cond.fieldLink RX3 69 "Teleprompter$State" "script" "LTeleprompter$Script;", Cond.fieldLink RX3 72 "Teleprompter$Script" "words" "I", Cond.methodLink RX3 62 yX3_readText, Cond.instanceMethod yX3_readText, Cond.selects RX3 yX3_readText yX3_readText, Cond.code yX3_readText cX3_readText 3 (some .boolean), Cond.fieldLink RX3 132 "Teleprompter" "textLength" "I", Cond.fieldLink RX3 139 "Teleprompter" "faultKind" "I", Cond.fieldLink RX3 142 "Teleprompter" "faultPlace" "I", Cond.fieldLink RX3 244 "Teleprompter$Script" "wordsInPassage" "I", Cond.methodLink RX3 83 yX3_at, Cond.methodLink RX3 66 yX3_record, Cond.instanceMethod yX3_record, Cond.selects RX3 yX3_record yX3_record, Cond.code yX3_record cX3_record 1 none, Cond.fieldLink RX3 121 "Teleprompter" "undoable" "I", Cond.methodLink RX3 247 yX3_dropOldest, Cond.instanceMethod yX3_dropOldest, Cond.selects RX3 yX3_dropOldest yX3_dropOldest, Cond.code yX3_dropOldest cX3_dropOldest 3 none, Cond.methodLink RX3 124 yX3_stateAt, Cond.instanceMethod yX3_stateAt]
def wsL_law_r8 : List Cond := [Cond.selects RX3 yX3_stateAt yX3_stateAt, Cond.code yX3_stateAt cX3_stateAt 3 (some (.object "Teleprompter$State")), Cond.methodLink RX3 128 yX1_become, Cond.instanceMethod yX1_become, Cond.selects RX1 yX1_become yX1_become, Cond.code yX1_become cX1_become 2 none, Cond.methodLink RX1 40 yX2_become, Cond.instanceMethod yX2_become, Cond.selects RX2 yX2_become yX2_become, Cond.code yX2_become cX2_become 2 none, Cond.methodLink RL 17 yX4_load, Cond.instanceMethod yX4_load, Cond.selects RX4 yX4_load yX4_load, Cond.code yX4_load cX4_load 2 (some .int), Cond.fieldLink RX4 100 "TeleprompterModel" "wrongKind" "I", Cond.fieldLink RX4 103 "TeleprompterModel" "wrongPlace" "I", Cond.fieldLink RX4 106 "TeleprompterModel" "readWords" "I", Cond.methodLink RX4 132 yX4_readText, Cond.instanceMethod yX4_readText, Cond.selects RX4 yX4_readText yX4_readText, Cond.code yX4_readText cX4_readText 2 none, Cond.fieldLink RX4 113 "TeleprompterModel" "readPassages" "I", Cond.fieldLink RX4 126 "TeleprompterModel" "length" "I", Cond.methodLink RX4 109 yX4_fails]
def wsL_law_r9 : List Cond := [Cond.instanceMethod yX4_fails, Cond.selects RX4 yX4_fails yX4_fails, Cond.code yX4_fails cX4_fails 3 none, Cond.methodLink RX4 129 yX4_readByte, Cond.instanceMethod yX4_readByte, Cond.selects RX4 yX4_readByte yX4_readByte, Cond.code yX4_readByte cX4_readByte 3 none, Cond.methodLink RX4 116 yX4_isLetter, Cond.static yX4_isLetter, Cond.code yX4_isLetter cX4_isLetter 1 (some .boolean), Cond.methodLink RX4 57 yX4_isIn, Cond.static yX4_isIn, Cond.code yX4_isIn cX4_isIn 3 (some .boolean), Cond.methodLink RX4 119 yX4_readWord, Cond.instanceMethod yX4_readWord, Cond.selects RX4 yX4_readWord yX4_readWord, Cond.code yX4_readWord cX4_readWord 2 none, Cond.methodLink RX4 122 yX4_hasWord, Cond.instanceMethod yX4_hasWord, Cond.selects RX4 yX4_hasWord yX4_hasWord, Cond.code yX4_hasWord cX4_hasWord 1 (some .boolean), Cond.methodLink RX4 135 yX4_remember, Cond.instanceMethod yX4_remember, Cond.selects RX4 yX4_remember yX4_remember]
def wsL_law_r10 : List Cond := [Cond.code yX4_remember cX4_remember 2 none, Cond.fieldLink RX4 47 "TeleprompterModel" "pastMany" "I", Cond.methodLink RL 18 yX3_set, Cond.instanceMethod yX3_set, Cond.selects RX3 yX3_set yX3_set, Cond.code yX3_set cX3_set 4 (some .int), Cond.fieldLink RX3 80 "Teleprompter" "LEAST" "[I", Cond.fieldLink RX3 87 "Teleprompter" "MOST" "[I", Cond.methodLink RX3 76 yX3_isSetting, Cond.static yX3_isSetting, Cond.code yX3_isSetting cX3_isSetting 1 (some .boolean), Cond.methodLink RX3 90 yX1_change, Cond.instanceMethod yX1_change, Cond.selects RX1 yX1_change yX1_change, Cond.code yX1_change cX1_change 3 none, Cond.methodLink RX1 92 yX1_highestTop, Cond.instanceMethod yX1_highestTop, Cond.selects RX1 yX1_highestTop yX1_highestTop, Cond.code yX1_highestTop cX1_highestTop 1 (some .int), Cond.fieldLink RX1 177 "Teleprompter$Script" "rows" "I", Cond.methodLink RX1 117 Lib.Math.max.name, Cond.static Lib.Math.max.name, Cond.code Lib.Math.max.name Lib.Math.max.code 2 (some .int), Cond.static yX3_limited]
def wsL_law_r11 : List Cond := [Cond.code yX3_limited cX3_limited 3 (some .int), Cond.methodLink RX3 261 Lib.Math.max.name, Cond.methodLink RL 22 yX4_set, Cond.instanceMethod yX4_set, Cond.selects RX4 yX4_set yX4_set, Cond.code yX4_set cX4_set 4 (some .int), Cond.methodLink RX4 138 yX4_isOf, Cond.static yX4_isOf, Cond.code yX4_isOf cX4_isOf 2 (some .boolean), Cond.methodLink RX4 91 yX4_limited, Cond.instanceMethod yX4_limited, Cond.selects RX4 yX4_limited yX4_limited, Cond.code yX4_limited cX4_limited 2 (some .int), Cond.methodLink RX4 53 yX4_greatestTop, Cond.instanceMethod yX4_greatestTop, Cond.selects RX4 yX4_greatestTop yX4_greatestTop, Cond.code yX4_greatestTop cX4_greatestTop 1 (some .int), Cond.methodLink RL 23 yX3_hear, Cond.instanceMethod yX3_hear, Cond.selects RX3 yX3_hear yX3_hear, Cond.code yX3_hear cX3_hear 2 (some .int), Cond.fieldLink RX3 100 "Teleprompter$State" "position" "I", Cond.methodLink RX3 94 yX3_isLetter, Cond.methodLink RX3 97 yX1_listen]
def wsL_law_r12 : List Cond := [Cond.instanceMethod yX1_listen, Cond.selects RX1 yX1_listen yX1_listen, Cond.code yX1_listen cX1_listen 4 (some .boolean), Cond.methodLink RX1 103 yX1_bestCandidate, Cond.instanceMethod yX1_bestCandidate, Cond.selects RX1 yX1_bestCandidate yX1_bestCandidate, Cond.code yX1_bestCandidate cX1_bestCandidate 6 (some .int), Cond.fieldLink RX1 123 "Teleprompter$Script" "words" "I", Cond.methodLink RX1 126 Lib.Math.min.name, Cond.fieldLink RX1 129 "Teleprompter$Script" "letters" "[I", Cond.methodLink RX1 132 yX1_isBetter, Cond.instanceMethod yX1_isBetter, Cond.selects RX1 yX1_isBetter yX1_isBetter, Cond.code yX1_isBetter cX1_isBetter 5 (some .boolean), Cond.methodLink RX1 139 Lib.Math.abs.name, Cond.static Lib.Math.abs.name, Cond.code Lib.Math.abs.name Lib.Math.abs.code 1 (some .int), Cond.methodLink RX1 136 yX1_points, Cond.instanceMethod yX1_points, Cond.selects RX1 yX1_points yX1_points, Cond.code yX1_points cX1_points 3 (some .int), Cond.methodLink RX1 107 yX1_accepts, Cond.instanceMethod yX1_accepts, Cond.selects RX1 yX1_accepts yX1_accepts]
def wsL_law_r13 : List Cond := [Cond.code yX1_accepts cX1_accepts 2 (some .boolean), Cond.methodLink RX1 111 yX1_follow, Cond.instanceMethod yX1_follow, Cond.selects RX1 yX1_follow yX1_follow, Cond.code yX1_follow cX1_follow 2 none, Cond.methodLink RX1 142 yX2_add, Cond.instanceMethod yX2_add, Cond.selects RX2 yX2_add yX2_add, Cond.code yX2_add cX2_add 7 none, Cond.methodLink RX1 146 yX2_speedOr, Cond.instanceMethod yX2_speedOr, Cond.selects RX2 yX2_speedOr yX2_speedOr, Cond.code yX2_speedOr cX2_speedOr 3 (some .int), Cond.methodLink RX1 149 yX0_passWaitingBefore, Cond.instanceMethod yX0_passWaitingBefore, Cond.selects RX0 yX0_passWaitingBefore yX0_passWaitingBefore, Cond.code yX0_passWaitingBefore cX0_passWaitingBefore 4 (some .int), Cond.methodLink RX1 114 yX1_keepHeard, Cond.instanceMethod yX1_keepHeard, Cond.selects RX1 yX1_keepHeard yX1_keepHeard, Cond.code yX1_keepHeard cX1_keepHeard 3 none, Cond.methodLink RL 27 yX4_hear, Cond.instanceMethod yX4_hear, Cond.selects RX4 yX4_hear yX4_hear]
def wsL_law_r14 : List Cond := [Cond.code yX4_hear cX4_hear 2 (some .int), Cond.methodLink RX4 142 yX4_hearNow, Cond.instanceMethod yX4_hearNow, Cond.selects RX4 yX4_hearNow yX4_hearNow, Cond.code yX4_hearNow cX4_hearNow 4 (some .int), Cond.methodLink RX4 71 yX4_bestOf, Cond.instanceMethod yX4_bestOf, Cond.selects RX4 yX4_bestOf yX4_bestOf, Cond.code yX4_bestOf cX4_bestOf 5 (some .int), Cond.methodLink RX4 61 yX4_scoreOf, Cond.instanceMethod yX4_scoreOf, Cond.selects RX4 yX4_scoreOf yX4_scoreOf, Cond.code yX4_scoreOf cX4_scoreOf 3 (some .int), Cond.methodLink RX4 65 yX4_far, Cond.instanceMethod yX4_far, Cond.selects RX4 yX4_far yX4_far, Cond.code yX4_far cX4_far 2 (some .int), Cond.methodLink RX4 74 yX4_isAccepted, Cond.instanceMethod yX4_isAccepted, Cond.selects RX4 yX4_isAccepted yX4_isAccepted, Cond.code yX4_isAccepted cX4_isAccepted 2 (some .boolean), Cond.methodLink RX4 78 yX4_follow, Cond.instanceMethod yX4_follow, Cond.selects RX4 yX4_follow yX4_follow]
def wsL_law_r15 : List Cond := [Cond.code yX4_follow cX4_follow 3 none, Cond.methodLink RX4 68 yX4_leaveTrail, Cond.instanceMethod yX4_leaveTrail, Cond.selects RX4 yX4_leaveTrail yX4_leaveTrail, Cond.code yX4_leaveTrail cX4_leaveTrail 3 none, Cond.methodLink RX4 82 yX4_keepWord, Cond.instanceMethod yX4_keepWord, Cond.selects RX4 yX4_keepWord yX4_keepWord, Cond.code yX4_keepWord cX4_keepWord 3 none, Cond.methodLink RL 28 yX3_tick, Cond.instanceMethod yX3_tick, Cond.selects RX3 yX3_tick yX3_tick, Cond.code yX3_tick cX3_tick 2 (some .int), Cond.methodLink RX3 103 yX1_passTime, Cond.instanceMethod yX1_passTime, Cond.selects RX1 yX1_passTime yX1_passTime, Cond.code yX1_passTime cX1_passTime 5 (some .int), Cond.methodLink RX1 164 yX1_holdingWord, Cond.instanceMethod yX1_holdingWord, Cond.selects RX1 yX1_holdingWord yX1_holdingWord, Cond.code yX1_holdingWord cX1_holdingWord 2 (some .int), Cond.methodLink RX1 158 yX0_nextCue, Cond.instanceMethod yX0_nextCue, Cond.selects RX0 yX0_nextCue yX0_nextCue]
def wsL_law_r16 : List Cond := [Cond.code yX0_nextCue cX0_nextCue 2 (some .int), Cond.methodLink RX1 167 yX1_estimate, Cond.instanceMethod yX1_estimate, Cond.selects RX1 yX1_estimate yX1_estimate, Cond.code yX1_estimate cX1_estimate 7 (some .int), Cond.constantLong RX1 170 (100), Cond.methodLink RX1 172 Lib.MathLoose.min_long.x, Cond.static Lib.MathLoose.min_long.x, Cond.code Lib.MathLoose.min_long.x Lib.MathLoose.min_long.code 4 (some .long), Cond.methodLink RX1 175 Lib.MathLoose.max_long.x, Cond.static Lib.MathLoose.max_long.x, Cond.code Lib.MathLoose.max_long.x Lib.MathLoose.max_long.code 4 (some .long), Cond.methodLink RX1 186 yX1_scrollTo, Cond.instanceMethod yX1_scrollTo, Cond.selects RX1 yX1_scrollTo yX1_scrollTo, Cond.code yX1_scrollTo cX1_scrollTo 4 none, Cond.fieldLink RX1 180 "Teleprompter$Script" "rowOf" "[I", Cond.methodLink RX1 189 yX1_desiredTop, Cond.instanceMethod yX1_desiredTop, Cond.selects RX1 yX1_desiredTop yX1_desiredTop, Cond.code yX1_desiredTop cX1_desiredTop 3 (some .int), Cond.methodLink RX1 192 yX1_shows, Cond.instanceMethod yX1_shows, Cond.selects RX1 yX1_shows yX1_shows]
def wsL_law_r17 : List Cond := [Cond.code yX1_shows cX1_shows 2 (some .boolean), Cond.methodLink RX1 183 yX1_lowestShown, Cond.instanceMethod yX1_lowestShown, Cond.selects RX1 yX1_lowestShown yX1_lowestShown, Cond.code yX1_lowestShown cX1_lowestShown 1 (some .int), Cond.methodLink RL 31 yX4_tick, Cond.instanceMethod yX4_tick, Cond.selects RX4 yX4_tick yX4_tick, Cond.code yX4_tick cX4_tick 4 (some .int), Cond.methodLink RX4 145 yX4_tickOnce, Cond.instanceMethod yX4_tickOnce, Cond.selects RX4 yX4_tickOnce yX4_tickOnce, Cond.code yX4_tickOnce cX4_tickOnce 3 none, Cond.methodLink RX4 94 yX4_desired, Cond.instanceMethod yX4_desired, Cond.selects RX4 yX4_desired yX4_desired, Cond.code yX4_desired cX4_desired 2 (some .int), Cond.methodLink RX4 88 yX4_estimated, Cond.instanceMethod yX4_estimated, Cond.selects RX4 yX4_estimated yX4_estimated, Cond.code yX4_estimated cX4_estimated 3 (some .int), Cond.methodLink RX4 85 yX4_nextCue, Cond.instanceMethod yX4_nextCue, Cond.selects RX4 yX4_nextCue yX4_nextCue]
def wsL_law_r18 : List Cond := [Cond.code yX4_nextCue cX4_nextCue 2 (some .int), Cond.methodLink RX4 97 yX4_isShown, Cond.instanceMethod yX4_isShown, Cond.selects RX4 yX4_isShown yX4_isShown, Cond.code yX4_isShown cX4_isShown 2 (some .boolean), Cond.methodLink RL 32 yX3_release, Cond.instanceMethod yX3_release, Cond.selects RX3 yX3_release yX3_release, Cond.code yX3_release cX3_release 2 (some .int), Cond.methodLink RX3 107 yX0_nextCue, Cond.methodLink RX3 111 yX0_freeCue, Cond.instanceMethod yX0_freeCue, Cond.selects RX0 yX0_freeCue yX0_freeCue, Cond.code yX0_freeCue cX0_freeCue 2 none, Cond.methodLink RL 35 yX4_release, Cond.instanceMethod yX4_release, Cond.selects RX4 yX4_release yX4_release, Cond.code yX4_release cX4_release 1 (some .int), Cond.methodLink RX4 148 yX4_releaseNext, Cond.instanceMethod yX4_releaseNext, Cond.selects RX4 yX4_releaseNext yX4_releaseNext, Cond.code yX4_releaseNext cX4_releaseNext 2 (some .int), Cond.methodLink RL 36 yX3_place, Cond.instanceMethod yX3_place]
def wsL_law_r19 : List Cond := [Cond.selects RX3 yX3_place yX3_place, Cond.code yX3_place cX3_place 3 (some .int), Cond.methodLink RX3 115 yX0_has, Cond.instanceMethod yX0_has, Cond.selects RX0 yX0_has yX0_has, Cond.code yX0_has cX0_has 2 (some .boolean), Cond.methodLink RX3 118 yX1_jump, Cond.instanceMethod yX1_jump, Cond.selects RX1 yX1_jump yX1_jump, Cond.code yX1_jump cX1_jump 2 none, Cond.methodLink RX1 100 yX0_setCuesAround, Cond.instanceMethod yX0_setCuesAround, Cond.selects RX0 yX0_setCuesAround yX0_setCuesAround, Cond.code yX0_setCuesAround cX0_setCuesAround 3 none, Cond.methodLink RL 39 yX4_place, Cond.instanceMethod yX4_place, Cond.selects RX4 yX4_place yX4_place, Cond.code yX4_place cX4_place 4 (some .int), Cond.methodLink RX4 151 yX4_isWord, Cond.instanceMethod yX4_isWord, Cond.selects RX4 yX4_isWord yX4_isWord, Cond.code yX4_isWord cX4_isWord 2 (some .boolean), Cond.methodLink RL 40 yX3_undo, Cond.instanceMethod yX3_undo]
def wsL_law_r20 : List Cond := [Cond.selects RX3 yX3_undo yX3_undo, Cond.code yX3_undo cX3_undo 1 (some .int), Cond.methodLink RL 43 yX4_undo, Cond.instanceMethod yX4_undo, Cond.selects RX4 yX4_undo yX4_undo, Cond.code yX4_undo cX4_undo 2 (some .int), Cond.methodLink RL 44 yX3_write, Cond.instanceMethod yX3_write, Cond.selects RX3 yX3_write yX3_write, Cond.code yX3_write cX3_write 2 (some .int), Cond.methodLink RX3 135 yX3_put, Cond.methodLink RL 47 yX4_write, Cond.instanceMethod yX4_write, Cond.selects RX4 yX4_write yX4_write, Cond.code yX4_write cX4_write 2 (some .int), Cond.methodLink RL 48 yX3_wipe, Cond.instanceMethod yX3_wipe, Cond.selects RX3 yX3_wipe yX3_wipe, Cond.code yX3_wipe cX3_wipe 2 (some .int), Cond.methodLink RL 51 yX4_wipe, Cond.instanceMethod yX4_wipe, Cond.selects RX4 yX4_wipe yX4_wipe, Cond.code yX4_wipe cX4_wipe 2 (some .int), Cond.methodLink RL 52 yX3_fault]
def wsL_law_r21 : List Cond := [Cond.instanceMethod yX3_fault, Cond.selects RX3 yX3_fault yX3_fault, Cond.code yX3_fault cX3_fault 2 (some .int), Cond.methodLink RL 55 yX4_fault, Cond.instanceMethod yX4_fault, Cond.selects RX4 yX4_fault yX4_fault, Cond.code yX4_fault cX4_fault 2 (some .int), Cond.methodLink RL 56 yX3_told, Cond.instanceMethod yX3_told, Cond.selects RX3 yX3_told yX3_told, Cond.code yX3_told cX3_told 2 (some .int), Cond.fieldLink RX3 145 "Teleprompter$Script" "rows" "I", Cond.fieldLink RX3 148 "Teleprompter$Script" "passages" "I", Cond.fieldLink RX3 154 "Teleprompter$State" "time" "I", Cond.fieldLink RX3 157 "Teleprompter$State" "speed" "I", Cond.fieldLink RX3 163 "Teleprompter$State" "top" "I", Cond.fieldLink RX3 169 "Teleprompter$State" "skips" "I", Cond.fieldLink RX3 172 "Teleprompter$State" "repeats" "I", Cond.fieldLink RX3 175 "Teleprompter$State" "misses" "I", Cond.fieldLink RX3 178 "Teleprompter$State" "jerks" "I", Cond.fieldLink RX3 181 "Teleprompter$State" "overruns" "I", Cond.fieldLink RX3 184 "Teleprompter$State" "trail" "LTeleprompter$Trail;", Cond.fieldLink RX3 188 "Teleprompter$Trail" "pairs" "I", Cond.fieldLink RX3 193 "Teleprompter$State" "keptCount" "I"]
def wsL_law_r22 : List Cond := [Cond.methodLink RX3 151 yX0_cueCount, Cond.instanceMethod yX0_cueCount, Cond.selects RX0 yX0_cueCount yX0_cueCount, Cond.code yX0_cueCount cX0_cueCount 3 (some .int), Cond.methodLink RX3 160 yX1_estimatedWord, Cond.instanceMethod yX1_estimatedWord, Cond.selects RX1 yX1_estimatedWord yX1_estimatedWord, Cond.code yX1_estimatedWord cX1_estimatedWord 1 (some .int), Cond.methodLink RX3 166 yX1_desiredTop, Cond.methodLink RL 59 yX4_told, Cond.instanceMethod yX4_told, Cond.selects RX4 yX4_told yX4_told, Cond.code yX4_told cX4_told 2 (some .int), Cond.methodLink RX4 154 yX4_cues, Cond.instanceMethod yX4_cues, Cond.selects RX4 yX4_cues yX4_cues, Cond.code yX4_cues cX4_cues 3 (some .int), Cond.methodLink RL 60 yX3_setting, Cond.instanceMethod yX3_setting, Cond.selects RX3 yX3_setting yX3_setting, Cond.code yX3_setting cX3_setting 2 (some .int), Cond.methodLink RL 63 yX4_setting, Cond.instanceMethod yX4_setting, Cond.selects RX4 yX4_setting yX4_setting]
def wsL_law_r23 : List Cond := [Cond.code yX4_setting cX4_setting 2 (some .int), Cond.methodLink RL 64 yX3_word, Cond.instanceMethod yX3_word, Cond.selects RX3 yX3_word yX3_word, Cond.code yX3_word cX3_word 4 (some .int), Cond.fieldLink RX3 196 "Teleprompter$Script" "letters" "[I", Cond.fieldLink RX3 199 "Teleprompter$Script" "rowOf" "[I", Cond.fieldLink RX3 202 "Teleprompter$Script" "passageOf" "[I", Cond.fieldLink RX3 205 "Teleprompter$Script" "cues" "[I", Cond.methodLink RX3 208 yX1_shows, Cond.methodLink RL 67 yX4_word, Cond.instanceMethod yX4_word, Cond.selects RX4 yX4_word yX4_word, Cond.code yX4_word cX4_word 3 (some .int), Cond.methodLink RL 68 yX3_row, Cond.instanceMethod yX3_row, Cond.selects RX3 yX3_row yX3_row, Cond.code yX3_row cX3_row 3 (some .int), Cond.fieldLink RX3 211 "Teleprompter$Script" "firstOfRow" "[I", Cond.methodLink RX3 214 yX0_rowLength, Cond.instanceMethod yX0_rowLength, Cond.selects RX0 yX0_rowLength yX0_rowLength, Cond.code yX0_rowLength cX0_rowLength 3 (some .int), Cond.methodLink RL 71 yX4_row]
def wsL_law_r24 : List Cond := [Cond.instanceMethod yX4_row, Cond.selects RX4 yX4_row yX4_row, Cond.code yX4_row cX4_row 6 (some .int), Cond.methodLink RL 72 yX3_heard, Cond.instanceMethod yX3_heard, Cond.selects RX3 yX3_heard yX3_heard, Cond.code yX3_heard cX3_heard 2 (some .int), Cond.fieldLink RX3 217 "Teleprompter$State" "kept" "[I", Cond.methodLink RL 75 yX4_heard, Cond.instanceMethod yX4_heard, Cond.selects RX4 yX4_heard yX4_heard, Cond.code yX4_heard cX4_heard 2 (some .int), Cond.methodLink RL 76 yX3_trail, Cond.instanceMethod yX3_trail, Cond.selects RX3 yX3_trail yX3_trail, Cond.code yX3_trail cX3_trail 3 (some .int), Cond.fieldLink RX3 220 "Teleprompter$Trail" "times" "[I", Cond.fieldLink RX3 223 "Teleprompter$Trail" "positions" "[I", Cond.methodLink RL 79 yX4_trail, Cond.instanceMethod yX4_trail, Cond.selects RX4 yX4_trail yX4_trail, Cond.code yX4_trail cX4_trail 3 (some .int), Cond.methodLink RL 80 yX3_score, Cond.instanceMethod yX3_score]
def wsL_law_r25 : List Cond := [Cond.selects RX3 yX3_score yX3_score, Cond.code yX3_score cX3_score 2 (some .int), Cond.methodLink RX3 226 yX1_points, Cond.methodLink RL 83 yX4_score, Cond.instanceMethod yX4_score, Cond.selects RX4 yX4_score yX4_score, Cond.code yX4_score cX4_score 2 (some .int), Cond.methodLink RL 84 yX3_best, Cond.instanceMethod yX3_best, Cond.selects RX3 yX3_best yX3_best, Cond.code yX3_best cX3_best 4 (some .int), Cond.methodLink RX3 229 yX1_bestCandidate, Cond.methodLink RX3 232 yX1_accepts, Cond.methodLink RL 87 yX4_best, Cond.instanceMethod yX4_best, Cond.selects RX4 yX4_best yX4_best, Cond.code yX4_best cX4_best 4 (some .int), Cond.methodLink RL 88 yX3_unique, Cond.instanceMethod yX3_unique, Cond.selects RX3 yX3_unique yX3_unique, Cond.code yX3_unique cX3_unique 2 (some .int), Cond.methodLink RX3 235 yX0_uniqueLength, Cond.instanceMethod yX0_uniqueLength, Cond.selects RX0 yX0_uniqueLength yX0_uniqueLength]
def wsL_law_r26 : List Cond := [Cond.code yX0_uniqueLength cX0_uniqueLength 3 (some .int), Cond.methodLink RX0 67 yX0_endsElsewhere, Cond.instanceMethod yX0_endsElsewhere, Cond.selects RX0 yX0_endsElsewhere yX0_endsElsewhere, Cond.code yX0_endsElsewhere cX0_endsElsewhere 4 (some .boolean), Cond.methodLink RX0 71 yX0_sameEnding, Cond.instanceMethod yX0_sameEnding, Cond.selects RX0 yX0_sameEnding yX0_sameEnding, Cond.code yX0_sameEnding cX0_sameEnding 5 (some .boolean), Cond.methodLink RL 91 yX4_unique, Cond.instanceMethod yX4_unique, Cond.selects RX4 yX4_unique yX4_unique, Cond.code yX4_unique cX4_unique 3 (some .int), Cond.methodLink RX4 157 yX4_isElsewhere, Cond.instanceMethod yX4_isElsewhere, Cond.selects RX4 yX4_isElsewhere yX4_isElsewhere, Cond.code yX4_isElsewhere cX4_isElsewhere 6 (some .boolean), Cond.methodLink RL 92 yX3_mean, Cond.instanceMethod yX3_mean, Cond.selects RX3 yX3_mean yX3_mean, Cond.code yX3_mean cX3_mean 2 (some .float), Cond.methodLink RL 96 yX4_mean, Cond.instanceMethod yX4_mean, Cond.selects RX4 yX4_mean yX4_mean]
def wsL_law_r27 : List Cond := [Cond.code yX4_mean cX4_mean 1 (some .float), Cond.methodLink RL 97 yX3_reached, Cond.instanceMethod yX3_reached, Cond.selects RX3 yX3_reached yX3_reached, Cond.code yX3_reached cX3_reached 2 (some .int), Cond.methodLink RX3 238 yX1_ticksTo, Cond.instanceMethod yX1_ticksTo, Cond.selects RX1 yX1_ticksTo yX1_ticksTo, Cond.code yX1_ticksTo cX1_ticksTo 4 (some .int), Cond.methodLink RL 100 yX4_reached, Cond.instanceMethod yX4_reached, Cond.selects RX4 yX4_reached yX4_reached, Cond.code yX4_reached cX4_reached 5 (some .int), Cond.methodLink RL 101 yX3_rehearse, Cond.instanceMethod yX3_rehearse, Cond.selects RX3 yX3_rehearse yX3_rehearse, Cond.code yX3_rehearse cX3_rehearse 3 (some .int), Cond.methodLink RX3 241 yX1_readToEnd, Cond.instanceMethod yX1_readToEnd, Cond.selects RX1 yX1_readToEnd yX1_readToEnd, Cond.code yX1_readToEnd cX1_readToEnd 4 none, Cond.methodLink RX1 152 yX1_passTime, Cond.methodLink RX1 155 yX1_listen, Cond.methodLink RX1 161 yX0_freeCue]
def wsL_law_r28 : List Cond := [Cond.methodLink RL 104 yX4_rehearse, Cond.instanceMethod yX4_rehearse, Cond.selects RX4 yX4_rehearse yX4_rehearse, Cond.code yX4_rehearse cX4_rehearse 7 (some .int), Cond.methodLink RX4 160 yX4_hold, Cond.instanceMethod yX4_hold, Cond.selects RX4 yX4_hold yX4_hold, Cond.code yX4_hold cX4_hold 2 none, Cond.methodLink RX4 163 yX4_restore, Cond.instanceMethod yX4_restore, Cond.selects RX4 yX4_restore yX4_restore, Cond.code yX4_restore cX4_restore 2 none, Cond.methodLink RL 105 yX3_keep, Cond.instanceMethod yX3_keep, Cond.selects RX3 yX3_keep yX3_keep, Cond.code yX3_keep cX3_keep 2 (some .int), Cond.methodLink RL 108 yX4_keep, Cond.instanceMethod yX4_keep, Cond.selects RX4 yX4_keep yX4_keep, Cond.code yX4_keep cX4_keep 3 (some .int), Cond.fieldLink RX4 169 "TeleprompterModel" "filled" "I", Cond.methodLink RX4 166 yX4_isImage, Cond.static yX4_isImage, Cond.code yX4_isImage cX4_isImage 1 (some .boolean)]
def wsL_law_r29 : List Cond := [Cond.methodLink RL 109 yX3_back, Cond.instanceMethod yX3_back, Cond.selects RX3 yX3_back yX3_back, Cond.code yX3_back cX3_back 2 (some .int), Cond.methodLink RL 112 yX4_back, Cond.instanceMethod yX4_back, Cond.selects RX4 yX4_back yX4_back, Cond.code yX4_back cX4_back 3 (some .int)]
def wsL_law : List Cond := (wsL_law_r1 ++ (wsL_law_r2 ++ (wsL_law_r3 ++ (wsL_law_r4 ++ (wsL_law_r5 ++ (wsL_law_r6 ++ (wsL_law_r7 ++ (wsL_law_r8 ++ (wsL_law_r9 ++ (wsL_law_r10 ++ (wsL_law_r11 ++ (wsL_law_r12 ++ (wsL_law_r13 ++ (wsL_law_r14 ++ (wsL_law_r15 ++ (wsL_law_r16 ++ (wsL_law_r17 ++ (wsL_law_r18 ++ (wsL_law_r19 ++ (wsL_law_r20 ++ (wsL_law_r21 ++ (wsL_law_r22 ++ (wsL_law_r23 ++ (wsL_law_r24 ++ (wsL_law_r25 ++ (wsL_law_r26 ++ (wsL_law_r27 ++ (wsL_law_r28 ++ wsL_law_r29)))))))))))))))))))))))))))) ++ wsX30 ++ wsX40 ++ wsX00 ++ wsX10 ++ wsX20 ++ ([] : List Cond)
abbrev vwCl : List vw_C := [(RX0, TX0, 9), (RX1, TX1, 15), (RX2, TX2, 3), (RX3, TX3, 11), (RX4, TX4, 19)]
end
section
theorem dX0_init_0 : decode cX0_init 0 = .ok (.aload_n 0, 1) := by decide +kernel
theorem dX0_init_1 : decode cX0_init 1 = .ok (.invokespecial 3, 3) := by decide +kernel
theorem dX0_init_4 : decode cX0_init 4 = .ok (.aload_n 0, 1) := by decide +kernel
theorem dX0_init_5 : decode cX0_init 5 = .ok (.bipush 120, 2) := by decide +kernel
theorem dX0_init_7 : decode cX0_init 7 = .ok (.newarray .int, 2) := by decide +kernel
theorem dX0_init_9 : decode cX0_init 9 = .ok (.putfield 9, 3) := by decide +kernel
theorem dX0_init_12 : decode cX0_init 12 = .ok (.aload_n 0, 1) := by decide +kernel
theorem dX0_init_13 : decode cX0_init 13 = .ok (.bipush 120, 2) := by decide +kernel
theorem dX0_init_15 : decode cX0_init 15 = .ok (.newarray .int, 2) := by decide +kernel
theorem dX0_init_17 : decode cX0_init 17 = .ok (.putfield 15, 3) := by decide +kernel
theorem dX0_init_20 : decode cX0_init 20 = .ok (.aload_n 0, 1) := by decide +kernel
theorem dX0_init_21 : decode cX0_init 21 = .ok (.bipush 120, 2) := by decide +kernel
theorem dX0_init_23 : decode cX0_init 23 = .ok (.newarray .int, 2) := by decide +kernel
theorem dX0_init_25 : decode cX0_init 25 = .ok (.putfield 18, 3) := by decide +kernel
theorem dX0_init_28 : decode cX0_init 28 = .ok (.aload_n 0, 1) := by decide +kernel
theorem dX0_init_29 : decode cX0_init 29 = .ok (.bipush 120, 2) := by decide +kernel
theorem dX0_init_31 : decode cX0_init 31 = .ok (.newarray .int, 2) := by decide +kernel
theorem dX0_init_33 : decode cX0_init 33 = .ok (.putfield 21, 3) := by decide +kernel
theorem dX0_init_36 : decode cX0_init 36 = .ok (.aload_n 0, 1) := by decide +kernel
theorem dX0_init_37 : decode cX0_init 37 = .ok (.bipush 120, 2) := by decide +kernel
theorem dX0_init_39 : decode cX0_init 39 = .ok (.newarray .int, 2) := by decide +kernel
theorem dX0_init_41 : decode cX0_init 41 = .ok (.putfield 24, 3) := by decide +kernel
theorem dX0_init_44 : decode cX0_init 44 = .ok (.return_, 1) := by decide +kernel
set_option maxRecDepth 20000 in
theorem ggX0_become_X3_copyRow : GoodIn wsX0_become wsX3_copyRow := goodIn_r _ [12, 13, 14, 15, 16, 17, 18, 19, 20] (by decide +kernel) (by decide +kernel)
set_option maxRecDepth 20000 in
theorem gX0_become_X3_copyRow_n40 : GoodIn wsX0_become (wsX3_copyRow) := ggX0_become_X3_copyRow
theorem dX0_become_0 : decode cX0_become 0 = .ok (.aload_n 0, 1) := by decide +kernel
theorem dX0_become_1 : decode cX0_become 1 = .ok (.aload_n 1, 1) := by decide +kernel
theorem dX0_become_2 : decode cX0_become 2 = .ok (.getfield 27, 3) := by decide +kernel
theorem dX0_become_5 : decode cX0_become 5 = .ok (.putfield 27, 3) := by decide +kernel
theorem dX0_become_8 : decode cX0_become 8 = .ok (.aload_n 0, 1) := by decide +kernel
theorem dX0_become_9 : decode cX0_become 9 = .ok (.aload_n 1, 1) := by decide +kernel
theorem dX0_become_10 : decode cX0_become 10 = .ok (.getfield 31, 3) := by decide +kernel
theorem dX0_become_13 : decode cX0_become 13 = .ok (.putfield 31, 3) := by decide +kernel
theorem dX0_become_16 : decode cX0_become 16 = .ok (.aload_n 0, 1) := by decide +kernel
theorem dX0_become_17 : decode cX0_become 17 = .ok (.aload_n 1, 1) := by decide +kernel
theorem dX0_become_18 : decode cX0_become 18 = .ok (.getfield 34, 3) := by decide +kernel
theorem dX0_become_21 : decode cX0_become 21 = .ok (.putfield 34, 3) := by decide +kernel
theorem dX0_become_24 : decode cX0_become 24 = .ok (.aload_n 0, 1) := by decide +kernel
theorem dX0_become_25 : decode cX0_become 25 = .ok (.aload_n 1, 1) := by decide +kernel
theorem dX0_become_26 : decode cX0_become 26 = .ok (.getfield 37, 3) := by decide +kernel
theorem dX0_become_29 : decode cX0_become 29 = .ok (.putfield 37, 3) := by decide +kernel
theorem dX0_become_32 : decode cX0_become 32 = .ok (.aload_n 1, 1) := by decide +kernel
theorem dX0_become_33 : decode cX0_become 33 = .ok (.getfield 9, 3) := by decide +kernel
theorem dX0_become_36 : decode cX0_become 36 = .ok (.aload_n 0, 1) := by decide +kernel
theorem dX0_become_37 : decode cX0_become 37 = .ok (.getfield 9, 3) := by decide +kernel
theorem dX0_become_40 : decode cX0_become 40 = .ok (.invokestatic 40, 3) := by decide +kernel
theorem dX0_become_43 : decode cX0_become 43 = .ok (.aload_n 1, 1) := by decide +kernel
theorem dX0_become_44 : decode cX0_become 44 = .ok (.getfield 15, 3) := by decide +kernel
theorem dX0_become_47 : decode cX0_become 47 = .ok (.aload_n 0, 1) := by decide +kernel
theorem dX0_become_48 : decode cX0_become 48 = .ok (.getfield 15, 3) := by decide +kernel
theorem dX0_become_51 : decode cX0_become 51 = .ok (.invokestatic 40, 3) := by decide +kernel
theorem dX0_become_54 : decode cX0_become 54 = .ok (.aload_n 1, 1) := by decide +kernel
theorem dX0_become_55 : decode cX0_become 55 = .ok (.getfield 18, 3) := by decide +kernel
theorem dX0_become_58 : decode cX0_become 58 = .ok (.aload_n 0, 1) := by decide +kernel
theorem dX0_become_59 : decode cX0_become 59 = .ok (.getfield 18, 3) := by decide +kernel
theorem dX0_become_62 : decode cX0_become 62 = .ok (.invokestatic 40, 3) := by decide +kernel
theorem dX0_become_65 : decode cX0_become 65 = .ok (.aload_n 1, 1) := by decide +kernel
theorem dX0_become_66 : decode cX0_become 66 = .ok (.getfield 21, 3) := by decide +kernel
theorem dX0_become_69 : decode cX0_become 69 = .ok (.aload_n 0, 1) := by decide +kernel
theorem dX0_become_70 : decode cX0_become 70 = .ok (.getfield 21, 3) := by decide +kernel
theorem dX0_become_73 : decode cX0_become 73 = .ok (.invokestatic 40, 3) := by decide +kernel
theorem dX0_become_76 : decode cX0_become 76 = .ok (.aload_n 1, 1) := by decide +kernel
theorem dX0_become_77 : decode cX0_become 77 = .ok (.getfield 24, 3) := by decide +kernel
theorem dX0_become_80 : decode cX0_become 80 = .ok (.aload_n 0, 1) := by decide +kernel
theorem dX0_become_81 : decode cX0_become 81 = .ok (.getfield 24, 3) := by decide +kernel
theorem dX0_become_84 : decode cX0_become 84 = .ok (.invokestatic 40, 3) := by decide +kernel
theorem dX0_become_87 : decode cX0_become 87 = .ok (.return_, 1) := by decide +kernel
theorem dX0_empty_0 : decode cX0_empty 0 = .ok (.aload_n 0, 1) := by decide +kernel
theorem dX0_empty_1 : decode cX0_empty 1 = .ok (.iconst 0, 1) := by decide +kernel
theorem dX0_empty_2 : decode cX0_empty 2 = .ok (.putfield 27, 3) := by decide +kernel
theorem dX0_empty_5 : decode cX0_empty 5 = .ok (.aload_n 0, 1) := by decide +kernel
theorem dX0_empty_6 : decode cX0_empty 6 = .ok (.iconst 1, 1) := by decide +kernel
theorem dX0_empty_7 : decode cX0_empty 7 = .ok (.putfield 31, 3) := by decide +kernel
theorem dX0_empty_10 : decode cX0_empty 10 = .ok (.aload_n 0, 1) := by decide +kernel
theorem dX0_empty_11 : decode cX0_empty 11 = .ok (.iconst 0, 1) := by decide +kernel
theorem dX0_empty_12 : decode cX0_empty 12 = .ok (.putfield 34, 3) := by decide +kernel
theorem dX0_empty_15 : decode cX0_empty 15 = .ok (.return_, 1) := by decide +kernel
set_option maxRecDepth 20000 in
theorem ggX0_read_X3_isLetter : GoodIn wsX0_read wsX3_isLetter := goodIn_r _ [4] (by decide +kernel) (by decide +kernel)
set_option maxRecDepth 20000 in
theorem gX0_read_X3_isLetter_n44 : GoodIn wsX0_read (wsX3_isLetter) := ggX0_read_X3_isLetter
set_option maxRecDepth 20000 in
theorem ggX0_read_X0_append : GoodIn wsX0_read wsX0_append := goodIn_r _ [9, 10, 11, 12, 13, 14, 1, 15, 3, 16, 25, 26, 27, 28, 29, 30, 31, 32, 33] (by decide +kernel) (by decide +kernel)
set_option maxRecDepth 20000 in
theorem gX0_read_X0_append : GoodIn wsX0_read (wsV RX0 48 RX0 yX0_append wsX0_append) := goodIn_app (goodIn_of _ (by decide +kernel)) ggX0_read_X0_append
set_option maxRecDepth 20000 in
theorem ggX0_read_X0_setCue : GoodIn wsX0_read wsX0_setCue := goodIn_r _ [20, 14, 10, 15, 3, 16, 25, 26, 27, 28, 29, 30, 31, 32, 33] (by decide +kernel) (by decide +kernel)
set_option maxRecDepth 20000 in
theorem gX0_read_X0_setCue : GoodIn wsX0_read (wsV RX0 52 RX0 yX0_setCue wsX0_setCue) := goodIn_app (goodIn_of _ (by decide +kernel)) ggX0_read_X0_setCue
set_option maxRecDepth 20000 in
theorem ggX0_read_X0_endPassage : GoodIn wsX0_read wsX0_endPassage := goodIn_r _ [24, 13, 1, 25, 26, 27, 28, 29, 30, 31, 32, 33] (by decide +kernel) (by decide +kernel)
set_option maxRecDepth 20000 in
theorem gX0_read_X0_endPassage : GoodIn wsX0_read (wsV RX0 56 RX0 yX0_endPassage wsX0_endPassage) := goodIn_app (goodIn_of _ (by decide +kernel)) ggX0_read_X0_endPassage
theorem dX0_read_0 : decode cX0_read 0 = .ok (.iload_n 1, 1) := by decide +kernel
theorem dX0_read_1 : decode cX0_read 1 = .ok (.invokestatic 44, 3) := by decide +kernel
theorem dX0_read_4 : decode cX0_read 4 = .ok (.ifCond .eq 9, 3) := by decide +kernel
theorem dX0_read_7 : decode cX0_read 7 = .ok (.aload_n 0, 1) := by decide +kernel
theorem dX0_read_8 : decode cX0_read 8 = .ok (.iload_n 1, 1) := by decide +kernel
theorem dX0_read_9 : decode cX0_read 9 = .ok (.invokevirtual 48, 3) := by decide +kernel
theorem dX0_read_12 : decode cX0_read 12 = .ok (.ireturn, 1) := by decide +kernel
theorem dX0_read_13 : decode cX0_read 13 = .ok (.iload_n 1, 1) := by decide +kernel
theorem dX0_read_14 : decode cX0_read 14 = .ok (.bipush 47, 2) := by decide +kernel
theorem dX0_read_16 : decode cX0_read 16 = .ok (.if_icmp .ne 19, 3) := by decide +kernel
theorem dX0_read_19 : decode cX0_read 19 = .ok (.iload_n 2, 1) := by decide +kernel
theorem dX0_read_20 : decode cX0_read 20 = .ok (.invokestatic 44, 3) := by decide +kernel
theorem dX0_read_23 : decode cX0_read 23 = .ok (.ifCond .eq 10, 3) := by decide +kernel
theorem dX0_read_26 : decode cX0_read 26 = .ok (.aload_n 0, 1) := by decide +kernel
theorem dX0_read_27 : decode cX0_read 27 = .ok (.invokevirtual 52, 3) := by decide +kernel
theorem dX0_read_30 : decode cX0_read 30 = .ok (.goto 4, 3) := by decide +kernel
theorem dX0_read_33 : decode cX0_read 33 = .ok (.iconst 2, 1) := by decide +kernel
theorem dX0_read_34 : decode cX0_read 34 = .ok (.ireturn, 1) := by decide +kernel
theorem dX0_read_35 : decode cX0_read 35 = .ok (.iload_n 1, 1) := by decide +kernel
theorem dX0_read_36 : decode cX0_read 36 = .ok (.bipush 124, 2) := by decide +kernel
theorem dX0_read_38 : decode cX0_read 38 = .ok (.if_icmp .ne 19, 3) := by decide +kernel
theorem dX0_read_41 : decode cX0_read 41 = .ok (.aload_n 0, 1) := by decide +kernel
theorem dX0_read_42 : decode cX0_read 42 = .ok (.getfield 34, 3) := by decide +kernel
theorem dX0_read_45 : decode cX0_read 45 = .ok (.ifCond .le 10, 3) := by decide +kernel
theorem dX0_read_48 : decode cX0_read 48 = .ok (.aload_n 0, 1) := by decide +kernel
theorem dX0_read_49 : decode cX0_read 49 = .ok (.invokevirtual 56, 3) := by decide +kernel
theorem dX0_read_52 : decode cX0_read 52 = .ok (.goto 4, 3) := by decide +kernel
theorem dX0_read_55 : decode cX0_read 55 = .ok (.iconst 3, 1) := by decide +kernel
theorem dX0_read_56 : decode cX0_read 56 = .ok (.ireturn, 1) := by decide +kernel
theorem dX0_read_57 : decode cX0_read 57 = .ok (.iload_n 1, 1) := by decide +kernel
theorem dX0_read_58 : decode cX0_read 58 = .ok (.bipush 32, 2) := by decide +kernel
theorem dX0_read_60 : decode cX0_read 60 = .ok (.if_icmp .ne 7, 3) := by decide +kernel
theorem dX0_read_63 : decode cX0_read 63 = .ok (.iconst 0, 1) := by decide +kernel
theorem dX0_read_64 : decode cX0_read 64 = .ok (.goto 4, 3) := by decide +kernel
theorem dX0_read_67 : decode cX0_read 67 = .ok (.iconst 1, 1) := by decide +kernel
theorem dX0_read_68 : decode cX0_read 68 = .ok (.ireturn, 1) := by decide +kernel
set_option maxRecDepth 20000 in
theorem ggX0_append_X3_put : GoodIn wsX0_append wsX3_put := goodIn_r _ [9] (by decide +kernel) (by decide +kernel)
set_option maxRecDepth 20000 in
theorem gX0_append_X3_put_n59 : GoodIn wsX0_append (wsX3_put) := ggX0_append_X3_put
theorem dX0_append_0 : decode cX0_append 0 = .ok (.aload_n 0, 1) := by decide +kernel
theorem dX0_append_1 : decode cX0_append 1 = .ok (.getfield 27, 3) := by decide +kernel
theorem dX0_append_4 : decode cX0_append 4 = .ok (.bipush 120, 2) := by decide +kernel
theorem dX0_append_6 : decode cX0_append 6 = .ok (.if_icmp .lt 5, 3) := by decide +kernel
theorem dX0_append_9 : decode cX0_append 9 = .ok (.iconst 4, 1) := by decide +kernel
theorem dX0_append_10 : decode cX0_append 10 = .ok (.ireturn, 1) := by decide +kernel
theorem dX0_append_11 : decode cX0_append 11 = .ok (.aload_n 0, 1) := by decide +kernel
theorem dX0_append_12 : decode cX0_append 12 = .ok (.getfield 9, 3) := by decide +kernel
theorem dX0_append_15 : decode cX0_append 15 = .ok (.aload_n 0, 1) := by decide +kernel
theorem dX0_append_16 : decode cX0_append 16 = .ok (.getfield 27, 3) := by decide +kernel
theorem dX0_append_19 : decode cX0_append 19 = .ok (.iload_n 1, 1) := by decide +kernel
theorem dX0_append_20 : decode cX0_append 20 = .ok (.invokestatic 59, 3) := by decide +kernel
theorem dX0_append_23 : decode cX0_append 23 = .ok (.aload_n 0, 1) := by decide +kernel
theorem dX0_append_24 : decode cX0_append 24 = .ok (.getfield 15, 3) := by decide +kernel
theorem dX0_append_27 : decode cX0_append 27 = .ok (.aload_n 0, 1) := by decide +kernel
theorem dX0_append_28 : decode cX0_append 28 = .ok (.getfield 27, 3) := by decide +kernel
theorem dX0_append_31 : decode cX0_append 31 = .ok (.aload_n 0, 1) := by decide +kernel
theorem dX0_append_32 : decode cX0_append 32 = .ok (.getfield 31, 3) := by decide +kernel
theorem dX0_append_35 : decode cX0_append 35 = .ok (.iconst 1, 1) := by decide +kernel
theorem dX0_append_36 : decode cX0_append 36 = .ok (.isub, 1) := by decide +kernel
theorem dX0_append_37 : decode cX0_append 37 = .ok (.invokestatic 59, 3) := by decide +kernel
theorem dX0_append_40 : decode cX0_append 40 = .ok (.aload_n 0, 1) := by decide +kernel
theorem dX0_append_41 : decode cX0_append 41 = .ok (.getfield 18, 3) := by decide +kernel
theorem dX0_append_44 : decode cX0_append 44 = .ok (.aload_n 0, 1) := by decide +kernel
theorem dX0_append_45 : decode cX0_append 45 = .ok (.getfield 27, 3) := by decide +kernel
theorem dX0_append_48 : decode cX0_append 48 = .ok (.iconst 0, 1) := by decide +kernel
theorem dX0_append_49 : decode cX0_append 49 = .ok (.invokestatic 59, 3) := by decide +kernel
theorem dX0_append_52 : decode cX0_append 52 = .ok (.aload_n 0, 1) := by decide +kernel
theorem dX0_append_53 : decode cX0_append 53 = .ok (.dup, 1) := by decide +kernel
theorem dX0_append_54 : decode cX0_append 54 = .ok (.getfield 27, 3) := by decide +kernel
theorem dX0_append_57 : decode cX0_append 57 = .ok (.iconst 1, 1) := by decide +kernel
theorem dX0_append_58 : decode cX0_append 58 = .ok (.iadd, 1) := by decide +kernel
theorem dX0_append_59 : decode cX0_append 59 = .ok (.putfield 27, 3) := by decide +kernel
theorem dX0_append_62 : decode cX0_append 62 = .ok (.aload_n 0, 1) := by decide +kernel
theorem dX0_append_63 : decode cX0_append 63 = .ok (.dup, 1) := by decide +kernel
theorem dX0_append_64 : decode cX0_append 64 = .ok (.getfield 34, 3) := by decide +kernel
theorem dX0_append_67 : decode cX0_append 67 = .ok (.iconst 1, 1) := by decide +kernel
theorem dX0_append_68 : decode cX0_append 68 = .ok (.iadd, 1) := by decide +kernel
theorem dX0_append_69 : decode cX0_append 69 = .ok (.putfield 34, 3) := by decide +kernel
theorem dX0_append_72 : decode cX0_append 72 = .ok (.iconst 0, 1) := by decide +kernel
theorem dX0_append_73 : decode cX0_append 73 = .ok (.ireturn, 1) := by decide +kernel
set_option maxRecDepth 20000 in
theorem ggX0_setCue_X3_put : GoodIn wsX0_setCue wsX3_put := goodIn_r _ [5] (by decide +kernel) (by decide +kernel)
set_option maxRecDepth 20000 in
theorem gX0_setCue_X3_put_n59 : GoodIn wsX0_setCue (wsX3_put) := ggX0_setCue_X3_put
theorem dX0_setCue_0 : decode cX0_setCue 0 = .ok (.aload_n 0, 1) := by decide +kernel
theorem dX0_setCue_1 : decode cX0_setCue 1 = .ok (.getfield 18, 3) := by decide +kernel
theorem dX0_setCue_4 : decode cX0_setCue 4 = .ok (.aload_n 0, 1) := by decide +kernel
theorem dX0_setCue_5 : decode cX0_setCue 5 = .ok (.getfield 27, 3) := by decide +kernel
theorem dX0_setCue_8 : decode cX0_setCue 8 = .ok (.iconst 1, 1) := by decide +kernel
theorem dX0_setCue_9 : decode cX0_setCue 9 = .ok (.isub, 1) := by decide +kernel
theorem dX0_setCue_10 : decode cX0_setCue 10 = .ok (.iconst 1, 1) := by decide +kernel
theorem dX0_setCue_11 : decode cX0_setCue 11 = .ok (.invokestatic 59, 3) := by decide +kernel
theorem dX0_setCue_14 : decode cX0_setCue 14 = .ok (.iconst 0, 1) := by decide +kernel
theorem dX0_setCue_15 : decode cX0_setCue 15 = .ok (.ireturn, 1) := by decide +kernel
theorem dX0_endPassage_0 : decode cX0_endPassage 0 = .ok (.aload_n 0, 1) := by decide +kernel
theorem dX0_endPassage_1 : decode cX0_endPassage 1 = .ok (.dup, 1) := by decide +kernel
theorem dX0_endPassage_2 : decode cX0_endPassage 2 = .ok (.getfield 31, 3) := by decide +kernel
theorem dX0_endPassage_5 : decode cX0_endPassage 5 = .ok (.iconst 1, 1) := by decide +kernel
theorem dX0_endPassage_6 : decode cX0_endPassage 6 = .ok (.iadd, 1) := by decide +kernel
theorem dX0_endPassage_7 : decode cX0_endPassage 7 = .ok (.putfield 31, 3) := by decide +kernel
theorem dX0_endPassage_10 : decode cX0_endPassage 10 = .ok (.aload_n 0, 1) := by decide +kernel
theorem dX0_endPassage_11 : decode cX0_endPassage 11 = .ok (.iconst 0, 1) := by decide +kernel
theorem dX0_endPassage_12 : decode cX0_endPassage 12 = .ok (.putfield 34, 3) := by decide +kernel
theorem dX0_endPassage_15 : decode cX0_endPassage 15 = .ok (.iconst 0, 1) := by decide +kernel
theorem dX0_endPassage_16 : decode cX0_endPassage 16 = .ok (.ireturn, 1) := by decide +kernel
set_option maxRecDepth 20000 in
theorem ggX0_lay_X3_at : GoodIn wsX0_lay wsX3_at := goodIn_r _ [8] (by decide +kernel) (by decide +kernel)
set_option maxRecDepth 20000 in
theorem gX0_lay_X3_at_n63 : GoodIn wsX0_lay (wsX3_at) := ggX0_lay_X3_at
set_option maxRecDepth 20000 in
theorem ggX0_lay_X3_put : GoodIn wsX0_lay wsX3_put := goodIn_r _ [10] (by decide +kernel) (by decide +kernel)
set_option maxRecDepth 20000 in
theorem gX0_lay_X3_put_n59 : GoodIn wsX0_lay (wsX3_put) := ggX0_lay_X3_put
theorem dX0_lay_0 : decode cX0_lay 0 = .ok (.iconst 0, 1) := by decide +kernel
theorem dX0_lay_1 : decode cX0_lay 1 = .ok (.istore_n 2, 1) := by decide +kernel
theorem dX0_lay_2 : decode cX0_lay 2 = .ok (.aload_n 0, 1) := by decide +kernel
theorem dX0_lay_3 : decode cX0_lay 3 = .ok (.iconst 0, 1) := by decide +kernel
theorem dX0_lay_4 : decode cX0_lay 4 = .ok (.putfield 37, 3) := by decide +kernel
theorem dX0_lay_7 : decode cX0_lay 7 = .ok (.iconst 0, 1) := by decide +kernel
theorem dX0_lay_8 : decode cX0_lay 8 = .ok (.istore_n 3, 1) := by decide +kernel
theorem dX0_lay_9 : decode cX0_lay 9 = .ok (.iload_n 3, 1) := by decide +kernel
theorem dX0_lay_10 : decode cX0_lay 10 = .ok (.aload_n 0, 1) := by decide +kernel
theorem dX0_lay_11 : decode cX0_lay 11 = .ok (.getfield 27, 3) := by decide +kernel
theorem dX0_lay_14 : decode cX0_lay 14 = .ok (.if_icmp .ge 80, 3) := by decide +kernel
theorem dX0_lay_17 : decode cX0_lay 17 = .ok (.iload_n 2, 1) := by decide +kernel
theorem dX0_lay_18 : decode cX0_lay 18 = .ok (.ifCond .eq 29, 3) := by decide +kernel
theorem dX0_lay_21 : decode cX0_lay 21 = .ok (.iload_n 2, 1) := by decide +kernel
theorem dX0_lay_22 : decode cX0_lay 22 = .ok (.iload_n 1, 1) := by decide +kernel
theorem dX0_lay_23 : decode cX0_lay 23 = .ok (.if_icmp .ge 24, 3) := by decide +kernel
theorem dX0_lay_26 : decode cX0_lay 26 = .ok (.aload_n 0, 1) := by decide +kernel
theorem dX0_lay_27 : decode cX0_lay 27 = .ok (.getfield 15, 3) := by decide +kernel
theorem dX0_lay_30 : decode cX0_lay 30 = .ok (.iload_n 3, 1) := by decide +kernel
theorem dX0_lay_31 : decode cX0_lay 31 = .ok (.invokestatic 63, 3) := by decide +kernel
theorem dX0_lay_34 : decode cX0_lay 34 = .ok (.aload_n 0, 1) := by decide +kernel
theorem dX0_lay_35 : decode cX0_lay 35 = .ok (.getfield 15, 3) := by decide +kernel
theorem dX0_lay_38 : decode cX0_lay 38 = .ok (.iload_n 3, 1) := by decide +kernel
theorem dX0_lay_39 : decode cX0_lay 39 = .ok (.iconst 1, 1) := by decide +kernel
theorem dX0_lay_40 : decode cX0_lay 40 = .ok (.isub, 1) := by decide +kernel
theorem dX0_lay_41 : decode cX0_lay 41 = .ok (.invokestatic 63, 3) := by decide +kernel
theorem dX0_lay_44 : decode cX0_lay 44 = .ok (.if_icmp .eq 27, 3) := by decide +kernel
theorem dX0_lay_47 : decode cX0_lay 47 = .ok (.aload_n 0, 1) := by decide +kernel
theorem dX0_lay_48 : decode cX0_lay 48 = .ok (.getfield 24, 3) := by decide +kernel
theorem dX0_lay_51 : decode cX0_lay 51 = .ok (.aload_n 0, 1) := by decide +kernel
theorem dX0_lay_52 : decode cX0_lay 52 = .ok (.getfield 37, 3) := by decide +kernel
theorem dX0_lay_55 : decode cX0_lay 55 = .ok (.iload_n 3, 1) := by decide +kernel
theorem dX0_lay_56 : decode cX0_lay 56 = .ok (.invokestatic 59, 3) := by decide +kernel
theorem dX0_lay_59 : decode cX0_lay 59 = .ok (.aload_n 0, 1) := by decide +kernel
theorem dX0_lay_60 : decode cX0_lay 60 = .ok (.dup, 1) := by decide +kernel
theorem dX0_lay_61 : decode cX0_lay 61 = .ok (.getfield 37, 3) := by decide +kernel
theorem dX0_lay_64 : decode cX0_lay 64 = .ok (.iconst 1, 1) := by decide +kernel
theorem dX0_lay_65 : decode cX0_lay 65 = .ok (.iadd, 1) := by decide +kernel
theorem dX0_lay_66 : decode cX0_lay 66 = .ok (.putfield 37, 3) := by decide +kernel
theorem dX0_lay_69 : decode cX0_lay 69 = .ok (.iconst 0, 1) := by decide +kernel
theorem dX0_lay_70 : decode cX0_lay 70 = .ok (.istore_n 2, 1) := by decide +kernel
theorem dX0_lay_71 : decode cX0_lay 71 = .ok (.aload_n 0, 1) := by decide +kernel
theorem dX0_lay_72 : decode cX0_lay 72 = .ok (.getfield 21, 3) := by decide +kernel
theorem dX0_lay_75 : decode cX0_lay 75 = .ok (.iload_n 3, 1) := by decide +kernel
theorem dX0_lay_76 : decode cX0_lay 76 = .ok (.aload_n 0, 1) := by decide +kernel
theorem dX0_lay_77 : decode cX0_lay 77 = .ok (.getfield 37, 3) := by decide +kernel
theorem dX0_lay_80 : decode cX0_lay 80 = .ok (.iconst 1, 1) := by decide +kernel
theorem dX0_lay_81 : decode cX0_lay 81 = .ok (.isub, 1) := by decide +kernel
theorem dX0_lay_82 : decode cX0_lay 82 = .ok (.invokestatic 59, 3) := by decide +kernel
theorem dX0_lay_85 : decode cX0_lay 85 = .ok (.iinc 2 1, 3) := by decide +kernel
theorem dX0_lay_88 : decode cX0_lay 88 = .ok (.iinc 3 1, 3) := by decide +kernel
theorem dX0_lay_91 : decode cX0_lay 91 = .ok (.goto (-82), 3) := by decide +kernel
theorem dX0_lay_94 : decode cX0_lay 94 = .ok (.return_, 1) := by decide +kernel
theorem dX0_has_0 : decode cX0_has 0 = .ok (.iload_n 1, 1) := by decide +kernel
theorem dX0_has_1 : decode cX0_has 1 = .ok (.ifCond .lt 15, 3) := by decide +kernel
theorem dX0_has_4 : decode cX0_has 4 = .ok (.iload_n 1, 1) := by decide +kernel
theorem dX0_has_5 : decode cX0_has 5 = .ok (.aload_n 0, 1) := by decide +kernel
theorem dX0_has_6 : decode cX0_has 6 = .ok (.getfield 27, 3) := by decide +kernel
theorem dX0_has_9 : decode cX0_has 9 = .ok (.if_icmp .ge 7, 3) := by decide +kernel
theorem dX0_has_12 : decode cX0_has 12 = .ok (.iconst 1, 1) := by decide +kernel
theorem dX0_has_13 : decode cX0_has 13 = .ok (.goto 4, 3) := by decide +kernel
theorem dX0_has_16 : decode cX0_has 16 = .ok (.iconst 0, 1) := by decide +kernel
theorem dX0_has_17 : decode cX0_has 17 = .ok (.ireturn, 1) := by decide +kernel
set_option maxRecDepth 20000 in
theorem ggX0_rowLength_X3_at : GoodIn wsX0_rowLength wsX3_at := goodIn_r _ [6] (by decide +kernel) (by decide +kernel)
set_option maxRecDepth 20000 in
theorem gX0_rowLength_X3_at_n63 : GoodIn wsX0_rowLength (wsX3_at) := ggX0_rowLength_X3_at
theorem dX0_rowLength_0 : decode cX0_rowLength 0 = .ok (.iload_n 1, 1) := by decide +kernel
theorem dX0_rowLength_1 : decode cX0_rowLength 1 = .ok (.iconst 1, 1) := by decide +kernel
theorem dX0_rowLength_2 : decode cX0_rowLength 2 = .ok (.iadd, 1) := by decide +kernel
theorem dX0_rowLength_3 : decode cX0_rowLength 3 = .ok (.aload_n 0, 1) := by decide +kernel
theorem dX0_rowLength_4 : decode cX0_rowLength 4 = .ok (.getfield 37, 3) := by decide +kernel
theorem dX0_rowLength_7 : decode cX0_rowLength 7 = .ok (.if_icmp .ge 16, 3) := by decide +kernel
theorem dX0_rowLength_10 : decode cX0_rowLength 10 = .ok (.aload_n 0, 1) := by decide +kernel
theorem dX0_rowLength_11 : decode cX0_rowLength 11 = .ok (.getfield 24, 3) := by decide +kernel
theorem dX0_rowLength_14 : decode cX0_rowLength 14 = .ok (.iload_n 1, 1) := by decide +kernel
theorem dX0_rowLength_15 : decode cX0_rowLength 15 = .ok (.iconst 1, 1) := by decide +kernel
theorem dX0_rowLength_16 : decode cX0_rowLength 16 = .ok (.iadd, 1) := by decide +kernel
theorem dX0_rowLength_17 : decode cX0_rowLength 17 = .ok (.invokestatic 63, 3) := by decide +kernel
theorem dX0_rowLength_20 : decode cX0_rowLength 20 = .ok (.goto 7, 3) := by decide +kernel
theorem dX0_rowLength_23 : decode cX0_rowLength 23 = .ok (.aload_n 0, 1) := by decide +kernel
theorem dX0_rowLength_24 : decode cX0_rowLength 24 = .ok (.getfield 27, 3) := by decide +kernel
theorem dX0_rowLength_27 : decode cX0_rowLength 27 = .ok (.istore_n 2, 1) := by decide +kernel
theorem dX0_rowLength_28 : decode cX0_rowLength 28 = .ok (.iload_n 2, 1) := by decide +kernel
theorem dX0_rowLength_29 : decode cX0_rowLength 29 = .ok (.aload_n 0, 1) := by decide +kernel
theorem dX0_rowLength_30 : decode cX0_rowLength 30 = .ok (.getfield 24, 3) := by decide +kernel
theorem dX0_rowLength_33 : decode cX0_rowLength 33 = .ok (.iload_n 1, 1) := by decide +kernel
theorem dX0_rowLength_34 : decode cX0_rowLength 34 = .ok (.invokestatic 63, 3) := by decide +kernel
theorem dX0_rowLength_37 : decode cX0_rowLength 37 = .ok (.isub, 1) := by decide +kernel
theorem dX0_rowLength_38 : decode cX0_rowLength 38 = .ok (.ireturn, 1) := by decide +kernel
set_option maxRecDepth 20000 in
theorem ggX0_cueCount_X3_at : GoodIn wsX0_cueCount wsX3_at := goodIn_r _ [5] (by decide +kernel) (by decide +kernel)
set_option maxRecDepth 20000 in
theorem gX0_cueCount_X3_at_n63 : GoodIn wsX0_cueCount (wsX3_at) := ggX0_cueCount_X3_at
theorem dX0_cueCount_0 : decode cX0_cueCount 0 = .ok (.iconst 0, 1) := by decide +kernel
theorem dX0_cueCount_1 : decode cX0_cueCount 1 = .ok (.istore_n 1, 1) := by decide +kernel
theorem dX0_cueCount_2 : decode cX0_cueCount 2 = .ok (.iconst 0, 1) := by decide +kernel
theorem dX0_cueCount_3 : decode cX0_cueCount 3 = .ok (.istore_n 2, 1) := by decide +kernel
theorem dX0_cueCount_4 : decode cX0_cueCount 4 = .ok (.iload_n 2, 1) := by decide +kernel
theorem dX0_cueCount_5 : decode cX0_cueCount 5 = .ok (.aload_n 0, 1) := by decide +kernel
theorem dX0_cueCount_6 : decode cX0_cueCount 6 = .ok (.getfield 27, 3) := by decide +kernel
theorem dX0_cueCount_9 : decode cX0_cueCount 9 = .ok (.if_icmp .ge 23, 3) := by decide +kernel
theorem dX0_cueCount_12 : decode cX0_cueCount 12 = .ok (.aload_n 0, 1) := by decide +kernel
theorem dX0_cueCount_13 : decode cX0_cueCount 13 = .ok (.getfield 18, 3) := by decide +kernel
theorem dX0_cueCount_16 : decode cX0_cueCount 16 = .ok (.iload_n 2, 1) := by decide +kernel
theorem dX0_cueCount_17 : decode cX0_cueCount 17 = .ok (.invokestatic 63, 3) := by decide +kernel
theorem dX0_cueCount_20 : decode cX0_cueCount 20 = .ok (.ifCond .eq 6, 3) := by decide +kernel
theorem dX0_cueCount_23 : decode cX0_cueCount 23 = .ok (.iinc 1 1, 3) := by decide +kernel
theorem dX0_cueCount_26 : decode cX0_cueCount 26 = .ok (.iinc 2 1, 3) := by decide +kernel
theorem dX0_cueCount_29 : decode cX0_cueCount 29 = .ok (.goto (-25), 3) := by decide +kernel
theorem dX0_cueCount_32 : decode cX0_cueCount 32 = .ok (.iload_n 1, 1) := by decide +kernel
theorem dX0_cueCount_33 : decode cX0_cueCount 33 = .ok (.ireturn, 1) := by decide +kernel
set_option maxRecDepth 20000 in
theorem ggX0_nextCue_X3_at : GoodIn wsX0_nextCue wsX3_at := goodIn_r _ [5] (by decide +kernel) (by decide +kernel)
set_option maxRecDepth 20000 in
theorem gX0_nextCue_X3_at_n63 : GoodIn wsX0_nextCue (wsX3_at) := ggX0_nextCue_X3_at
theorem dX0_nextCue_0 : decode cX0_nextCue 0 = .ok (.iconst 0, 1) := by decide +kernel
theorem dX0_nextCue_1 : decode cX0_nextCue 1 = .ok (.istore_n 1, 1) := by decide +kernel
theorem dX0_nextCue_2 : decode cX0_nextCue 2 = .ok (.iload_n 1, 1) := by decide +kernel
theorem dX0_nextCue_3 : decode cX0_nextCue 3 = .ok (.aload_n 0, 1) := by decide +kernel
theorem dX0_nextCue_4 : decode cX0_nextCue 4 = .ok (.getfield 27, 3) := by decide +kernel
theorem dX0_nextCue_7 : decode cX0_nextCue 7 = .ok (.if_icmp .ge 23, 3) := by decide +kernel
theorem dX0_nextCue_10 : decode cX0_nextCue 10 = .ok (.aload_n 0, 1) := by decide +kernel
theorem dX0_nextCue_11 : decode cX0_nextCue 11 = .ok (.getfield 18, 3) := by decide +kernel
theorem dX0_nextCue_14 : decode cX0_nextCue 14 = .ok (.iload_n 1, 1) := by decide +kernel
theorem dX0_nextCue_15 : decode cX0_nextCue 15 = .ok (.invokestatic 63, 3) := by decide +kernel
theorem dX0_nextCue_18 : decode cX0_nextCue 18 = .ok (.iconst 1, 1) := by decide +kernel
theorem dX0_nextCue_19 : decode cX0_nextCue 19 = .ok (.if_icmp .ne 5, 3) := by decide +kernel
theorem dX0_nextCue_22 : decode cX0_nextCue 22 = .ok (.iload_n 1, 1) := by decide +kernel
theorem dX0_nextCue_23 : decode cX0_nextCue 23 = .ok (.ireturn, 1) := by decide +kernel
theorem dX0_nextCue_24 : decode cX0_nextCue 24 = .ok (.iinc 1 1, 3) := by decide +kernel
theorem dX0_nextCue_27 : decode cX0_nextCue 27 = .ok (.goto (-25), 3) := by decide +kernel
theorem dX0_nextCue_30 : decode cX0_nextCue 30 = .ok (.bipush (-9), 2) := by decide +kernel
theorem dX0_nextCue_32 : decode cX0_nextCue 32 = .ok (.ireturn, 1) := by decide +kernel
set_option maxRecDepth 20000 in
theorem ggX0_freeCue_X3_put : GoodIn wsX0_freeCue wsX3_put := goodIn_r _ [4] (by decide +kernel) (by decide +kernel)
set_option maxRecDepth 20000 in
theorem gX0_freeCue_X3_put_n59 : GoodIn wsX0_freeCue (wsX3_put) := ggX0_freeCue_X3_put
theorem dX0_freeCue_0 : decode cX0_freeCue 0 = .ok (.aload_n 0, 1) := by decide +kernel
theorem dX0_freeCue_1 : decode cX0_freeCue 1 = .ok (.getfield 18, 3) := by decide +kernel
theorem dX0_freeCue_4 : decode cX0_freeCue 4 = .ok (.iload_n 1, 1) := by decide +kernel
theorem dX0_freeCue_5 : decode cX0_freeCue 5 = .ok (.iconst 2, 1) := by decide +kernel
theorem dX0_freeCue_6 : decode cX0_freeCue 6 = .ok (.invokestatic 59, 3) := by decide +kernel
theorem dX0_freeCue_9 : decode cX0_freeCue 9 = .ok (.return_, 1) := by decide +kernel
set_option maxRecDepth 20000 in
theorem ggX0_passWaitingBefore_X3_at : GoodIn wsX0_passWaitingBefore wsX3_at := goodIn_r _ [5] (by decide +kernel) (by decide +kernel)
set_option maxRecDepth 20000 in
theorem gX0_passWaitingBefore_X3_at_n63 : GoodIn wsX0_passWaitingBefore (wsX3_at) := ggX0_passWaitingBefore_X3_at
set_option maxRecDepth 20000 in
theorem ggX0_passWaitingBefore_X3_put : GoodIn wsX0_passWaitingBefore wsX3_put := goodIn_r _ [7] (by decide +kernel) (by decide +kernel)
set_option maxRecDepth 20000 in
theorem gX0_passWaitingBefore_X3_put_n59 : GoodIn wsX0_passWaitingBefore (wsX3_put) := ggX0_passWaitingBefore_X3_put
theorem dX0_passWaitingBefore_0 : decode cX0_passWaitingBefore 0 = .ok (.iconst 0, 1) := by decide +kernel
theorem dX0_passWaitingBefore_1 : decode cX0_passWaitingBefore 1 = .ok (.istore_n 2, 1) := by decide +kernel
theorem dX0_passWaitingBefore_2 : decode cX0_passWaitingBefore 2 = .ok (.iconst 0, 1) := by decide +kernel
theorem dX0_passWaitingBefore_3 : decode cX0_passWaitingBefore 3 = .ok (.istore_n 3, 1) := by decide +kernel
theorem dX0_passWaitingBefore_4 : decode cX0_passWaitingBefore 4 = .ok (.iload_n 3, 1) := by decide +kernel
theorem dX0_passWaitingBefore_5 : decode cX0_passWaitingBefore 5 = .ok (.aload_n 0, 1) := by decide +kernel
theorem dX0_passWaitingBefore_6 : decode cX0_passWaitingBefore 6 = .ok (.getfield 27, 3) := by decide +kernel
theorem dX0_passWaitingBefore_9 : decode cX0_passWaitingBefore 9 = .ok (.if_icmp .ge 38, 3) := by decide +kernel
theorem dX0_passWaitingBefore_12 : decode cX0_passWaitingBefore 12 = .ok (.iload_n 3, 1) := by decide +kernel
theorem dX0_passWaitingBefore_13 : decode cX0_passWaitingBefore 13 = .ok (.iload_n 1, 1) := by decide +kernel
theorem dX0_passWaitingBefore_14 : decode cX0_passWaitingBefore 14 = .ok (.if_icmp .ge 33, 3) := by decide +kernel
theorem dX0_passWaitingBefore_17 : decode cX0_passWaitingBefore 17 = .ok (.aload_n 0, 1) := by decide +kernel
theorem dX0_passWaitingBefore_18 : decode cX0_passWaitingBefore 18 = .ok (.getfield 18, 3) := by decide +kernel
theorem dX0_passWaitingBefore_21 : decode cX0_passWaitingBefore 21 = .ok (.iload_n 3, 1) := by decide +kernel
theorem dX0_passWaitingBefore_22 : decode cX0_passWaitingBefore 22 = .ok (.invokestatic 63, 3) := by decide +kernel
theorem dX0_passWaitingBefore_25 : decode cX0_passWaitingBefore 25 = .ok (.iconst 1, 1) := by decide +kernel
theorem dX0_passWaitingBefore_26 : decode cX0_passWaitingBefore 26 = .ok (.if_icmp .ne 15, 3) := by decide +kernel
theorem dX0_passWaitingBefore_29 : decode cX0_passWaitingBefore 29 = .ok (.aload_n 0, 1) := by decide +kernel
theorem dX0_passWaitingBefore_30 : decode cX0_passWaitingBefore 30 = .ok (.getfield 18, 3) := by decide +kernel
theorem dX0_passWaitingBefore_33 : decode cX0_passWaitingBefore 33 = .ok (.iload_n 3, 1) := by decide +kernel
theorem dX0_passWaitingBefore_34 : decode cX0_passWaitingBefore 34 = .ok (.iconst 3, 1) := by decide +kernel
theorem dX0_passWaitingBefore_35 : decode cX0_passWaitingBefore 35 = .ok (.invokestatic 59, 3) := by decide +kernel
theorem dX0_passWaitingBefore_38 : decode cX0_passWaitingBefore 38 = .ok (.iinc 2 1, 3) := by decide +kernel
theorem dX0_passWaitingBefore_41 : decode cX0_passWaitingBefore 41 = .ok (.iinc 3 1, 3) := by decide +kernel
theorem dX0_passWaitingBefore_44 : decode cX0_passWaitingBefore 44 = .ok (.goto (-40), 3) := by decide +kernel
theorem dX0_passWaitingBefore_47 : decode cX0_passWaitingBefore 47 = .ok (.iload_n 2, 1) := by decide +kernel
theorem dX0_passWaitingBefore_48 : decode cX0_passWaitingBefore 48 = .ok (.ireturn, 1) := by decide +kernel
set_option maxRecDepth 20000 in
theorem ggX0_setCuesAround_X3_at : GoodIn wsX0_setCuesAround wsX3_at := goodIn_r _ [5] (by decide +kernel) (by decide +kernel)
set_option maxRecDepth 20000 in
theorem gX0_setCuesAround_X3_at_n63 : GoodIn wsX0_setCuesAround (wsX3_at) := ggX0_setCuesAround_X3_at
set_option maxRecDepth 20000 in
theorem ggX0_setCuesAround_X3_put : GoodIn wsX0_setCuesAround wsX3_put := goodIn_r _ [7] (by decide +kernel) (by decide +kernel)
set_option maxRecDepth 20000 in
theorem gX0_setCuesAround_X3_put_n59 : GoodIn wsX0_setCuesAround (wsX3_put) := ggX0_setCuesAround_X3_put
theorem dX0_setCuesAround_0 : decode cX0_setCuesAround 0 = .ok (.iconst 0, 1) := by decide +kernel
theorem dX0_setCuesAround_1 : decode cX0_setCuesAround 1 = .ok (.istore_n 2, 1) := by decide +kernel
theorem dX0_setCuesAround_2 : decode cX0_setCuesAround 2 = .ok (.iload_n 2, 1) := by decide +kernel
theorem dX0_setCuesAround_3 : decode cX0_setCuesAround 3 = .ok (.aload_n 0, 1) := by decide +kernel
theorem dX0_setCuesAround_4 : decode cX0_setCuesAround 4 = .ok (.getfield 27, 3) := by decide +kernel
theorem dX0_setCuesAround_7 : decode cX0_setCuesAround 7 = .ok (.if_icmp .ge 38, 3) := by decide +kernel
theorem dX0_setCuesAround_10 : decode cX0_setCuesAround 10 = .ok (.aload_n 0, 1) := by decide +kernel
theorem dX0_setCuesAround_11 : decode cX0_setCuesAround 11 = .ok (.getfield 18, 3) := by decide +kernel
theorem dX0_setCuesAround_14 : decode cX0_setCuesAround 14 = .ok (.iload_n 2, 1) := by decide +kernel
theorem dX0_setCuesAround_15 : decode cX0_setCuesAround 15 = .ok (.invokestatic 63, 3) := by decide +kernel
theorem dX0_setCuesAround_18 : decode cX0_setCuesAround 18 = .ok (.ifCond .eq 21, 3) := by decide +kernel
theorem dX0_setCuesAround_21 : decode cX0_setCuesAround 21 = .ok (.aload_n 0, 1) := by decide +kernel
theorem dX0_setCuesAround_22 : decode cX0_setCuesAround 22 = .ok (.getfield 18, 3) := by decide +kernel
theorem dX0_setCuesAround_25 : decode cX0_setCuesAround 25 = .ok (.iload_n 2, 1) := by decide +kernel
theorem dX0_setCuesAround_26 : decode cX0_setCuesAround 26 = .ok (.iload_n 2, 1) := by decide +kernel
theorem dX0_setCuesAround_27 : decode cX0_setCuesAround 27 = .ok (.iload_n 1, 1) := by decide +kernel
theorem dX0_setCuesAround_28 : decode cX0_setCuesAround 28 = .ok (.if_icmp .ge 7, 3) := by decide +kernel
theorem dX0_setCuesAround_31 : decode cX0_setCuesAround 31 = .ok (.iconst 3, 1) := by decide +kernel
theorem dX0_setCuesAround_32 : decode cX0_setCuesAround 32 = .ok (.goto 4, 3) := by decide +kernel
theorem dX0_setCuesAround_35 : decode cX0_setCuesAround 35 = .ok (.iconst 1, 1) := by decide +kernel
theorem dX0_setCuesAround_36 : decode cX0_setCuesAround 36 = .ok (.invokestatic 59, 3) := by decide +kernel
theorem dX0_setCuesAround_39 : decode cX0_setCuesAround 39 = .ok (.iinc 2 1, 3) := by decide +kernel
theorem dX0_setCuesAround_42 : decode cX0_setCuesAround 42 = .ok (.goto (-40), 3) := by decide +kernel
theorem dX0_setCuesAround_45 : decode cX0_setCuesAround 45 = .ok (.return_, 1) := by decide +kernel
set_option maxRecDepth 20000 in
theorem ggX0_uniqueLength_X0_endsElsewhere : GoodIn wsX0_uniqueLength wsX0_endsElsewhere := goodIn_r _ [5, 6, 7, 8, 9, 4, 10, 11, 12, 13, 14, 15, 16, 17, 18, 19, 20, 21, 22, 23] (by decide +kernel) (by decide +kernel)
set_option maxRecDepth 20000 in
theorem gX0_uniqueLength_X0_endsElsewhere : GoodIn wsX0_uniqueLength (wsV RX0 67 RX0 yX0_endsElsewhere wsX0_endsElsewhere) := goodIn_app (goodIn_of _ (by decide +kernel)) ggX0_uniqueLength_X0_endsElsewhere
theorem dX0_uniqueLength_0 : decode cX0_uniqueLength 0 = .ok (.iconst 1, 1) := by decide +kernel
theorem dX0_uniqueLength_1 : decode cX0_uniqueLength 1 = .ok (.istore_n 2, 1) := by decide +kernel
theorem dX0_uniqueLength_2 : decode cX0_uniqueLength 2 = .ok (.iload_n 2, 1) := by decide +kernel
theorem dX0_uniqueLength_3 : decode cX0_uniqueLength 3 = .ok (.iconst 4, 1) := by decide +kernel
theorem dX0_uniqueLength_4 : decode cX0_uniqueLength 4 = .ok (.if_icmp .gt 27, 3) := by decide +kernel
theorem dX0_uniqueLength_7 : decode cX0_uniqueLength 7 = .ok (.iload_n 2, 1) := by decide +kernel
theorem dX0_uniqueLength_8 : decode cX0_uniqueLength 8 = .ok (.iload_n 1, 1) := by decide +kernel
theorem dX0_uniqueLength_9 : decode cX0_uniqueLength 9 = .ok (.iconst 1, 1) := by decide +kernel
theorem dX0_uniqueLength_10 : decode cX0_uniqueLength 10 = .ok (.iadd, 1) := by decide +kernel
theorem dX0_uniqueLength_11 : decode cX0_uniqueLength 11 = .ok (.if_icmp .gt 20, 3) := by decide +kernel
theorem dX0_uniqueLength_14 : decode cX0_uniqueLength 14 = .ok (.aload_n 0, 1) := by decide +kernel
theorem dX0_uniqueLength_15 : decode cX0_uniqueLength 15 = .ok (.iload_n 1, 1) := by decide +kernel
theorem dX0_uniqueLength_16 : decode cX0_uniqueLength 16 = .ok (.iload_n 2, 1) := by decide +kernel
theorem dX0_uniqueLength_17 : decode cX0_uniqueLength 17 = .ok (.invokevirtual 67, 3) := by decide +kernel
theorem dX0_uniqueLength_20 : decode cX0_uniqueLength 20 = .ok (.ifCond .ne 5, 3) := by decide +kernel
theorem dX0_uniqueLength_23 : decode cX0_uniqueLength 23 = .ok (.iload_n 2, 1) := by decide +kernel
theorem dX0_uniqueLength_24 : decode cX0_uniqueLength 24 = .ok (.ireturn, 1) := by decide +kernel
theorem dX0_uniqueLength_25 : decode cX0_uniqueLength 25 = .ok (.iinc 2 1, 3) := by decide +kernel
theorem dX0_uniqueLength_28 : decode cX0_uniqueLength 28 = .ok (.goto (-26), 3) := by decide +kernel
theorem dX0_uniqueLength_31 : decode cX0_uniqueLength 31 = .ok (.bipush (-9), 2) := by decide +kernel
theorem dX0_uniqueLength_33 : decode cX0_uniqueLength 33 = .ok (.ireturn, 1) := by decide +kernel
set_option maxRecDepth 20000 in
theorem ggX0_endsElsewhere_X0_sameEnding : GoodIn wsX0_endsElsewhere wsX0_sameEnding := goodIn_r _ [6, 7, 8, 9, 10, 11, 12, 13, 14, 15, 16, 17, 18, 19] (by decide +kernel) (by decide +kernel)
set_option maxRecDepth 20000 in
theorem gX0_endsElsewhere_X0_sameEnding : GoodIn wsX0_endsElsewhere (wsV RX0 71 RX0 yX0_sameEnding wsX0_sameEnding) := goodIn_app (goodIn_of _ (by decide +kernel)) ggX0_endsElsewhere_X0_sameEnding
theorem dX0_endsElsewhere_0 : decode cX0_endsElsewhere 0 = .ok (.iload_n 2, 1) := by decide +kernel
theorem dX0_endsElsewhere_1 : decode cX0_endsElsewhere 1 = .ok (.iconst 1, 1) := by decide +kernel
theorem dX0_endsElsewhere_2 : decode cX0_endsElsewhere 2 = .ok (.isub, 1) := by decide +kernel
theorem dX0_endsElsewhere_3 : decode cX0_endsElsewhere 3 = .ok (.istore_n 3, 1) := by decide +kernel
theorem dX0_endsElsewhere_4 : decode cX0_endsElsewhere 4 = .ok (.iload_n 3, 1) := by decide +kernel
theorem dX0_endsElsewhere_5 : decode cX0_endsElsewhere 5 = .ok (.aload_n 0, 1) := by decide +kernel
theorem dX0_endsElsewhere_6 : decode cX0_endsElsewhere 6 = .ok (.getfield 27, 3) := by decide +kernel
theorem dX0_endsElsewhere_9 : decode cX0_endsElsewhere 9 = .ok (.if_icmp .ge 26, 3) := by decide +kernel
theorem dX0_endsElsewhere_12 : decode cX0_endsElsewhere 12 = .ok (.iload_n 3, 1) := by decide +kernel
theorem dX0_endsElsewhere_13 : decode cX0_endsElsewhere 13 = .ok (.iload_n 1, 1) := by decide +kernel
theorem dX0_endsElsewhere_14 : decode cX0_endsElsewhere 14 = .ok (.if_icmp .eq 15, 3) := by decide +kernel
theorem dX0_endsElsewhere_17 : decode cX0_endsElsewhere 17 = .ok (.aload_n 0, 1) := by decide +kernel
theorem dX0_endsElsewhere_18 : decode cX0_endsElsewhere 18 = .ok (.iload_n 1, 1) := by decide +kernel
theorem dX0_endsElsewhere_19 : decode cX0_endsElsewhere 19 = .ok (.iload_n 3, 1) := by decide +kernel
theorem dX0_endsElsewhere_20 : decode cX0_endsElsewhere 20 = .ok (.iload_n 2, 1) := by decide +kernel
theorem dX0_endsElsewhere_21 : decode cX0_endsElsewhere 21 = .ok (.invokevirtual 71, 3) := by decide +kernel
theorem dX0_endsElsewhere_24 : decode cX0_endsElsewhere 24 = .ok (.ifCond .eq 5, 3) := by decide +kernel
theorem dX0_endsElsewhere_27 : decode cX0_endsElsewhere 27 = .ok (.iconst 1, 1) := by decide +kernel
theorem dX0_endsElsewhere_28 : decode cX0_endsElsewhere 28 = .ok (.ireturn, 1) := by decide +kernel
theorem dX0_endsElsewhere_29 : decode cX0_endsElsewhere 29 = .ok (.iinc 3 1, 3) := by decide +kernel
theorem dX0_endsElsewhere_32 : decode cX0_endsElsewhere 32 = .ok (.goto (-28), 3) := by decide +kernel
theorem dX0_endsElsewhere_35 : decode cX0_endsElsewhere 35 = .ok (.iconst 0, 1) := by decide +kernel
theorem dX0_endsElsewhere_36 : decode cX0_endsElsewhere 36 = .ok (.ireturn, 1) := by decide +kernel
set_option maxRecDepth 20000 in
theorem ggX0_sameEnding_X3_at : GoodIn wsX0_sameEnding wsX3_at := goodIn_r _ [4] (by decide +kernel) (by decide +kernel)
set_option maxRecDepth 20000 in
theorem gX0_sameEnding_X3_at_n63 : GoodIn wsX0_sameEnding (wsX3_at) := ggX0_sameEnding_X3_at
theorem dX0_sameEnding_0 : decode cX0_sameEnding 0 = .ok (.iconst 0, 1) := by decide +kernel
theorem dX0_sameEnding_1 : decode cX0_sameEnding 1 = .ok (.istore 4, 2) := by decide +kernel
theorem dX0_sameEnding_3 : decode cX0_sameEnding 3 = .ok (.iload 4, 2) := by decide +kernel
theorem dX0_sameEnding_5 : decode cX0_sameEnding 5 = .ok (.iload_n 3, 1) := by decide +kernel
theorem dX0_sameEnding_6 : decode cX0_sameEnding 6 = .ok (.if_icmp .ge 36, 3) := by decide +kernel
theorem dX0_sameEnding_9 : decode cX0_sameEnding 9 = .ok (.aload_n 0, 1) := by decide +kernel
theorem dX0_sameEnding_10 : decode cX0_sameEnding 10 = .ok (.getfield 9, 3) := by decide +kernel
theorem dX0_sameEnding_13 : decode cX0_sameEnding 13 = .ok (.iload_n 1, 1) := by decide +kernel
theorem dX0_sameEnding_14 : decode cX0_sameEnding 14 = .ok (.iload 4, 2) := by decide +kernel
theorem dX0_sameEnding_16 : decode cX0_sameEnding 16 = .ok (.isub, 1) := by decide +kernel
theorem dX0_sameEnding_17 : decode cX0_sameEnding 17 = .ok (.invokestatic 63, 3) := by decide +kernel
theorem dX0_sameEnding_20 : decode cX0_sameEnding 20 = .ok (.aload_n 0, 1) := by decide +kernel
theorem dX0_sameEnding_21 : decode cX0_sameEnding 21 = .ok (.getfield 9, 3) := by decide +kernel
theorem dX0_sameEnding_24 : decode cX0_sameEnding 24 = .ok (.iload_n 2, 1) := by decide +kernel
theorem dX0_sameEnding_25 : decode cX0_sameEnding 25 = .ok (.iload 4, 2) := by decide +kernel
theorem dX0_sameEnding_27 : decode cX0_sameEnding 27 = .ok (.isub, 1) := by decide +kernel
theorem dX0_sameEnding_28 : decode cX0_sameEnding 28 = .ok (.invokestatic 63, 3) := by decide +kernel
theorem dX0_sameEnding_31 : decode cX0_sameEnding 31 = .ok (.if_icmp .eq 5, 3) := by decide +kernel
theorem dX0_sameEnding_34 : decode cX0_sameEnding 34 = .ok (.iconst 0, 1) := by decide +kernel
theorem dX0_sameEnding_35 : decode cX0_sameEnding 35 = .ok (.ireturn, 1) := by decide +kernel
theorem dX0_sameEnding_36 : decode cX0_sameEnding 36 = .ok (.iinc 4 1, 3) := by decide +kernel
theorem dX0_sameEnding_39 : decode cX0_sameEnding 39 = .ok (.goto (-36), 3) := by decide +kernel
theorem dX0_sameEnding_42 : decode cX0_sameEnding 42 = .ok (.iconst 1, 1) := by decide +kernel
theorem dX0_sameEnding_43 : decode cX0_sameEnding 43 = .ok (.ireturn, 1) := by decide +kernel
set_option maxRecDepth 20000 in
theorem ggX1_init_X0_init : GoodIn wsX1_init wsX0_init := goodIn_r _ [16, 17, 2, 3, 4, 18, 19, 20, 21, 22, 43, 44, 45, 46, 47, 48, 49, 50, 51] (by decide +kernel) (by decide +kernel)
set_option maxRecDepth 20000 in
theorem gX1_init_X0_init_n17 : GoodIn wsX1_init (wsX0_init) := ggX1_init_X0_init
set_option maxRecDepth 20000 in
theorem ggX1_init_X2_init : GoodIn wsX1_init wsX2_init := goodIn_r _ [24, 25, 2, 3, 4, 26, 27, 52, 53, 54] (by decide +kernel) (by decide +kernel)
set_option maxRecDepth 20000 in
theorem gX1_init_X2_init_n24 : GoodIn wsX1_init (wsX2_init) := ggX1_init_X2_init
theorem dX1_init_0 : decode cX1_init 0 = .ok (.aload_n 0, 1) := by decide +kernel
theorem dX1_init_1 : decode cX1_init 1 = .ok (.invokespecial 3, 3) := by decide +kernel
theorem dX1_init_4 : decode cX1_init 4 = .ok (.aload_n 0, 1) := by decide +kernel
theorem dX1_init_5 : decode cX1_init 5 = .ok (.bipush 9, 2) := by decide +kernel
theorem dX1_init_7 : decode cX1_init 7 = .ok (.newarray .int, 2) := by decide +kernel
theorem dX1_init_9 : decode cX1_init 9 = .ok (.putfield 9, 3) := by decide +kernel
theorem dX1_init_12 : decode cX1_init 12 = .ok (.aload_n 0, 1) := by decide +kernel
theorem dX1_init_13 : decode cX1_init 13 = .ok (.new 15, 3) := by decide +kernel
theorem dX1_init_16 : decode cX1_init 16 = .ok (.dup, 1) := by decide +kernel
theorem dX1_init_17 : decode cX1_init 17 = .ok (.invokespecial 17, 3) := by decide +kernel
theorem dX1_init_20 : decode cX1_init 20 = .ok (.putfield 18, 3) := by decide +kernel
theorem dX1_init_23 : decode cX1_init 23 = .ok (.aload_n 0, 1) := by decide +kernel
theorem dX1_init_24 : decode cX1_init 24 = .ok (.new 22, 3) := by decide +kernel
theorem dX1_init_27 : decode cX1_init 27 = .ok (.dup, 1) := by decide +kernel
theorem dX1_init_28 : decode cX1_init 28 = .ok (.invokespecial 24, 3) := by decide +kernel
theorem dX1_init_31 : decode cX1_init 31 = .ok (.putfield 25, 3) := by decide +kernel
theorem dX1_init_34 : decode cX1_init 34 = .ok (.aload_n 0, 1) := by decide +kernel
theorem dX1_init_35 : decode cX1_init 35 = .ok (.iconst 4, 1) := by decide +kernel
theorem dX1_init_36 : decode cX1_init 36 = .ok (.newarray .int, 2) := by decide +kernel
theorem dX1_init_38 : decode cX1_init 38 = .ok (.putfield 29, 3) := by decide +kernel
theorem dX1_init_41 : decode cX1_init 41 = .ok (.return_, 1) := by decide +kernel
set_option maxRecDepth 20000 in
theorem ggX1_become_X3_copyRow : GoodIn wsX1_become wsX3_copyRow := goodIn_r _ [18, 19, 20, 21, 22, 23, 24, 25, 26] (by decide +kernel) (by decide +kernel)
set_option maxRecDepth 20000 in
theorem gX1_become_X3_copyRow_n32 : GoodIn wsX1_become (wsX3_copyRow) := ggX1_become_X3_copyRow
set_option maxRecDepth 20000 in
theorem ggX1_become_X0_become : GoodIn wsX1_become wsX0_become := goodIn_r _ [31, 32, 33, 34, 35, 36, 37, 38, 39, 40, 16, 17, 18, 19, 20, 21, 22, 23, 24, 25, 26, 64, 65, 66, 67, 68, 69, 70, 71, 72] (by decide +kernel) (by decide +kernel)
set_option maxRecDepth 20000 in
theorem gX1_become_X0_become : GoodIn wsX1_become (wsV RX1 36 RX0 yX0_become wsX0_become) := goodIn_app (goodIn_of _ (by decide +kernel)) ggX1_become_X0_become
set_option maxRecDepth 20000 in
theorem ggX1_become_X2_become : GoodIn wsX1_become wsX2_become := goodIn_r _ [45, 46, 47, 48, 16, 17, 18, 19, 20, 21, 22, 23, 24, 25, 26, 73, 74, 75] (by decide +kernel) (by decide +kernel)
set_option maxRecDepth 20000 in
theorem gX1_become_X2_become : GoodIn wsX1_become (wsV RX1 40 RX2 yX2_become wsX2_become) := goodIn_app (goodIn_of _ (by decide +kernel)) ggX1_become_X2_become
theorem dX1_become_0 : decode cX1_become 0 = .ok (.aload_n 1, 1) := by decide +kernel
theorem dX1_become_1 : decode cX1_become 1 = .ok (.getfield 9, 3) := by decide +kernel
theorem dX1_become_4 : decode cX1_become 4 = .ok (.aload_n 0, 1) := by decide +kernel
theorem dX1_become_5 : decode cX1_become 5 = .ok (.getfield 9, 3) := by decide +kernel
theorem dX1_become_8 : decode cX1_become 8 = .ok (.invokestatic 32, 3) := by decide +kernel
theorem dX1_become_11 : decode cX1_become 11 = .ok (.aload_n 0, 1) := by decide +kernel
theorem dX1_become_12 : decode cX1_become 12 = .ok (.getfield 18, 3) := by decide +kernel
theorem dX1_become_15 : decode cX1_become 15 = .ok (.aload_n 1, 1) := by decide +kernel
theorem dX1_become_16 : decode cX1_become 16 = .ok (.getfield 18, 3) := by decide +kernel
theorem dX1_become_19 : decode cX1_become 19 = .ok (.invokevirtual 36, 3) := by decide +kernel
theorem dX1_become_22 : decode cX1_become 22 = .ok (.aload_n 0, 1) := by decide +kernel
theorem dX1_become_23 : decode cX1_become 23 = .ok (.getfield 25, 3) := by decide +kernel
theorem dX1_become_26 : decode cX1_become 26 = .ok (.aload_n 1, 1) := by decide +kernel
theorem dX1_become_27 : decode cX1_become 27 = .ok (.getfield 25, 3) := by decide +kernel
theorem dX1_become_30 : decode cX1_become 30 = .ok (.invokevirtual 40, 3) := by decide +kernel
theorem dX1_become_33 : decode cX1_become 33 = .ok (.aload_n 1, 1) := by decide +kernel
theorem dX1_become_34 : decode cX1_become 34 = .ok (.getfield 29, 3) := by decide +kernel
theorem dX1_become_37 : decode cX1_become 37 = .ok (.aload_n 0, 1) := by decide +kernel
theorem dX1_become_38 : decode cX1_become 38 = .ok (.getfield 29, 3) := by decide +kernel
theorem dX1_become_41 : decode cX1_become 41 = .ok (.invokestatic 32, 3) := by decide +kernel
theorem dX1_become_44 : decode cX1_become 44 = .ok (.aload_n 0, 1) := by decide +kernel
theorem dX1_become_45 : decode cX1_become 45 = .ok (.aload_n 1, 1) := by decide +kernel
theorem dX1_become_46 : decode cX1_become 46 = .ok (.getfield 43, 3) := by decide +kernel
theorem dX1_become_49 : decode cX1_become 49 = .ok (.putfield 43, 3) := by decide +kernel
theorem dX1_become_52 : decode cX1_become 52 = .ok (.aload_n 0, 1) := by decide +kernel
theorem dX1_become_53 : decode cX1_become 53 = .ok (.aload_n 1, 1) := by decide +kernel
theorem dX1_become_54 : decode cX1_become 54 = .ok (.getfield 47, 3) := by decide +kernel
theorem dX1_become_57 : decode cX1_become 57 = .ok (.putfield 47, 3) := by decide +kernel
theorem dX1_become_60 : decode cX1_become 60 = .ok (.aload_n 0, 1) := by decide +kernel
theorem dX1_become_61 : decode cX1_become 61 = .ok (.aload_n 1, 1) := by decide +kernel
theorem dX1_become_62 : decode cX1_become 62 = .ok (.getfield 50, 3) := by decide +kernel
theorem dX1_become_65 : decode cX1_become 65 = .ok (.putfield 50, 3) := by decide +kernel
theorem dX1_become_68 : decode cX1_become 68 = .ok (.aload_n 0, 1) := by decide +kernel
theorem dX1_become_69 : decode cX1_become 69 = .ok (.aload_n 1, 1) := by decide +kernel
theorem dX1_become_70 : decode cX1_become 70 = .ok (.getfield 53, 3) := by decide +kernel
theorem dX1_become_73 : decode cX1_become 73 = .ok (.putfield 53, 3) := by decide +kernel
theorem dX1_become_76 : decode cX1_become 76 = .ok (.aload_n 0, 1) := by decide +kernel
theorem dX1_become_77 : decode cX1_become 77 = .ok (.aload_n 1, 1) := by decide +kernel
theorem dX1_become_78 : decode cX1_become 78 = .ok (.getfield 56, 3) := by decide +kernel
theorem dX1_become_81 : decode cX1_become 81 = .ok (.putfield 56, 3) := by decide +kernel
theorem dX1_become_84 : decode cX1_become 84 = .ok (.aload_n 0, 1) := by decide +kernel
theorem dX1_become_85 : decode cX1_become 85 = .ok (.aload_n 1, 1) := by decide +kernel
theorem dX1_become_86 : decode cX1_become 86 = .ok (.getfield 59, 3) := by decide +kernel
theorem dX1_become_89 : decode cX1_become 89 = .ok (.putfield 59, 3) := by decide +kernel
theorem dX1_become_92 : decode cX1_become 92 = .ok (.aload_n 0, 1) := by decide +kernel
theorem dX1_become_93 : decode cX1_become 93 = .ok (.aload_n 1, 1) := by decide +kernel
theorem dX1_become_94 : decode cX1_become 94 = .ok (.getfield 62, 3) := by decide +kernel
theorem dX1_become_97 : decode cX1_become 97 = .ok (.putfield 62, 3) := by decide +kernel
theorem dX1_become_100 : decode cX1_become 100 = .ok (.aload_n 0, 1) := by decide +kernel
theorem dX1_become_101 : decode cX1_become 101 = .ok (.aload_n 1, 1) := by decide +kernel
theorem dX1_become_102 : decode cX1_become 102 = .ok (.getfield 65, 3) := by decide +kernel
theorem dX1_become_105 : decode cX1_become 105 = .ok (.putfield 65, 3) := by decide +kernel
theorem dX1_become_108 : decode cX1_become 108 = .ok (.aload_n 0, 1) := by decide +kernel
theorem dX1_become_109 : decode cX1_become 109 = .ok (.aload_n 1, 1) := by decide +kernel
theorem dX1_become_110 : decode cX1_become 110 = .ok (.getfield 68, 3) := by decide +kernel
theorem dX1_become_113 : decode cX1_become 113 = .ok (.putfield 68, 3) := by decide +kernel
theorem dX1_become_116 : decode cX1_become 116 = .ok (.aload_n 0, 1) := by decide +kernel
theorem dX1_become_117 : decode cX1_become 117 = .ok (.aload_n 1, 1) := by decide +kernel
theorem dX1_become_118 : decode cX1_become 118 = .ok (.getfield 71, 3) := by decide +kernel
theorem dX1_become_121 : decode cX1_become 121 = .ok (.putfield 71, 3) := by decide +kernel
theorem dX1_become_124 : decode cX1_become 124 = .ok (.aload_n 0, 1) := by decide +kernel
theorem dX1_become_125 : decode cX1_become 125 = .ok (.aload_n 1, 1) := by decide +kernel
theorem dX1_become_126 : decode cX1_become 126 = .ok (.getfield 74, 3) := by decide +kernel
theorem dX1_become_129 : decode cX1_become 129 = .ok (.putfield 74, 3) := by decide +kernel
theorem dX1_become_132 : decode cX1_become 132 = .ok (.return_, 1) := by decide +kernel
set_option maxRecDepth 20000 in
theorem ggX1_begin_X0_become : GoodIn wsX1_begin wsX0_become := goodIn_r _ [19, 20, 21, 22, 23, 24, 25, 26, 27, 28, 29, 30, 31, 32, 33, 34, 35, 36, 37, 38, 39, 69, 70, 71, 72, 73, 74, 75, 76, 77] (by decide +kernel) (by decide +kernel)
set_option maxRecDepth 20000 in
theorem gX1_begin_X0_become : GoodIn wsX1_begin (wsV RX1 36 RX0 yX0_become wsX0_become) := goodIn_app (goodIn_of _ (by decide +kernel)) ggX1_begin_X0_become
set_option maxRecDepth 20000 in
theorem ggX1_begin_X3_at : GoodIn wsX1_begin wsX3_at := goodIn_r _ [41] (by decide +kernel) (by decide +kernel)
set_option maxRecDepth 20000 in
theorem gX1_begin_X3_at_n77 : GoodIn wsX1_begin (wsX3_at) := ggX1_begin_X3_at
set_option maxRecDepth 20000 in
theorem ggX1_begin_X0_lay : GoodIn wsX1_begin wsX0_lay := goodIn_r _ [45, 23, 20, 25, 28, 27, 40, 30, 41, 46, 47, 69, 70, 71, 72, 73, 74, 75, 76, 77] (by decide +kernel) (by decide +kernel)
set_option maxRecDepth 20000 in
theorem gX1_begin_X0_lay : GoodIn wsX1_begin (wsV RX1 81 RX0 yX0_lay wsX0_lay) := goodIn_app (goodIn_of _ (by decide +kernel)) ggX1_begin_X0_lay
set_option maxRecDepth 20000 in
theorem ggX1_begin_X2_empty : GoodIn wsX1_begin wsX2_empty := goodIn_r _ [52, 53, 78, 79, 80] (by decide +kernel) (by decide +kernel)
set_option maxRecDepth 20000 in
theorem gX1_begin_X2_empty : GoodIn wsX1_begin (wsV RX1 85 RX2 yX2_empty wsX2_empty) := goodIn_app (goodIn_of _ (by decide +kernel)) ggX1_begin_X2_empty
theorem dX1_begin_0 : decode cX1_begin 0 = .ok (.aload_n 0, 1) := by decide +kernel
theorem dX1_begin_1 : decode cX1_begin 1 = .ok (.getfield 18, 3) := by decide +kernel
theorem dX1_begin_4 : decode cX1_begin 4 = .ok (.aload_n 1, 1) := by decide +kernel
theorem dX1_begin_5 : decode cX1_begin 5 = .ok (.invokevirtual 36, 3) := by decide +kernel
theorem dX1_begin_8 : decode cX1_begin 8 = .ok (.aload_n 0, 1) := by decide +kernel
theorem dX1_begin_9 : decode cX1_begin 9 = .ok (.getfield 18, 3) := by decide +kernel
theorem dX1_begin_12 : decode cX1_begin 12 = .ok (.aload_n 0, 1) := by decide +kernel
theorem dX1_begin_13 : decode cX1_begin 13 = .ok (.getfield 9, 3) := by decide +kernel
theorem dX1_begin_16 : decode cX1_begin 16 = .ok (.iconst 0, 1) := by decide +kernel
theorem dX1_begin_17 : decode cX1_begin 17 = .ok (.invokestatic 77, 3) := by decide +kernel
theorem dX1_begin_20 : decode cX1_begin 20 = .ok (.invokevirtual 81, 3) := by decide +kernel
theorem dX1_begin_23 : decode cX1_begin 23 = .ok (.aload_n 0, 1) := by decide +kernel
theorem dX1_begin_24 : decode cX1_begin 24 = .ok (.getfield 25, 3) := by decide +kernel
theorem dX1_begin_27 : decode cX1_begin 27 = .ok (.invokevirtual 85, 3) := by decide +kernel
theorem dX1_begin_30 : decode cX1_begin 30 = .ok (.aload_n 0, 1) := by decide +kernel
theorem dX1_begin_31 : decode cX1_begin 31 = .ok (.iconst 0, 1) := by decide +kernel
theorem dX1_begin_32 : decode cX1_begin 32 = .ok (.putfield 43, 3) := by decide +kernel
theorem dX1_begin_35 : decode cX1_begin 35 = .ok (.aload_n 0, 1) := by decide +kernel
theorem dX1_begin_36 : decode cX1_begin 36 = .ok (.iconst 0, 1) := by decide +kernel
theorem dX1_begin_37 : decode cX1_begin 37 = .ok (.putfield 47, 3) := by decide +kernel
theorem dX1_begin_40 : decode cX1_begin 40 = .ok (.aload_n 0, 1) := by decide +kernel
theorem dX1_begin_41 : decode cX1_begin 41 = .ok (.iconst 0, 1) := by decide +kernel
theorem dX1_begin_42 : decode cX1_begin 42 = .ok (.putfield 50, 3) := by decide +kernel
theorem dX1_begin_45 : decode cX1_begin 45 = .ok (.aload_n 0, 1) := by decide +kernel
theorem dX1_begin_46 : decode cX1_begin 46 = .ok (.iconst 0, 1) := by decide +kernel
theorem dX1_begin_47 : decode cX1_begin 47 = .ok (.putfield 53, 3) := by decide +kernel
theorem dX1_begin_50 : decode cX1_begin 50 = .ok (.aload_n 0, 1) := by decide +kernel
theorem dX1_begin_51 : decode cX1_begin 51 = .ok (.iconst 0, 1) := by decide +kernel
theorem dX1_begin_52 : decode cX1_begin 52 = .ok (.putfield 56, 3) := by decide +kernel
theorem dX1_begin_55 : decode cX1_begin 55 = .ok (.aload_n 0, 1) := by decide +kernel
theorem dX1_begin_56 : decode cX1_begin 56 = .ok (.iconst 0, 1) := by decide +kernel
theorem dX1_begin_57 : decode cX1_begin 57 = .ok (.putfield 59, 3) := by decide +kernel
theorem dX1_begin_60 : decode cX1_begin 60 = .ok (.aload_n 0, 1) := by decide +kernel
theorem dX1_begin_61 : decode cX1_begin 61 = .ok (.iconst 0, 1) := by decide +kernel
theorem dX1_begin_62 : decode cX1_begin 62 = .ok (.putfield 62, 3) := by decide +kernel
theorem dX1_begin_65 : decode cX1_begin 65 = .ok (.aload_n 0, 1) := by decide +kernel
theorem dX1_begin_66 : decode cX1_begin 66 = .ok (.iconst 0, 1) := by decide +kernel
theorem dX1_begin_67 : decode cX1_begin 67 = .ok (.putfield 65, 3) := by decide +kernel
theorem dX1_begin_70 : decode cX1_begin 70 = .ok (.aload_n 0, 1) := by decide +kernel
theorem dX1_begin_71 : decode cX1_begin 71 = .ok (.iconst 0, 1) := by decide +kernel
theorem dX1_begin_72 : decode cX1_begin 72 = .ok (.putfield 68, 3) := by decide +kernel
theorem dX1_begin_75 : decode cX1_begin 75 = .ok (.aload_n 0, 1) := by decide +kernel
theorem dX1_begin_76 : decode cX1_begin 76 = .ok (.iconst 0, 1) := by decide +kernel
theorem dX1_begin_77 : decode cX1_begin 77 = .ok (.putfield 71, 3) := by decide +kernel
theorem dX1_begin_80 : decode cX1_begin 80 = .ok (.aload_n 0, 1) := by decide +kernel
theorem dX1_begin_81 : decode cX1_begin 81 = .ok (.iconst 0, 1) := by decide +kernel
theorem dX1_begin_82 : decode cX1_begin 82 = .ok (.putfield 74, 3) := by decide +kernel
theorem dX1_begin_85 : decode cX1_begin 85 = .ok (.return_, 1) := by decide +kernel
set_option maxRecDepth 20000 in
theorem ggX1_change_X3_put : GoodIn wsX1_change wsX3_put := goodIn_r _ [6] (by decide +kernel) (by decide +kernel)
set_option maxRecDepth 20000 in
theorem gX1_change_X3_put_n88 : GoodIn wsX1_change (wsX3_put) := ggX1_change_X3_put
set_option maxRecDepth 20000 in
theorem ggX1_change_X3_at : GoodIn wsX1_change wsX3_at := goodIn_r _ [8] (by decide +kernel) (by decide +kernel)
set_option maxRecDepth 20000 in
theorem gX1_change_X3_at_n77 : GoodIn wsX1_change (wsX3_at) := ggX1_change_X3_at
set_option maxRecDepth 20000 in
theorem ggX1_change_X0_lay : GoodIn wsX1_change wsX0_lay := goodIn_r _ [13, 14, 15, 16, 17, 18, 7, 5, 8, 4, 6, 50, 51, 52, 53, 54, 55, 56, 57, 58] (by decide +kernel) (by decide +kernel)
set_option maxRecDepth 20000 in
theorem gX1_change_X0_lay : GoodIn wsX1_change (wsV RX1 81 RX0 yX0_lay wsX0_lay) := goodIn_app (goodIn_of _ (by decide +kernel)) ggX1_change_X0_lay
set_option maxRecDepth 20000 in
theorem ggX1_change_X1_highestTop : GoodIn wsX1_change wsX1_highestTop := goodIn_r _ [23, 2, 24, 1, 25, 26, 27, 28, 7, 5, 8, 35, 36, 37, 38, 39, 40, 41, 42, 43, 44, 45, 46, 47, 48, 49, 50, 51, 52, 53, 54, 55, 56, 57, 58] (by decide +kernel) (by decide +kernel)
set_option maxRecDepth 20000 in
theorem gX1_change_X1_highestTop : GoodIn wsX1_change (wsV RX1 92 RX1 yX1_highestTop wsX1_highestTop) := goodIn_app (goodIn_of _ (by decide +kernel)) ggX1_change_X1_highestTop
set_option maxRecDepth 20000 in
theorem ggX1_change_X3_limited : GoodIn wsX1_change wsX3_limited := goodIn_r _ [30, 31, 32, 27, 33, 34, 26, 28] (by decide +kernel) (by decide +kernel)
set_option maxRecDepth 20000 in
theorem gX1_change_X3_limited_n96 : GoodIn wsX1_change (wsX3_limited) := ggX1_change_X3_limited
theorem dX1_change_0 : decode cX1_change 0 = .ok (.aload_n 0, 1) := by decide +kernel
theorem dX1_change_1 : decode cX1_change 1 = .ok (.getfield 9, 3) := by decide +kernel
theorem dX1_change_4 : decode cX1_change 4 = .ok (.iload_n 1, 1) := by decide +kernel
theorem dX1_change_5 : decode cX1_change 5 = .ok (.iload_n 2, 1) := by decide +kernel
theorem dX1_change_6 : decode cX1_change 6 = .ok (.invokestatic 88, 3) := by decide +kernel
theorem dX1_change_9 : decode cX1_change 9 = .ok (.aload_n 0, 1) := by decide +kernel
theorem dX1_change_10 : decode cX1_change 10 = .ok (.getfield 18, 3) := by decide +kernel
theorem dX1_change_13 : decode cX1_change 13 = .ok (.aload_n 0, 1) := by decide +kernel
theorem dX1_change_14 : decode cX1_change 14 = .ok (.getfield 9, 3) := by decide +kernel
theorem dX1_change_17 : decode cX1_change 17 = .ok (.iconst 0, 1) := by decide +kernel
theorem dX1_change_18 : decode cX1_change 18 = .ok (.invokestatic 77, 3) := by decide +kernel
theorem dX1_change_21 : decode cX1_change 21 = .ok (.invokevirtual 81, 3) := by decide +kernel
theorem dX1_change_24 : decode cX1_change 24 = .ok (.aload_n 0, 1) := by decide +kernel
theorem dX1_change_25 : decode cX1_change 25 = .ok (.aload_n 0, 1) := by decide +kernel
theorem dX1_change_26 : decode cX1_change 26 = .ok (.getfield 59, 3) := by decide +kernel
theorem dX1_change_29 : decode cX1_change 29 = .ok (.iconst 0, 1) := by decide +kernel
theorem dX1_change_30 : decode cX1_change 30 = .ok (.aload_n 0, 1) := by decide +kernel
theorem dX1_change_31 : decode cX1_change 31 = .ok (.invokevirtual 92, 3) := by decide +kernel
theorem dX1_change_34 : decode cX1_change 34 = .ok (.invokestatic 96, 3) := by decide +kernel
theorem dX1_change_37 : decode cX1_change 37 = .ok (.putfield 59, 3) := by decide +kernel
theorem dX1_change_40 : decode cX1_change 40 = .ok (.return_, 1) := by decide +kernel
set_option maxRecDepth 20000 in
theorem ggX1_jump_X2_empty : GoodIn wsX1_jump wsX2_empty := goodIn_r _ [11, 12, 40, 41, 42] (by decide +kernel) (by decide +kernel)
set_option maxRecDepth 20000 in
theorem gX1_jump_X2_empty : GoodIn wsX1_jump (wsV RX1 85 RX2 yX2_empty wsX2_empty) := goodIn_app (goodIn_of _ (by decide +kernel)) ggX1_jump_X2_empty
set_option maxRecDepth 20000 in
theorem ggX1_jump_X0_setCuesAround : GoodIn wsX1_jump wsX0_setCuesAround := goodIn_r _ [17, 18, 19, 20, 21, 22, 23, 24, 43, 44, 45, 46, 47, 48, 49, 50, 51] (by decide +kernel) (by decide +kernel)
set_option maxRecDepth 20000 in
theorem gX1_jump_X0_setCuesAround : GoodIn wsX1_jump (wsV RX1 100 RX0 yX0_setCuesAround wsX0_setCuesAround) := goodIn_app (goodIn_of _ (by decide +kernel)) ggX1_jump_X0_setCuesAround
theorem dX1_jump_0 : decode cX1_jump 0 = .ok (.aload_n 0, 1) := by decide +kernel
theorem dX1_jump_1 : decode cX1_jump 1 = .ok (.iconst 0, 1) := by decide +kernel
theorem dX1_jump_2 : decode cX1_jump 2 = .ok (.putfield 43, 3) := by decide +kernel
theorem dX1_jump_5 : decode cX1_jump 5 = .ok (.aload_n 0, 1) := by decide +kernel
theorem dX1_jump_6 : decode cX1_jump 6 = .ok (.getfield 25, 3) := by decide +kernel
theorem dX1_jump_9 : decode cX1_jump 9 = .ok (.invokevirtual 85, 3) := by decide +kernel
theorem dX1_jump_12 : decode cX1_jump 12 = .ok (.aload_n 0, 1) := by decide +kernel
theorem dX1_jump_13 : decode cX1_jump 13 = .ok (.aload_n 0, 1) := by decide +kernel
theorem dX1_jump_14 : decode cX1_jump 14 = .ok (.getfield 53, 3) := by decide +kernel
theorem dX1_jump_17 : decode cX1_jump 17 = .ok (.putfield 56, 3) := by decide +kernel
theorem dX1_jump_20 : decode cX1_jump 20 = .ok (.aload_n 0, 1) := by decide +kernel
theorem dX1_jump_21 : decode cX1_jump 21 = .ok (.iload_n 1, 1) := by decide +kernel
theorem dX1_jump_22 : decode cX1_jump 22 = .ok (.putfield 47, 3) := by decide +kernel
theorem dX1_jump_25 : decode cX1_jump 25 = .ok (.aload_n 0, 1) := by decide +kernel
theorem dX1_jump_26 : decode cX1_jump 26 = .ok (.getfield 18, 3) := by decide +kernel
theorem dX1_jump_29 : decode cX1_jump 29 = .ok (.iload_n 1, 1) := by decide +kernel
theorem dX1_jump_30 : decode cX1_jump 30 = .ok (.invokevirtual 100, 3) := by decide +kernel
theorem dX1_jump_33 : decode cX1_jump 33 = .ok (.return_, 1) := by decide +kernel
set_option maxRecDepth 20000 in
theorem ggX1_listen_X1_bestCandidate : GoodIn wsX1_listen wsX1_bestCandidate := goodIn_r _ [6, 7, 8, 9, 10, 11, 12, 13, 14, 15, 16, 17, 18, 19, 20, 21, 22, 23, 24, 5, 25, 26, 27, 28, 29, 30, 31, 32, 33, 34, 79, 80, 81, 82, 83, 84, 85, 86, 87, 88, 89, 90, 91, 92, 93, 94, 95, 96, 97, 98, 99, 100, 101, 102] (by decide +kernel) (by decide +kernel)
set_option maxRecDepth 20000 in
theorem gX1_listen_X1_bestCandidate : GoodIn wsX1_listen (wsV RX1 103 RX1 yX1_bestCandidate wsX1_bestCandidate) := goodIn_app (goodIn_of _ (by decide +kernel)) ggX1_listen_X1_bestCandidate
set_option maxRecDepth 20000 in
theorem ggX1_listen_X1_accepts : GoodIn wsX1_listen wsX1_accepts := goodIn_r _ [38, 7, 8, 29, 30, 31, 5, 32, 33, 34, 13, 18, 19, 20, 21, 79, 80, 81, 82, 83, 84, 85, 86, 87, 88, 89, 90, 91, 92, 93, 94, 95, 96, 97, 98, 99, 100, 101, 102] (by decide +kernel) (by decide +kernel)
set_option maxRecDepth 20000 in
theorem gX1_listen_X1_accepts : GoodIn wsX1_listen (wsV RX1 107 RX1 yX1_accepts wsX1_accepts) := goodIn_app (goodIn_of _ (by decide +kernel)) ggX1_listen_X1_accepts
set_option maxRecDepth 20000 in
theorem ggX1_listen_X1_follow : GoodIn wsX1_listen wsX1_follow := goodIn_r _ [42, 7, 43, 44, 45, 46, 47, 8, 48, 49, 13, 50, 51, 52, 53, 54, 55, 19, 20, 21, 56, 57, 58, 59, 60, 61, 62, 63, 64, 65, 66, 67, 68, 69, 70, 71, 72, 73, 74, 79, 80, 81, 82, 83, 84, 85, 86, 87, 88, 89, 90, 91, 92, 93, 103, 104, 105, 94, 95, 96, 97, 98, 99, 100, 101, 102] (by decide +kernel) (by decide +kernel)
set_option maxRecDepth 20000 in
theorem gX1_listen_X1_follow : GoodIn wsX1_listen (wsV RX1 111 RX1 yX1_follow wsX1_follow) := goodIn_app (goodIn_of _ (by decide +kernel)) ggX1_listen_X1_follow
set_option maxRecDepth 20000 in
theorem ggX1_listen_X1_keepHeard : GoodIn wsX1_listen wsX1_keepHeard := goodIn_r _ [78, 34, 33, 15, 16, 11, 17, 19, 20, 21, 62, 63, 79, 80, 81, 82, 83, 84, 85, 86, 87, 88, 89, 90, 91, 92, 93] (by decide +kernel) (by decide +kernel)
set_option maxRecDepth 20000 in
theorem gX1_listen_X1_keepHeard : GoodIn wsX1_listen (wsV RX1 114 RX1 yX1_keepHeard wsX1_keepHeard) := goodIn_app (goodIn_of _ (by decide +kernel)) ggX1_listen_X1_keepHeard
theorem dX1_listen_0 : decode cX1_listen 0 = .ok (.aload_n 0, 1) := by decide +kernel
theorem dX1_listen_1 : decode cX1_listen 1 = .ok (.iload_n 1, 1) := by decide +kernel
theorem dX1_listen_2 : decode cX1_listen 2 = .ok (.invokevirtual 103, 3) := by decide +kernel
theorem dX1_listen_5 : decode cX1_listen 5 = .ok (.istore_n 2, 1) := by decide +kernel
theorem dX1_listen_6 : decode cX1_listen 6 = .ok (.iload_n 2, 1) := by decide +kernel
theorem dX1_listen_7 : decode cX1_listen 7 = .ok (.bipush (-9), 2) := by decide +kernel
theorem dX1_listen_9 : decode cX1_listen 9 = .ok (.if_icmp .eq 15, 3) := by decide +kernel
theorem dX1_listen_12 : decode cX1_listen 12 = .ok (.aload_n 0, 1) := by decide +kernel
theorem dX1_listen_13 : decode cX1_listen 13 = .ok (.iload_n 2, 1) := by decide +kernel
theorem dX1_listen_14 : decode cX1_listen 14 = .ok (.invokevirtual 107, 3) := by decide +kernel
theorem dX1_listen_17 : decode cX1_listen 17 = .ok (.ifCond .eq 7, 3) := by decide +kernel
theorem dX1_listen_20 : decode cX1_listen 20 = .ok (.iconst 1, 1) := by decide +kernel
theorem dX1_listen_21 : decode cX1_listen 21 = .ok (.goto 4, 3) := by decide +kernel
theorem dX1_listen_24 : decode cX1_listen 24 = .ok (.iconst 0, 1) := by decide +kernel
theorem dX1_listen_25 : decode cX1_listen 25 = .ok (.istore_n 3, 1) := by decide +kernel
theorem dX1_listen_26 : decode cX1_listen 26 = .ok (.iload_n 3, 1) := by decide +kernel
theorem dX1_listen_27 : decode cX1_listen 27 = .ok (.ifCond .eq 11, 3) := by decide +kernel
theorem dX1_listen_30 : decode cX1_listen 30 = .ok (.aload_n 0, 1) := by decide +kernel
theorem dX1_listen_31 : decode cX1_listen 31 = .ok (.iload_n 2, 1) := by decide +kernel
theorem dX1_listen_32 : decode cX1_listen 32 = .ok (.invokevirtual 111, 3) := by decide +kernel
theorem dX1_listen_35 : decode cX1_listen 35 = .ok (.goto 13, 3) := by decide +kernel
theorem dX1_listen_38 : decode cX1_listen 38 = .ok (.aload_n 0, 1) := by decide +kernel
theorem dX1_listen_39 : decode cX1_listen 39 = .ok (.dup, 1) := by decide +kernel
theorem dX1_listen_40 : decode cX1_listen 40 = .ok (.getfield 68, 3) := by decide +kernel
theorem dX1_listen_43 : decode cX1_listen 43 = .ok (.iconst 1, 1) := by decide +kernel
theorem dX1_listen_44 : decode cX1_listen 44 = .ok (.iadd, 1) := by decide +kernel
theorem dX1_listen_45 : decode cX1_listen 45 = .ok (.putfield 68, 3) := by decide +kernel
theorem dX1_listen_48 : decode cX1_listen 48 = .ok (.aload_n 0, 1) := by decide +kernel
theorem dX1_listen_49 : decode cX1_listen 49 = .ok (.iload_n 1, 1) := by decide +kernel
theorem dX1_listen_50 : decode cX1_listen 50 = .ok (.invokevirtual 114, 3) := by decide +kernel
theorem dX1_listen_53 : decode cX1_listen 53 = .ok (.iload_n 3, 1) := by decide +kernel
theorem dX1_listen_54 : decode cX1_listen 54 = .ok (.ireturn, 1) := by decide +kernel
set_option maxRecDepth 20000 in
theorem ggX1_bestCandidate_X3_at : GoodIn wsX1_bestCandidate wsX3_at := goodIn_r _ [15] (by decide +kernel) (by decide +kernel)
set_option maxRecDepth 20000 in
theorem gX1_bestCandidate_X3_at_n77 : GoodIn wsX1_bestCandidate (wsX3_at) := ggX1_bestCandidate_X3_at
set_option maxRecDepth 20000 in
theorem ggX1_bestCandidate_X1_isBetter : GoodIn wsX1_bestCandidate wsX1_isBetter := goodIn_r _ [20, 1, 21, 22, 5, 23, 24, 25, 26, 19, 27, 28, 29, 7, 12, 13, 14, 15, 30, 31, 32, 33, 34, 35, 36, 37, 38, 39, 40, 41, 42, 43, 44, 45, 46, 47, 48, 49, 50, 51, 52, 53] (by decide +kernel) (by decide +kernel)
set_option maxRecDepth 20000 in
theorem gX1_bestCandidate_X1_isBetter : GoodIn wsX1_bestCandidate (wsV RX1 132 RX1 yX1_isBetter wsX1_isBetter) := goodIn_app (goodIn_of _ (by decide +kernel)) ggX1_bestCandidate_X1_isBetter
theorem dX1_bestCandidate_0 : decode cX1_bestCandidate 0 = .ok (.bipush (-9), 2) := by decide +kernel
theorem dX1_bestCandidate_2 : decode cX1_bestCandidate 2 = .ok (.istore_n 2, 1) := by decide +kernel
theorem dX1_bestCandidate_3 : decode cX1_bestCandidate 3 = .ok (.iconst 0, 1) := by decide +kernel
theorem dX1_bestCandidate_4 : decode cX1_bestCandidate 4 = .ok (.aload_n 0, 1) := by decide +kernel
theorem dX1_bestCandidate_5 : decode cX1_bestCandidate 5 = .ok (.getfield 47, 3) := by decide +kernel
theorem dX1_bestCandidate_8 : decode cX1_bestCandidate 8 = .ok (.aload_n 0, 1) := by decide +kernel
theorem dX1_bestCandidate_9 : decode cX1_bestCandidate 9 = .ok (.getfield 9, 3) := by decide +kernel
theorem dX1_bestCandidate_12 : decode cX1_bestCandidate 12 = .ok (.iconst 3, 1) := by decide +kernel
theorem dX1_bestCandidate_13 : decode cX1_bestCandidate 13 = .ok (.invokestatic 77, 3) := by decide +kernel
theorem dX1_bestCandidate_16 : decode cX1_bestCandidate 16 = .ok (.isub, 1) := by decide +kernel
theorem dX1_bestCandidate_17 : decode cX1_bestCandidate 17 = .ok (.invokestatic 117, 3) := by decide +kernel
theorem dX1_bestCandidate_20 : decode cX1_bestCandidate 20 = .ok (.istore_n 3, 1) := by decide +kernel
theorem dX1_bestCandidate_21 : decode cX1_bestCandidate 21 = .ok (.aload_n 0, 1) := by decide +kernel
theorem dX1_bestCandidate_22 : decode cX1_bestCandidate 22 = .ok (.getfield 18, 3) := by decide +kernel
theorem dX1_bestCandidate_25 : decode cX1_bestCandidate 25 = .ok (.getfield 123, 3) := by decide +kernel
theorem dX1_bestCandidate_28 : decode cX1_bestCandidate 28 = .ok (.iconst 1, 1) := by decide +kernel
theorem dX1_bestCandidate_29 : decode cX1_bestCandidate 29 = .ok (.isub, 1) := by decide +kernel
theorem dX1_bestCandidate_30 : decode cX1_bestCandidate 30 = .ok (.aload_n 0, 1) := by decide +kernel
theorem dX1_bestCandidate_31 : decode cX1_bestCandidate 31 = .ok (.getfield 47, 3) := by decide +kernel
theorem dX1_bestCandidate_34 : decode cX1_bestCandidate 34 = .ok (.aload_n 0, 1) := by decide +kernel
theorem dX1_bestCandidate_35 : decode cX1_bestCandidate 35 = .ok (.getfield 9, 3) := by decide +kernel
theorem dX1_bestCandidate_38 : decode cX1_bestCandidate 38 = .ok (.iconst 4, 1) := by decide +kernel
theorem dX1_bestCandidate_39 : decode cX1_bestCandidate 39 = .ok (.invokestatic 77, 3) := by decide +kernel
theorem dX1_bestCandidate_42 : decode cX1_bestCandidate 42 = .ok (.iadd, 1) := by decide +kernel
theorem dX1_bestCandidate_43 : decode cX1_bestCandidate 43 = .ok (.invokestatic 126, 3) := by decide +kernel
theorem dX1_bestCandidate_46 : decode cX1_bestCandidate 46 = .ok (.istore 4, 2) := by decide +kernel
theorem dX1_bestCandidate_48 : decode cX1_bestCandidate 48 = .ok (.iload_n 3, 1) := by decide +kernel
theorem dX1_bestCandidate_49 : decode cX1_bestCandidate 49 = .ok (.istore 5, 2) := by decide +kernel
theorem dX1_bestCandidate_51 : decode cX1_bestCandidate 51 = .ok (.iload 5, 2) := by decide +kernel
theorem dX1_bestCandidate_53 : decode cX1_bestCandidate 53 = .ok (.iload 4, 2) := by decide +kernel
theorem dX1_bestCandidate_55 : decode cX1_bestCandidate 55 = .ok (.if_icmp .gt 44, 3) := by decide +kernel
theorem dX1_bestCandidate_58 : decode cX1_bestCandidate 58 = .ok (.aload_n 0, 1) := by decide +kernel
theorem dX1_bestCandidate_59 : decode cX1_bestCandidate 59 = .ok (.getfield 18, 3) := by decide +kernel
theorem dX1_bestCandidate_62 : decode cX1_bestCandidate 62 = .ok (.getfield 129, 3) := by decide +kernel
theorem dX1_bestCandidate_65 : decode cX1_bestCandidate 65 = .ok (.iload 5, 2) := by decide +kernel
theorem dX1_bestCandidate_67 : decode cX1_bestCandidate 67 = .ok (.invokestatic 77, 3) := by decide +kernel
theorem dX1_bestCandidate_70 : decode cX1_bestCandidate 70 = .ok (.iload_n 1, 1) := by decide +kernel
theorem dX1_bestCandidate_71 : decode cX1_bestCandidate 71 = .ok (.if_icmp .ne 22, 3) := by decide +kernel
theorem dX1_bestCandidate_74 : decode cX1_bestCandidate 74 = .ok (.iload_n 2, 1) := by decide +kernel
theorem dX1_bestCandidate_75 : decode cX1_bestCandidate 75 = .ok (.bipush (-9), 2) := by decide +kernel
theorem dX1_bestCandidate_77 : decode cX1_bestCandidate 77 = .ok (.if_icmp .eq 13, 3) := by decide +kernel
theorem dX1_bestCandidate_80 : decode cX1_bestCandidate 80 = .ok (.aload_n 0, 1) := by decide +kernel
theorem dX1_bestCandidate_81 : decode cX1_bestCandidate 81 = .ok (.iload 5, 2) := by decide +kernel
theorem dX1_bestCandidate_83 : decode cX1_bestCandidate 83 = .ok (.iload_n 2, 1) := by decide +kernel
theorem dX1_bestCandidate_84 : decode cX1_bestCandidate 84 = .ok (.invokevirtual 132, 3) := by decide +kernel
theorem dX1_bestCandidate_87 : decode cX1_bestCandidate 87 = .ok (.ifCond .eq 6, 3) := by decide +kernel
theorem dX1_bestCandidate_90 : decode cX1_bestCandidate 90 = .ok (.iload 5, 2) := by decide +kernel
theorem dX1_bestCandidate_92 : decode cX1_bestCandidate 92 = .ok (.istore_n 2, 1) := by decide +kernel
theorem dX1_bestCandidate_93 : decode cX1_bestCandidate 93 = .ok (.iinc 5 1, 3) := by decide +kernel
theorem dX1_bestCandidate_96 : decode cX1_bestCandidate 96 = .ok (.goto (-45), 3) := by decide +kernel
theorem dX1_bestCandidate_99 : decode cX1_bestCandidate 99 = .ok (.iload_n 2, 1) := by decide +kernel
theorem dX1_bestCandidate_100 : decode cX1_bestCandidate 100 = .ok (.ireturn, 1) := by decide +kernel
set_option maxRecDepth 20000 in
theorem ggX1_isBetter_X1_points : GoodIn wsX1_isBetter wsX1_points := goodIn_r _ [10, 11, 12, 13, 14, 15, 16, 17, 18, 19, 20, 21, 22, 23, 24, 25, 26, 27, 28, 29, 30, 31, 32, 33, 34, 35, 36, 37, 38, 39, 40, 41] (by decide +kernel) (by decide +kernel)
set_option maxRecDepth 20000 in
theorem gX1_isBetter_X1_points : GoodIn wsX1_isBetter (wsV RX1 136 RX1 yX1_points wsX1_points) := goodIn_app (goodIn_of _ (by decide +kernel)) ggX1_isBetter_X1_points
theorem dX1_isBetter_0 : decode cX1_isBetter 0 = .ok (.aload_n 0, 1) := by decide +kernel
theorem dX1_isBetter_1 : decode cX1_isBetter 1 = .ok (.iload_n 1, 1) := by decide +kernel
theorem dX1_isBetter_2 : decode cX1_isBetter 2 = .ok (.invokevirtual 136, 3) := by decide +kernel
theorem dX1_isBetter_5 : decode cX1_isBetter 5 = .ok (.istore_n 3, 1) := by decide +kernel
theorem dX1_isBetter_6 : decode cX1_isBetter 6 = .ok (.aload_n 0, 1) := by decide +kernel
theorem dX1_isBetter_7 : decode cX1_isBetter 7 = .ok (.iload_n 2, 1) := by decide +kernel
theorem dX1_isBetter_8 : decode cX1_isBetter 8 = .ok (.invokevirtual 136, 3) := by decide +kernel
theorem dX1_isBetter_11 : decode cX1_isBetter 11 = .ok (.istore 4, 2) := by decide +kernel
theorem dX1_isBetter_13 : decode cX1_isBetter 13 = .ok (.iload_n 3, 1) := by decide +kernel
theorem dX1_isBetter_14 : decode cX1_isBetter 14 = .ok (.iload 4, 2) := by decide +kernel
theorem dX1_isBetter_16 : decode cX1_isBetter 16 = .ok (.if_icmp .eq 15, 3) := by decide +kernel
theorem dX1_isBetter_19 : decode cX1_isBetter 19 = .ok (.iload_n 3, 1) := by decide +kernel
theorem dX1_isBetter_20 : decode cX1_isBetter 20 = .ok (.iload 4, 2) := by decide +kernel
theorem dX1_isBetter_22 : decode cX1_isBetter 22 = .ok (.if_icmp .le 7, 3) := by decide +kernel
theorem dX1_isBetter_25 : decode cX1_isBetter 25 = .ok (.iconst 1, 1) := by decide +kernel
theorem dX1_isBetter_26 : decode cX1_isBetter 26 = .ok (.goto 4, 3) := by decide +kernel
theorem dX1_isBetter_29 : decode cX1_isBetter 29 = .ok (.iconst 0, 1) := by decide +kernel
theorem dX1_isBetter_30 : decode cX1_isBetter 30 = .ok (.ireturn, 1) := by decide +kernel
theorem dX1_isBetter_31 : decode cX1_isBetter 31 = .ok (.iload_n 1, 1) := by decide +kernel
theorem dX1_isBetter_32 : decode cX1_isBetter 32 = .ok (.aload_n 0, 1) := by decide +kernel
theorem dX1_isBetter_33 : decode cX1_isBetter 33 = .ok (.getfield 47, 3) := by decide +kernel
theorem dX1_isBetter_36 : decode cX1_isBetter 36 = .ok (.isub, 1) := by decide +kernel
theorem dX1_isBetter_37 : decode cX1_isBetter 37 = .ok (.invokestatic 139, 3) := by decide +kernel
theorem dX1_isBetter_40 : decode cX1_isBetter 40 = .ok (.iload_n 2, 1) := by decide +kernel
theorem dX1_isBetter_41 : decode cX1_isBetter 41 = .ok (.aload_n 0, 1) := by decide +kernel
theorem dX1_isBetter_42 : decode cX1_isBetter 42 = .ok (.getfield 47, 3) := by decide +kernel
theorem dX1_isBetter_45 : decode cX1_isBetter 45 = .ok (.isub, 1) := by decide +kernel
theorem dX1_isBetter_46 : decode cX1_isBetter 46 = .ok (.invokestatic 139, 3) := by decide +kernel
theorem dX1_isBetter_49 : decode cX1_isBetter 49 = .ok (.if_icmp .ge 7, 3) := by decide +kernel
theorem dX1_isBetter_52 : decode cX1_isBetter 52 = .ok (.iconst 1, 1) := by decide +kernel
theorem dX1_isBetter_53 : decode cX1_isBetter 53 = .ok (.goto 4, 3) := by decide +kernel
theorem dX1_isBetter_56 : decode cX1_isBetter 56 = .ok (.iconst 0, 1) := by decide +kernel
theorem dX1_isBetter_57 : decode cX1_isBetter 57 = .ok (.ireturn, 1) := by decide +kernel
set_option maxRecDepth 20000 in
theorem ggX1_points_X3_at : GoodIn wsX1_points wsX3_at := goodIn_r _ [7] (by decide +kernel) (by decide +kernel)
set_option maxRecDepth 20000 in
theorem gX1_points_X3_at_n77 : GoodIn wsX1_points (wsX3_at) := ggX1_points_X3_at
theorem dX1_points_0 : decode cX1_points 0 = .ok (.iconst 1, 1) := by decide +kernel
theorem dX1_points_1 : decode cX1_points 1 = .ok (.istore_n 2, 1) := by decide +kernel
theorem dX1_points_2 : decode cX1_points 2 = .ok (.iload_n 2, 1) := by decide +kernel
theorem dX1_points_3 : decode cX1_points 3 = .ok (.iconst 4, 1) := by decide +kernel
theorem dX1_points_4 : decode cX1_points 4 = .ok (.if_icmp .ge 48, 3) := by decide +kernel
theorem dX1_points_7 : decode cX1_points 7 = .ok (.iload_n 2, 1) := by decide +kernel
theorem dX1_points_8 : decode cX1_points 8 = .ok (.aload_n 0, 1) := by decide +kernel
theorem dX1_points_9 : decode cX1_points 9 = .ok (.getfield 43, 3) := by decide +kernel
theorem dX1_points_12 : decode cX1_points 12 = .ok (.if_icmp .gt 40, 3) := by decide +kernel
theorem dX1_points_15 : decode cX1_points 15 = .ok (.iload_n 2, 1) := by decide +kernel
theorem dX1_points_16 : decode cX1_points 16 = .ok (.iload_n 1, 1) := by decide +kernel
theorem dX1_points_17 : decode cX1_points 17 = .ok (.if_icmp .gt 35, 3) := by decide +kernel
theorem dX1_points_20 : decode cX1_points 20 = .ok (.aload_n 0, 1) := by decide +kernel
theorem dX1_points_21 : decode cX1_points 21 = .ok (.getfield 29, 3) := by decide +kernel
theorem dX1_points_24 : decode cX1_points 24 = .ok (.iload_n 2, 1) := by decide +kernel
theorem dX1_points_25 : decode cX1_points 25 = .ok (.iconst 1, 1) := by decide +kernel
theorem dX1_points_26 : decode cX1_points 26 = .ok (.isub, 1) := by decide +kernel
theorem dX1_points_27 : decode cX1_points 27 = .ok (.invokestatic 77, 3) := by decide +kernel
theorem dX1_points_30 : decode cX1_points 30 = .ok (.aload_n 0, 1) := by decide +kernel
theorem dX1_points_31 : decode cX1_points 31 = .ok (.getfield 18, 3) := by decide +kernel
theorem dX1_points_34 : decode cX1_points 34 = .ok (.getfield 129, 3) := by decide +kernel
theorem dX1_points_37 : decode cX1_points 37 = .ok (.iload_n 1, 1) := by decide +kernel
theorem dX1_points_38 : decode cX1_points 38 = .ok (.iload_n 2, 1) := by decide +kernel
theorem dX1_points_39 : decode cX1_points 39 = .ok (.isub, 1) := by decide +kernel
theorem dX1_points_40 : decode cX1_points 40 = .ok (.invokestatic 77, 3) := by decide +kernel
theorem dX1_points_43 : decode cX1_points 43 = .ok (.if_icmp .ne 9, 3) := by decide +kernel
theorem dX1_points_46 : decode cX1_points 46 = .ok (.iinc 2 1, 3) := by decide +kernel
theorem dX1_points_49 : decode cX1_points 49 = .ok (.goto (-47), 3) := by decide +kernel
theorem dX1_points_52 : decode cX1_points 52 = .ok (.iload_n 2, 1) := by decide +kernel
theorem dX1_points_53 : decode cX1_points 53 = .ok (.ireturn, 1) := by decide +kernel
set_option maxRecDepth 20000 in
theorem ggX1_accepts_X1_points : GoodIn wsX1_accepts wsX1_points := goodIn_r _ [7, 8, 9, 10, 11, 12, 13, 14, 15, 16, 17, 18, 19, 20, 21, 22, 23, 24, 25, 26, 27, 28, 29, 30, 31, 32, 33, 34, 35, 36, 37, 38] (by decide +kernel) (by decide +kernel)
set_option maxRecDepth 20000 in
theorem gX1_accepts_X1_points : GoodIn wsX1_accepts (wsV RX1 136 RX1 yX1_points wsX1_points) := goodIn_app (goodIn_of _ (by decide +kernel)) ggX1_accepts_X1_points
set_option maxRecDepth 20000 in
theorem ggX1_accepts_X3_at : GoodIn wsX1_accepts wsX3_at := goodIn_r _ [14] (by decide +kernel) (by decide +kernel)
set_option maxRecDepth 20000 in
theorem gX1_accepts_X3_at_n77 : GoodIn wsX1_accepts (wsX3_at) := ggX1_accepts_X3_at
theorem dX1_accepts_0 : decode cX1_accepts 0 = .ok (.iload_n 1, 1) := by decide +kernel
theorem dX1_accepts_1 : decode cX1_accepts 1 = .ok (.aload_n 0, 1) := by decide +kernel
theorem dX1_accepts_2 : decode cX1_accepts 2 = .ok (.getfield 47, 3) := by decide +kernel
theorem dX1_accepts_5 : decode cX1_accepts 5 = .ok (.if_icmp .eq 19, 3) := by decide +kernel
theorem dX1_accepts_8 : decode cX1_accepts 8 = .ok (.aload_n 0, 1) := by decide +kernel
theorem dX1_accepts_9 : decode cX1_accepts 9 = .ok (.iload_n 1, 1) := by decide +kernel
theorem dX1_accepts_10 : decode cX1_accepts 10 = .ok (.invokevirtual 136, 3) := by decide +kernel
theorem dX1_accepts_13 : decode cX1_accepts 13 = .ok (.aload_n 0, 1) := by decide +kernel
theorem dX1_accepts_14 : decode cX1_accepts 14 = .ok (.getfield 9, 3) := by decide +kernel
theorem dX1_accepts_17 : decode cX1_accepts 17 = .ok (.iconst 5, 1) := by decide +kernel
theorem dX1_accepts_18 : decode cX1_accepts 18 = .ok (.invokestatic 77, 3) := by decide +kernel
theorem dX1_accepts_21 : decode cX1_accepts 21 = .ok (.if_icmp .lt 7, 3) := by decide +kernel
theorem dX1_accepts_24 : decode cX1_accepts 24 = .ok (.iconst 1, 1) := by decide +kernel
theorem dX1_accepts_25 : decode cX1_accepts 25 = .ok (.goto 4, 3) := by decide +kernel
theorem dX1_accepts_28 : decode cX1_accepts 28 = .ok (.iconst 0, 1) := by decide +kernel
theorem dX1_accepts_29 : decode cX1_accepts 29 = .ok (.ireturn, 1) := by decide +kernel
set_option maxRecDepth 20000 in
theorem ggX1_follow_X2_empty : GoodIn wsX1_follow wsX2_empty := goodIn_r _ [15, 16, 54, 55, 56] (by decide +kernel) (by decide +kernel)
set_option maxRecDepth 20000 in
theorem gX1_follow_X2_empty : GoodIn wsX1_follow (wsV RX1 85 RX2 yX2_empty wsX2_empty) := goodIn_app (goodIn_of _ (by decide +kernel)) ggX1_follow_X2_empty
set_option maxRecDepth 20000 in
theorem ggX1_follow_X3_at : GoodIn wsX1_follow wsX3_at := goodIn_r _ [19] (by decide +kernel) (by decide +kernel)
set_option maxRecDepth 20000 in
theorem gX1_follow_X3_at_n77 : GoodIn wsX1_follow (wsX3_at) := ggX1_follow_X3_at
set_option maxRecDepth 20000 in
theorem ggX1_follow_X2_add : GoodIn wsX1_follow wsX2_add := goodIn_r _ [23, 16, 24, 25, 17, 18, 19, 26, 27, 54, 55, 56] (by decide +kernel) (by decide +kernel)
set_option maxRecDepth 20000 in
theorem gX1_follow_X2_add : GoodIn wsX1_follow (wsV RX1 142 RX2 yX2_add wsX2_add) := goodIn_app (goodIn_of _ (by decide +kernel)) ggX1_follow_X2_add
set_option maxRecDepth 20000 in
theorem ggX1_follow_X2_speedOr : GoodIn wsX1_follow wsX2_speedOr := goodIn_r _ [31, 24, 16, 25, 17, 18, 19, 54, 55, 56] (by decide +kernel) (by decide +kernel)
set_option maxRecDepth 20000 in
theorem gX1_follow_X2_speedOr : GoodIn wsX1_follow (wsV RX1 146 RX2 yX2_speedOr wsX2_speedOr) := goodIn_app (goodIn_of _ (by decide +kernel)) ggX1_follow_X2_speedOr
set_option maxRecDepth 20000 in
theorem ggX1_follow_X0_passWaitingBefore : GoodIn wsX1_follow wsX0_passWaitingBefore := goodIn_r _ [36, 37, 38, 17, 18, 19, 26, 27, 57, 58, 59, 60, 61, 62, 63, 64, 65] (by decide +kernel) (by decide +kernel)
set_option maxRecDepth 20000 in
theorem gX1_follow_X0_passWaitingBefore : GoodIn wsX1_follow (wsV RX1 149 RX0 yX0_passWaitingBefore wsX0_passWaitingBefore) := goodIn_app (goodIn_of _ (by decide +kernel)) ggX1_follow_X0_passWaitingBefore
theorem dX1_follow_0 : decode cX1_follow 0 = .ok (.iload_n 1, 1) := by decide +kernel
theorem dX1_follow_1 : decode cX1_follow 1 = .ok (.aload_n 0, 1) := by decide +kernel
theorem dX1_follow_2 : decode cX1_follow 2 = .ok (.getfield 47, 3) := by decide +kernel
theorem dX1_follow_5 : decode cX1_follow 5 = .ok (.if_icmp .le 23, 3) := by decide +kernel
theorem dX1_follow_8 : decode cX1_follow 8 = .ok (.aload_n 0, 1) := by decide +kernel
theorem dX1_follow_9 : decode cX1_follow 9 = .ok (.dup, 1) := by decide +kernel
theorem dX1_follow_10 : decode cX1_follow 10 = .ok (.getfield 62, 3) := by decide +kernel
theorem dX1_follow_13 : decode cX1_follow 13 = .ok (.iconst 1, 1) := by decide +kernel
theorem dX1_follow_14 : decode cX1_follow 14 = .ok (.iadd, 1) := by decide +kernel
theorem dX1_follow_15 : decode cX1_follow 15 = .ok (.putfield 62, 3) := by decide +kernel
theorem dX1_follow_18 : decode cX1_follow 18 = .ok (.aload_n 0, 1) := by decide +kernel
theorem dX1_follow_19 : decode cX1_follow 19 = .ok (.getfield 25, 3) := by decide +kernel
theorem dX1_follow_22 : decode cX1_follow 22 = .ok (.invokevirtual 85, 3) := by decide +kernel
theorem dX1_follow_25 : decode cX1_follow 25 = .ok (.goto 28, 3) := by decide +kernel
theorem dX1_follow_28 : decode cX1_follow 28 = .ok (.iload_n 1, 1) := by decide +kernel
theorem dX1_follow_29 : decode cX1_follow 29 = .ok (.aload_n 0, 1) := by decide +kernel
theorem dX1_follow_30 : decode cX1_follow 30 = .ok (.getfield 47, 3) := by decide +kernel
theorem dX1_follow_33 : decode cX1_follow 33 = .ok (.if_icmp .ge 20, 3) := by decide +kernel
theorem dX1_follow_36 : decode cX1_follow 36 = .ok (.aload_n 0, 1) := by decide +kernel
theorem dX1_follow_37 : decode cX1_follow 37 = .ok (.dup, 1) := by decide +kernel
theorem dX1_follow_38 : decode cX1_follow 38 = .ok (.getfield 65, 3) := by decide +kernel
theorem dX1_follow_41 : decode cX1_follow 41 = .ok (.iconst 1, 1) := by decide +kernel
theorem dX1_follow_42 : decode cX1_follow 42 = .ok (.iadd, 1) := by decide +kernel
theorem dX1_follow_43 : decode cX1_follow 43 = .ok (.putfield 65, 3) := by decide +kernel
theorem dX1_follow_46 : decode cX1_follow 46 = .ok (.aload_n 0, 1) := by decide +kernel
theorem dX1_follow_47 : decode cX1_follow 47 = .ok (.getfield 25, 3) := by decide +kernel
theorem dX1_follow_50 : decode cX1_follow 50 = .ok (.invokevirtual 85, 3) := by decide +kernel
theorem dX1_follow_53 : decode cX1_follow 53 = .ok (.aload_n 0, 1) := by decide +kernel
theorem dX1_follow_54 : decode cX1_follow 54 = .ok (.iload_n 1, 1) := by decide +kernel
theorem dX1_follow_55 : decode cX1_follow 55 = .ok (.iconst 1, 1) := by decide +kernel
theorem dX1_follow_56 : decode cX1_follow 56 = .ok (.iadd, 1) := by decide +kernel
theorem dX1_follow_57 : decode cX1_follow 57 = .ok (.putfield 47, 3) := by decide +kernel
theorem dX1_follow_60 : decode cX1_follow 60 = .ok (.aload_n 0, 1) := by decide +kernel
theorem dX1_follow_61 : decode cX1_follow 61 = .ok (.aload_n 0, 1) := by decide +kernel
theorem dX1_follow_62 : decode cX1_follow 62 = .ok (.getfield 53, 3) := by decide +kernel
theorem dX1_follow_65 : decode cX1_follow 65 = .ok (.putfield 56, 3) := by decide +kernel
theorem dX1_follow_68 : decode cX1_follow 68 = .ok (.aload_n 0, 1) := by decide +kernel
theorem dX1_follow_69 : decode cX1_follow 69 = .ok (.getfield 25, 3) := by decide +kernel
theorem dX1_follow_72 : decode cX1_follow 72 = .ok (.aload_n 0, 1) := by decide +kernel
theorem dX1_follow_73 : decode cX1_follow 73 = .ok (.getfield 53, 3) := by decide +kernel
theorem dX1_follow_76 : decode cX1_follow 76 = .ok (.aload_n 0, 1) := by decide +kernel
theorem dX1_follow_77 : decode cX1_follow 77 = .ok (.getfield 47, 3) := by decide +kernel
theorem dX1_follow_80 : decode cX1_follow 80 = .ok (.aload_n 0, 1) := by decide +kernel
theorem dX1_follow_81 : decode cX1_follow 81 = .ok (.getfield 9, 3) := by decide +kernel
theorem dX1_follow_84 : decode cX1_follow 84 = .ok (.bipush 6, 2) := by decide +kernel
theorem dX1_follow_86 : decode cX1_follow 86 = .ok (.invokestatic 77, 3) := by decide +kernel
theorem dX1_follow_89 : decode cX1_follow 89 = .ok (.invokevirtual 142, 3) := by decide +kernel
theorem dX1_follow_92 : decode cX1_follow 92 = .ok (.aload_n 0, 1) := by decide +kernel
theorem dX1_follow_93 : decode cX1_follow 93 = .ok (.aload_n 0, 1) := by decide +kernel
theorem dX1_follow_94 : decode cX1_follow 94 = .ok (.getfield 25, 3) := by decide +kernel
theorem dX1_follow_97 : decode cX1_follow 97 = .ok (.aload_n 0, 1) := by decide +kernel
theorem dX1_follow_98 : decode cX1_follow 98 = .ok (.getfield 50, 3) := by decide +kernel
theorem dX1_follow_101 : decode cX1_follow 101 = .ok (.invokevirtual 146, 3) := by decide +kernel
theorem dX1_follow_104 : decode cX1_follow 104 = .ok (.putfield 50, 3) := by decide +kernel
theorem dX1_follow_107 : decode cX1_follow 107 = .ok (.aload_n 0, 1) := by decide +kernel
theorem dX1_follow_108 : decode cX1_follow 108 = .ok (.dup, 1) := by decide +kernel
theorem dX1_follow_109 : decode cX1_follow 109 = .ok (.getfield 74, 3) := by decide +kernel
theorem dX1_follow_112 : decode cX1_follow 112 = .ok (.aload_n 0, 1) := by decide +kernel
theorem dX1_follow_113 : decode cX1_follow 113 = .ok (.getfield 18, 3) := by decide +kernel
theorem dX1_follow_116 : decode cX1_follow 116 = .ok (.iload_n 1, 1) := by decide +kernel
theorem dX1_follow_117 : decode cX1_follow 117 = .ok (.invokevirtual 149, 3) := by decide +kernel
theorem dX1_follow_120 : decode cX1_follow 120 = .ok (.iadd, 1) := by decide +kernel
theorem dX1_follow_121 : decode cX1_follow 121 = .ok (.putfield 74, 3) := by decide +kernel
theorem dX1_follow_124 : decode cX1_follow 124 = .ok (.return_, 1) := by decide +kernel
set_option maxRecDepth 20000 in
theorem ggX1_keepHeard_X3_at : GoodIn wsX1_keepHeard wsX3_at := goodIn_r _ [9] (by decide +kernel) (by decide +kernel)
set_option maxRecDepth 20000 in
theorem gX1_keepHeard_X3_at_n77 : GoodIn wsX1_keepHeard (wsX3_at) := ggX1_keepHeard_X3_at
set_option maxRecDepth 20000 in
theorem ggX1_keepHeard_X3_put : GoodIn wsX1_keepHeard wsX3_put := goodIn_r _ [11] (by decide +kernel) (by decide +kernel)
set_option maxRecDepth 20000 in
theorem gX1_keepHeard_X3_put_n88 : GoodIn wsX1_keepHeard (wsX3_put) := ggX1_keepHeard_X3_put
theorem dX1_keepHeard_0 : decode cX1_keepHeard 0 = .ok (.iconst 3, 1) := by decide +kernel
theorem dX1_keepHeard_1 : decode cX1_keepHeard 1 = .ok (.istore_n 2, 1) := by decide +kernel
theorem dX1_keepHeard_2 : decode cX1_keepHeard 2 = .ok (.iload_n 2, 1) := by decide +kernel
theorem dX1_keepHeard_3 : decode cX1_keepHeard 3 = .ok (.ifCond .le 27, 3) := by decide +kernel
theorem dX1_keepHeard_6 : decode cX1_keepHeard 6 = .ok (.aload_n 0, 1) := by decide +kernel
theorem dX1_keepHeard_7 : decode cX1_keepHeard 7 = .ok (.getfield 29, 3) := by decide +kernel
theorem dX1_keepHeard_10 : decode cX1_keepHeard 10 = .ok (.iload_n 2, 1) := by decide +kernel
theorem dX1_keepHeard_11 : decode cX1_keepHeard 11 = .ok (.aload_n 0, 1) := by decide +kernel
theorem dX1_keepHeard_12 : decode cX1_keepHeard 12 = .ok (.getfield 29, 3) := by decide +kernel
theorem dX1_keepHeard_15 : decode cX1_keepHeard 15 = .ok (.iload_n 2, 1) := by decide +kernel
theorem dX1_keepHeard_16 : decode cX1_keepHeard 16 = .ok (.iconst 1, 1) := by decide +kernel
theorem dX1_keepHeard_17 : decode cX1_keepHeard 17 = .ok (.isub, 1) := by decide +kernel
theorem dX1_keepHeard_18 : decode cX1_keepHeard 18 = .ok (.invokestatic 77, 3) := by decide +kernel
theorem dX1_keepHeard_21 : decode cX1_keepHeard 21 = .ok (.invokestatic 88, 3) := by decide +kernel
theorem dX1_keepHeard_24 : decode cX1_keepHeard 24 = .ok (.iinc 2 (-1), 3) := by decide +kernel
theorem dX1_keepHeard_27 : decode cX1_keepHeard 27 = .ok (.goto (-25), 3) := by decide +kernel
theorem dX1_keepHeard_30 : decode cX1_keepHeard 30 = .ok (.aload_n 0, 1) := by decide +kernel
theorem dX1_keepHeard_31 : decode cX1_keepHeard 31 = .ok (.getfield 29, 3) := by decide +kernel
theorem dX1_keepHeard_34 : decode cX1_keepHeard 34 = .ok (.iconst 0, 1) := by decide +kernel
theorem dX1_keepHeard_35 : decode cX1_keepHeard 35 = .ok (.iload_n 1, 1) := by decide +kernel
theorem dX1_keepHeard_36 : decode cX1_keepHeard 36 = .ok (.invokestatic 88, 3) := by decide +kernel
theorem dX1_keepHeard_39 : decode cX1_keepHeard 39 = .ok (.aload_n 0, 1) := by decide +kernel
theorem dX1_keepHeard_40 : decode cX1_keepHeard 40 = .ok (.aload_n 0, 1) := by decide +kernel
theorem dX1_keepHeard_41 : decode cX1_keepHeard 41 = .ok (.getfield 43, 3) := by decide +kernel
theorem dX1_keepHeard_44 : decode cX1_keepHeard 44 = .ok (.iconst 1, 1) := by decide +kernel
theorem dX1_keepHeard_45 : decode cX1_keepHeard 45 = .ok (.iadd, 1) := by decide +kernel
theorem dX1_keepHeard_46 : decode cX1_keepHeard 46 = .ok (.iconst 4, 1) := by decide +kernel
theorem dX1_keepHeard_47 : decode cX1_keepHeard 47 = .ok (.invokestatic 126, 3) := by decide +kernel
theorem dX1_keepHeard_50 : decode cX1_keepHeard 50 = .ok (.putfield 43, 3) := by decide +kernel
theorem dX1_keepHeard_53 : decode cX1_keepHeard 53 = .ok (.return_, 1) := by decide +kernel
set_option maxRecDepth 20000 in
theorem ggX1_readToEnd_X1_passTime : GoodIn wsX1_readToEnd wsX1_passTime := goodIn_r _ [9, 10, 11, 12, 13, 14, 8, 15, 2, 3, 16, 17, 18, 19, 20, 21, 22, 23, 24, 25, 26, 27, 28, 29, 30, 31, 32, 1, 33, 34, 35, 36, 37, 38, 39, 40, 41, 42, 43, 44, 45, 46, 47, 48, 49, 50, 51, 52, 53, 54, 55, 56, 57, 58, 59, 60, 61, 62, 63, 64, 65, 66, 67, 68, 69, 70, 71, 72, 73, 138, 139, 140, 141, 142, 143, 144, 145, 146, 147, 148, 149, 150, 151, 152, 153, 154, 155, 156, 157, 158, 159, 160, 161] (by decide +kernel) (by decide +kernel)
set_option maxRecDepth 20000 in
theorem gX1_readToEnd_X1_passTime : GoodIn wsX1_readToEnd (wsV RX1 152 RX1 yX1_passTime wsX1_passTime) := goodIn_app (goodIn_of _ (by decide +kernel)) ggX1_readToEnd_X1_passTime
set_option maxRecDepth 20000 in
theorem ggX1_readToEnd_X3_at : GoodIn wsX1_readToEnd wsX3_at := goodIn_r _ [25] (by decide +kernel) (by decide +kernel)
set_option maxRecDepth 20000 in
theorem gX1_readToEnd_X3_at_n77 : GoodIn wsX1_readToEnd (wsX3_at) := ggX1_readToEnd_X3_at
set_option maxRecDepth 20000 in
theorem ggX1_readToEnd_X1_listen : GoodIn wsX1_readToEnd wsX1_listen := goodIn_r _ [77, 78, 79, 80, 81, 8, 82, 1, 31, 59, 60, 36, 61, 2, 3, 51, 52, 53, 4, 23, 24, 25, 83, 84, 85, 86, 87, 88, 89, 90, 91, 92, 93, 94, 95, 96, 97, 98, 99, 100, 101, 102, 103, 104, 105, 106, 11, 30, 33, 107, 108, 109, 110, 111, 112, 113, 114, 115, 116, 117, 118, 119, 120, 121, 122, 123, 124, 125, 126, 127, 128, 19, 129, 21, 22, 130, 131, 132, 133, 138, 139, 140, 141, 142, 143, 144, 145, 146, 147, 148, 149, 150, 151, 152, 153, 154, 155, 156, 157, 158, 159, 160, 161, 162, 163, 164] (by decide +kernel) (by decide +kernel)
set_option maxRecDepth 20000 in
theorem gX1_readToEnd_X1_listen : GoodIn wsX1_readToEnd (wsV RX1 155 RX1 yX1_listen wsX1_listen) := goodIn_app (goodIn_of _ (by decide +kernel)) ggX1_readToEnd_X1_listen
set_option maxRecDepth 20000 in
theorem ggX1_readToEnd_X0_nextCue : GoodIn wsX1_readToEnd wsX0_nextCue := goodIn_r _ [20, 21, 22, 23, 24, 25, 153, 154, 155, 156, 157, 158, 159, 160, 161] (by decide +kernel) (by decide +kernel)
set_option maxRecDepth 20000 in
theorem gX1_readToEnd_X0_nextCue : GoodIn wsX1_readToEnd (wsV RX1 158 RX0 yX0_nextCue wsX0_nextCue) := goodIn_app (goodIn_of _ (by decide +kernel)) ggX1_readToEnd_X0_nextCue
set_option maxRecDepth 20000 in
theorem ggX1_readToEnd_X0_freeCue : GoodIn wsX1_readToEnd wsX0_freeCue := goodIn_r _ [137, 22, 120, 24, 121, 153, 154, 155, 156, 157, 158, 159, 160, 161] (by decide +kernel) (by decide +kernel)
set_option maxRecDepth 20000 in
theorem gX1_readToEnd_X0_freeCue : GoodIn wsX1_readToEnd (wsV RX1 161 RX0 yX0_freeCue wsX0_freeCue) := goodIn_app (goodIn_of _ (by decide +kernel)) ggX1_readToEnd_X0_freeCue
theorem dX1_readToEnd_0 : decode cX1_readToEnd 0 = .ok (.aload_n 0, 1) := by decide +kernel
theorem dX1_readToEnd_1 : decode cX1_readToEnd 1 = .ok (.getfield 47, 3) := by decide +kernel
theorem dX1_readToEnd_4 : decode cX1_readToEnd 4 = .ok (.istore_n 2, 1) := by decide +kernel
theorem dX1_readToEnd_5 : decode cX1_readToEnd 5 = .ok (.iload_n 2, 1) := by decide +kernel
theorem dX1_readToEnd_6 : decode cX1_readToEnd 6 = .ok (.istore_n 3, 1) := by decide +kernel
theorem dX1_readToEnd_7 : decode cX1_readToEnd 7 = .ok (.iload_n 3, 1) := by decide +kernel
theorem dX1_readToEnd_8 : decode cX1_readToEnd 8 = .ok (.aload_n 0, 1) := by decide +kernel
theorem dX1_readToEnd_9 : decode cX1_readToEnd 9 = .ok (.getfield 18, 3) := by decide +kernel
theorem dX1_readToEnd_12 : decode cX1_readToEnd 12 = .ok (.getfield 123, 3) := by decide +kernel
theorem dX1_readToEnd_15 : decode cX1_readToEnd 15 = .ok (.if_icmp .ge 50, 3) := by decide +kernel
theorem dX1_readToEnd_18 : decode cX1_readToEnd 18 = .ok (.aload_n 0, 1) := by decide +kernel
theorem dX1_readToEnd_19 : decode cX1_readToEnd 19 = .ok (.iload_n 1, 1) := by decide +kernel
theorem dX1_readToEnd_20 : decode cX1_readToEnd 20 = .ok (.invokevirtual 152, 3) := by decide +kernel
theorem dX1_readToEnd_23 : decode cX1_readToEnd 23 = .ok (.pop, 1) := by decide +kernel
theorem dX1_readToEnd_24 : decode cX1_readToEnd 24 = .ok (.aload_n 0, 1) := by decide +kernel
theorem dX1_readToEnd_25 : decode cX1_readToEnd 25 = .ok (.aload_n 0, 1) := by decide +kernel
theorem dX1_readToEnd_26 : decode cX1_readToEnd 26 = .ok (.getfield 18, 3) := by decide +kernel
theorem dX1_readToEnd_29 : decode cX1_readToEnd 29 = .ok (.getfield 129, 3) := by decide +kernel
theorem dX1_readToEnd_32 : decode cX1_readToEnd 32 = .ok (.iload_n 3, 1) := by decide +kernel
theorem dX1_readToEnd_33 : decode cX1_readToEnd 33 = .ok (.invokestatic 77, 3) := by decide +kernel
theorem dX1_readToEnd_36 : decode cX1_readToEnd 36 = .ok (.invokevirtual 155, 3) := by decide +kernel
theorem dX1_readToEnd_39 : decode cX1_readToEnd 39 = .ok (.pop, 1) := by decide +kernel
theorem dX1_readToEnd_40 : decode cX1_readToEnd 40 = .ok (.aload_n 0, 1) := by decide +kernel
theorem dX1_readToEnd_41 : decode cX1_readToEnd 41 = .ok (.getfield 18, 3) := by decide +kernel
theorem dX1_readToEnd_44 : decode cX1_readToEnd 44 = .ok (.invokevirtual 158, 3) := by decide +kernel
theorem dX1_readToEnd_47 : decode cX1_readToEnd 47 = .ok (.iload_n 3, 1) := by decide +kernel
theorem dX1_readToEnd_48 : decode cX1_readToEnd 48 = .ok (.if_icmp .ne 11, 3) := by decide +kernel
theorem dX1_readToEnd_51 : decode cX1_readToEnd 51 = .ok (.aload_n 0, 1) := by decide +kernel
theorem dX1_readToEnd_52 : decode cX1_readToEnd 52 = .ok (.getfield 18, 3) := by decide +kernel
theorem dX1_readToEnd_55 : decode cX1_readToEnd 55 = .ok (.iload_n 3, 1) := by decide +kernel
theorem dX1_readToEnd_56 : decode cX1_readToEnd 56 = .ok (.invokevirtual 161, 3) := by decide +kernel
theorem dX1_readToEnd_59 : decode cX1_readToEnd 59 = .ok (.iinc 3 1, 3) := by decide +kernel
theorem dX1_readToEnd_62 : decode cX1_readToEnd 62 = .ok (.goto (-55), 3) := by decide +kernel
theorem dX1_readToEnd_65 : decode cX1_readToEnd 65 = .ok (.return_, 1) := by decide +kernel
set_option maxRecDepth 20000 in
theorem ggX1_estimatedWord_X1_holdingWord : GoodIn wsX1_estimatedWord wsX1_holdingWord := goodIn_r _ [5, 6, 7, 8, 9, 10, 11, 12, 13, 14, 15, 16, 17, 35, 36, 37, 38, 39, 40, 41, 42, 43, 44, 45, 46, 47, 48, 49, 50, 51, 52, 53, 54, 55, 56, 57, 58] (by decide +kernel) (by decide +kernel)
set_option maxRecDepth 20000 in
theorem gX1_estimatedWord_X1_holdingWord : GoodIn wsX1_estimatedWord (wsV RX1 164 RX1 yX1_holdingWord wsX1_holdingWord) := goodIn_app (goodIn_of _ (by decide +kernel)) ggX1_estimatedWord_X1_holdingWord
set_option maxRecDepth 20000 in
theorem ggX1_estimatedWord_X1_estimate : GoodIn wsX1_estimatedWord wsX1_estimate := goodIn_r _ [21, 22, 23, 24, 25, 26, 27, 28, 29, 30, 31, 32, 33, 34, 15, 16, 17, 35, 36, 37, 38, 39, 40, 41, 42, 43, 44, 45, 46, 47, 48, 49] (by decide +kernel) (by decide +kernel)
set_option maxRecDepth 20000 in
theorem gX1_estimatedWord_X1_estimate : GoodIn wsX1_estimatedWord (wsV RX1 167 RX1 yX1_estimate wsX1_estimate) := goodIn_app (goodIn_of _ (by decide +kernel)) ggX1_estimatedWord_X1_estimate
theorem dX1_estimatedWord_0 : decode cX1_estimatedWord 0 = .ok (.aload_n 0, 1) := by decide +kernel
theorem dX1_estimatedWord_1 : decode cX1_estimatedWord 1 = .ok (.iconst 0, 1) := by decide +kernel
theorem dX1_estimatedWord_2 : decode cX1_estimatedWord 2 = .ok (.aload_n 0, 1) := by decide +kernel
theorem dX1_estimatedWord_3 : decode cX1_estimatedWord 3 = .ok (.invokevirtual 164, 3) := by decide +kernel
theorem dX1_estimatedWord_6 : decode cX1_estimatedWord 6 = .ok (.invokevirtual 167, 3) := by decide +kernel
theorem dX1_estimatedWord_9 : decode cX1_estimatedWord 9 = .ok (.ireturn, 1) := by decide +kernel
set_option maxRecDepth 20000 in
theorem ggX1_holdingWord_X0_nextCue : GoodIn wsX1_holdingWord wsX0_nextCue := goodIn_r _ [7, 8, 9, 10, 11, 12, 28, 29, 30, 31, 32, 33, 34, 35, 36] (by decide +kernel) (by decide +kernel)
set_option maxRecDepth 20000 in
theorem gX1_holdingWord_X0_nextCue : GoodIn wsX1_holdingWord (wsV RX1 158 RX0 yX0_nextCue wsX0_nextCue) := goodIn_app (goodIn_of _ (by decide +kernel)) ggX1_holdingWord_X0_nextCue
theorem dX1_holdingWord_0 : decode cX1_holdingWord 0 = .ok (.aload_n 0, 1) := by decide +kernel
theorem dX1_holdingWord_1 : decode cX1_holdingWord 1 = .ok (.getfield 18, 3) := by decide +kernel
theorem dX1_holdingWord_4 : decode cX1_holdingWord 4 = .ok (.invokevirtual 158, 3) := by decide +kernel
theorem dX1_holdingWord_7 : decode cX1_holdingWord 7 = .ok (.istore_n 1, 1) := by decide +kernel
theorem dX1_holdingWord_8 : decode cX1_holdingWord 8 = .ok (.iload_n 1, 1) := by decide +kernel
theorem dX1_holdingWord_9 : decode cX1_holdingWord 9 = .ok (.bipush (-9), 2) := by decide +kernel
theorem dX1_holdingWord_11 : decode cX1_holdingWord 11 = .ok (.if_icmp .ne 15, 3) := by decide +kernel
theorem dX1_holdingWord_14 : decode cX1_holdingWord 14 = .ok (.aload_n 0, 1) := by decide +kernel
theorem dX1_holdingWord_15 : decode cX1_holdingWord 15 = .ok (.getfield 18, 3) := by decide +kernel
theorem dX1_holdingWord_18 : decode cX1_holdingWord 18 = .ok (.getfield 123, 3) := by decide +kernel
theorem dX1_holdingWord_21 : decode cX1_holdingWord 21 = .ok (.iconst 1, 1) := by decide +kernel
theorem dX1_holdingWord_22 : decode cX1_holdingWord 22 = .ok (.isub, 1) := by decide +kernel
theorem dX1_holdingWord_23 : decode cX1_holdingWord 23 = .ok (.goto 4, 3) := by decide +kernel
theorem dX1_holdingWord_26 : decode cX1_holdingWord 26 = .ok (.iload_n 1, 1) := by decide +kernel
theorem dX1_holdingWord_27 : decode cX1_holdingWord 27 = .ok (.ireturn, 1) := by decide +kernel
set_option maxRecDepth 20000 in
theorem ggX1_estimate_X3_at : GoodIn wsX1_estimate wsX3_at := goodIn_r _ [16] (by decide +kernel) (by decide +kernel)
set_option maxRecDepth 20000 in
theorem gX1_estimate_X3_at_n77 : GoodIn wsX1_estimate (wsX3_at) := ggX1_estimate_X3_at
theorem dX1_estimate_0 : decode cX1_estimate 0 = .ok (.aload_n 0, 1) := by decide +kernel
theorem dX1_estimate_1 : decode cX1_estimate 1 = .ok (.getfield 53, 3) := by decide +kernel
theorem dX1_estimate_4 : decode cX1_estimate 4 = .ok (.i2l, 1) := by decide +kernel
theorem dX1_estimate_5 : decode cX1_estimate 5 = .ok (.aload_n 0, 1) := by decide +kernel
theorem dX1_estimate_6 : decode cX1_estimate 6 = .ok (.getfield 56, 3) := by decide +kernel
theorem dX1_estimate_9 : decode cX1_estimate 9 = .ok (.i2l, 1) := by decide +kernel
theorem dX1_estimate_10 : decode cX1_estimate 10 = .ok (.lsub, 1) := by decide +kernel
theorem dX1_estimate_11 : decode cX1_estimate 11 = .ok (.iload_n 1, 1) := by decide +kernel
theorem dX1_estimate_12 : decode cX1_estimate 12 = .ok (.i2l, 1) := by decide +kernel
theorem dX1_estimate_13 : decode cX1_estimate 13 = .ok (.ladd, 1) := by decide +kernel
theorem dX1_estimate_14 : decode cX1_estimate 14 = .ok (.aload_n 0, 1) := by decide +kernel
theorem dX1_estimate_15 : decode cX1_estimate 15 = .ok (.getfield 9, 3) := by decide +kernel
theorem dX1_estimate_18 : decode cX1_estimate 18 = .ok (.bipush 8, 2) := by decide +kernel
theorem dX1_estimate_20 : decode cX1_estimate 20 = .ok (.invokestatic 77, 3) := by decide +kernel
theorem dX1_estimate_23 : decode cX1_estimate 23 = .ok (.i2l, 1) := by decide +kernel
theorem dX1_estimate_24 : decode cX1_estimate 24 = .ok (.ladd, 1) := by decide +kernel
theorem dX1_estimate_25 : decode cX1_estimate 25 = .ok (.lstore_n 3, 1) := by decide +kernel
theorem dX1_estimate_26 : decode cX1_estimate 26 = .ok (.ldc2_w 170, 3) := by decide +kernel
theorem dX1_estimate_29 : decode cX1_estimate 29 = .ok (.aload_n 0, 1) := by decide +kernel
theorem dX1_estimate_30 : decode cX1_estimate 30 = .ok (.getfield 47, 3) := by decide +kernel
theorem dX1_estimate_33 : decode cX1_estimate 33 = .ok (.i2l, 1) := by decide +kernel
theorem dX1_estimate_34 : decode cX1_estimate 34 = .ok (.lmul, 1) := by decide +kernel
theorem dX1_estimate_35 : decode cX1_estimate 35 = .ok (.aload_n 0, 1) := by decide +kernel
theorem dX1_estimate_36 : decode cX1_estimate 36 = .ok (.getfield 50, 3) := by decide +kernel
theorem dX1_estimate_39 : decode cX1_estimate 39 = .ok (.i2l, 1) := by decide +kernel
theorem dX1_estimate_40 : decode cX1_estimate 40 = .ok (.lload_n 3, 1) := by decide +kernel
theorem dX1_estimate_41 : decode cX1_estimate 41 = .ok (.lmul, 1) := by decide +kernel
theorem dX1_estimate_42 : decode cX1_estimate 42 = .ok (.ladd, 1) := by decide +kernel
theorem dX1_estimate_43 : decode cX1_estimate 43 = .ok (.ldc2_w 170, 3) := by decide +kernel
theorem dX1_estimate_46 : decode cX1_estimate 46 = .ok (.ldiv, 1) := by decide +kernel
theorem dX1_estimate_47 : decode cX1_estimate 47 = .ok (.lstore 5, 2) := by decide +kernel
theorem dX1_estimate_49 : decode cX1_estimate 49 = .ok (.lconst 0, 1) := by decide +kernel
theorem dX1_estimate_50 : decode cX1_estimate 50 = .ok (.lload 5, 2) := by decide +kernel
theorem dX1_estimate_52 : decode cX1_estimate 52 = .ok (.iload_n 2, 1) := by decide +kernel
theorem dX1_estimate_53 : decode cX1_estimate 53 = .ok (.i2l, 1) := by decide +kernel
theorem dX1_estimate_54 : decode cX1_estimate 54 = .ok (.invokestatic 172, 3) := by decide +kernel
theorem dX1_estimate_57 : decode cX1_estimate 57 = .ok (.invokestatic 175, 3) := by decide +kernel
theorem dX1_estimate_60 : decode cX1_estimate 60 = .ok (.l2i, 1) := by decide +kernel
theorem dX1_estimate_61 : decode cX1_estimate 61 = .ok (.ireturn, 1) := by decide +kernel
set_option maxRecDepth 20000 in
theorem ggX1_ticksTo_X1_holdingWord : GoodIn wsX1_ticksTo wsX1_holdingWord := goodIn_r _ [5, 6, 7, 8, 9, 10, 11, 12, 13, 14, 15, 16, 17, 35, 36, 37, 38, 39, 40, 41, 42, 43, 44, 45, 46, 47, 48, 49, 50, 51, 52, 53, 54, 55, 56, 57, 58] (by decide +kernel) (by decide +kernel)
set_option maxRecDepth 20000 in
theorem gX1_ticksTo_X1_holdingWord : GoodIn wsX1_ticksTo (wsV RX1 164 RX1 yX1_holdingWord wsX1_holdingWord) := goodIn_app (goodIn_of _ (by decide +kernel)) ggX1_ticksTo_X1_holdingWord
set_option maxRecDepth 20000 in
theorem ggX1_ticksTo_X1_estimate : GoodIn wsX1_ticksTo wsX1_estimate := goodIn_r _ [21, 22, 23, 24, 25, 26, 27, 28, 29, 30, 31, 32, 33, 34, 15, 16, 17, 35, 36, 37, 38, 39, 40, 41, 42, 43, 44, 45, 46, 47, 48, 49] (by decide +kernel) (by decide +kernel)
set_option maxRecDepth 20000 in
theorem gX1_ticksTo_X1_estimate : GoodIn wsX1_ticksTo (wsV RX1 167 RX1 yX1_estimate wsX1_estimate) := goodIn_app (goodIn_of _ (by decide +kernel)) ggX1_ticksTo_X1_estimate
end
section
theorem dX1_ticksTo_0 : decode cX1_ticksTo 0 = .ok (.aload_n 0, 1) := by decide +kernel
theorem dX1_ticksTo_1 : decode cX1_ticksTo 1 = .ok (.invokevirtual 164, 3) := by decide +kernel
theorem dX1_ticksTo_4 : decode cX1_ticksTo 4 = .ok (.istore_n 2, 1) := by decide +kernel
theorem dX1_ticksTo_5 : decode cX1_ticksTo 5 = .ok (.iconst 0, 1) := by decide +kernel
theorem dX1_ticksTo_6 : decode cX1_ticksTo 6 = .ok (.istore_n 3, 1) := by decide +kernel
theorem dX1_ticksTo_7 : decode cX1_ticksTo 7 = .ok (.iload_n 3, 1) := by decide +kernel
theorem dX1_ticksTo_8 : decode cX1_ticksTo 8 = .ok (.sipush 500, 3) := by decide +kernel
theorem dX1_ticksTo_11 : decode cX1_ticksTo 11 = .ok (.if_icmp .gt 21, 3) := by decide +kernel
theorem dX1_ticksTo_14 : decode cX1_ticksTo 14 = .ok (.aload_n 0, 1) := by decide +kernel
theorem dX1_ticksTo_15 : decode cX1_ticksTo 15 = .ok (.iload_n 3, 1) := by decide +kernel
theorem dX1_ticksTo_16 : decode cX1_ticksTo 16 = .ok (.iload_n 2, 1) := by decide +kernel
theorem dX1_ticksTo_17 : decode cX1_ticksTo 17 = .ok (.invokevirtual 167, 3) := by decide +kernel
theorem dX1_ticksTo_20 : decode cX1_ticksTo 20 = .ok (.iload_n 1, 1) := by decide +kernel
theorem dX1_ticksTo_21 : decode cX1_ticksTo 21 = .ok (.if_icmp .lt 5, 3) := by decide +kernel
theorem dX1_ticksTo_24 : decode cX1_ticksTo 24 = .ok (.iload_n 3, 1) := by decide +kernel
theorem dX1_ticksTo_25 : decode cX1_ticksTo 25 = .ok (.ireturn, 1) := by decide +kernel
theorem dX1_ticksTo_26 : decode cX1_ticksTo 26 = .ok (.iinc 3 1, 3) := by decide +kernel
theorem dX1_ticksTo_29 : decode cX1_ticksTo 29 = .ok (.goto (-22), 3) := by decide +kernel
theorem dX1_ticksTo_32 : decode cX1_ticksTo 32 = .ok (.bipush (-9), 2) := by decide +kernel
theorem dX1_ticksTo_34 : decode cX1_ticksTo 34 = .ok (.ireturn, 1) := by decide +kernel
set_option maxRecDepth 20000 in
theorem ggX1_highestTop_X3_at : GoodIn wsX1_highestTop wsX3_at := goodIn_r _ [10] (by decide +kernel) (by decide +kernel)
set_option maxRecDepth 20000 in
theorem gX1_highestTop_X3_at_n77 : GoodIn wsX1_highestTop (wsX3_at) := ggX1_highestTop_X3_at
theorem dX1_highestTop_0 : decode cX1_highestTop 0 = .ok (.iconst 0, 1) := by decide +kernel
theorem dX1_highestTop_1 : decode cX1_highestTop 1 = .ok (.bipush 100, 2) := by decide +kernel
theorem dX1_highestTop_3 : decode cX1_highestTop 3 = .ok (.aload_n 0, 1) := by decide +kernel
theorem dX1_highestTop_4 : decode cX1_highestTop 4 = .ok (.getfield 18, 3) := by decide +kernel
theorem dX1_highestTop_7 : decode cX1_highestTop 7 = .ok (.getfield 177, 3) := by decide +kernel
theorem dX1_highestTop_10 : decode cX1_highestTop 10 = .ok (.aload_n 0, 1) := by decide +kernel
theorem dX1_highestTop_11 : decode cX1_highestTop 11 = .ok (.getfield 9, 3) := by decide +kernel
theorem dX1_highestTop_14 : decode cX1_highestTop 14 = .ok (.iconst 1, 1) := by decide +kernel
theorem dX1_highestTop_15 : decode cX1_highestTop 15 = .ok (.invokestatic 77, 3) := by decide +kernel
theorem dX1_highestTop_18 : decode cX1_highestTop 18 = .ok (.isub, 1) := by decide +kernel
theorem dX1_highestTop_19 : decode cX1_highestTop 19 = .ok (.imul, 1) := by decide +kernel
theorem dX1_highestTop_20 : decode cX1_highestTop 20 = .ok (.invokestatic 117, 3) := by decide +kernel
theorem dX1_highestTop_23 : decode cX1_highestTop 23 = .ok (.ireturn, 1) := by decide +kernel
set_option maxRecDepth 20000 in
theorem ggX1_desiredTop_X3_at : GoodIn wsX1_desiredTop wsX3_at := goodIn_r _ [10] (by decide +kernel) (by decide +kernel)
set_option maxRecDepth 20000 in
theorem gX1_desiredTop_X3_at_n77 : GoodIn wsX1_desiredTop (wsX3_at) := ggX1_desiredTop_X3_at
set_option maxRecDepth 20000 in
theorem ggX1_desiredTop_X1_highestTop : GoodIn wsX1_desiredTop wsX1_highestTop := goodIn_r _ [15, 6, 16, 1, 17, 18, 4, 19, 8, 9, 10, 24, 25, 26, 27, 28, 29, 30, 31, 32, 33, 34, 35, 36, 37, 38, 39, 40, 41, 42, 43, 44, 45, 46, 47] (by decide +kernel) (by decide +kernel)
set_option maxRecDepth 20000 in
theorem gX1_desiredTop_X1_highestTop : GoodIn wsX1_desiredTop (wsV RX1 92 RX1 yX1_highestTop wsX1_highestTop) := goodIn_app (goodIn_of _ (by decide +kernel)) ggX1_desiredTop_X1_highestTop
set_option maxRecDepth 20000 in
theorem ggX1_desiredTop_X3_limited : GoodIn wsX1_desiredTop wsX3_limited := goodIn_r _ [21, 22, 3, 4, 5, 23, 18, 19] (by decide +kernel) (by decide +kernel)
set_option maxRecDepth 20000 in
theorem gX1_desiredTop_X3_limited_n96 : GoodIn wsX1_desiredTop (wsX3_limited) := ggX1_desiredTop_X3_limited
theorem dX1_desiredTop_0 : decode cX1_desiredTop 0 = .ok (.aload_n 0, 1) := by decide +kernel
theorem dX1_desiredTop_1 : decode cX1_desiredTop 1 = .ok (.getfield 9, 3) := by decide +kernel
theorem dX1_desiredTop_4 : decode cX1_desiredTop 4 = .ok (.iconst 2, 1) := by decide +kernel
theorem dX1_desiredTop_5 : decode cX1_desiredTop 5 = .ok (.invokestatic 77, 3) := by decide +kernel
theorem dX1_desiredTop_8 : decode cX1_desiredTop 8 = .ok (.aload_n 0, 1) := by decide +kernel
theorem dX1_desiredTop_9 : decode cX1_desiredTop 9 = .ok (.getfield 9, 3) := by decide +kernel
theorem dX1_desiredTop_12 : decode cX1_desiredTop 12 = .ok (.iconst 1, 1) := by decide +kernel
theorem dX1_desiredTop_13 : decode cX1_desiredTop 13 = .ok (.invokestatic 77, 3) := by decide +kernel
theorem dX1_desiredTop_16 : decode cX1_desiredTop 16 = .ok (.iconst 1, 1) := by decide +kernel
theorem dX1_desiredTop_17 : decode cX1_desiredTop 17 = .ok (.isub, 1) := by decide +kernel
theorem dX1_desiredTop_18 : decode cX1_desiredTop 18 = .ok (.invokestatic 126, 3) := by decide +kernel
theorem dX1_desiredTop_21 : decode cX1_desiredTop 21 = .ok (.istore_n 2, 1) := by decide +kernel
theorem dX1_desiredTop_22 : decode cX1_desiredTop 22 = .ok (.bipush 100, 2) := by decide +kernel
theorem dX1_desiredTop_24 : decode cX1_desiredTop 24 = .ok (.aload_n 0, 1) := by decide +kernel
theorem dX1_desiredTop_25 : decode cX1_desiredTop 25 = .ok (.getfield 18, 3) := by decide +kernel
theorem dX1_desiredTop_28 : decode cX1_desiredTop 28 = .ok (.getfield 180, 3) := by decide +kernel
theorem dX1_desiredTop_31 : decode cX1_desiredTop 31 = .ok (.iload_n 1, 1) := by decide +kernel
theorem dX1_desiredTop_32 : decode cX1_desiredTop 32 = .ok (.invokestatic 77, 3) := by decide +kernel
theorem dX1_desiredTop_35 : decode cX1_desiredTop 35 = .ok (.iload_n 2, 1) := by decide +kernel
theorem dX1_desiredTop_36 : decode cX1_desiredTop 36 = .ok (.isub, 1) := by decide +kernel
theorem dX1_desiredTop_37 : decode cX1_desiredTop 37 = .ok (.imul, 1) := by decide +kernel
theorem dX1_desiredTop_38 : decode cX1_desiredTop 38 = .ok (.iconst 0, 1) := by decide +kernel
theorem dX1_desiredTop_39 : decode cX1_desiredTop 39 = .ok (.aload_n 0, 1) := by decide +kernel
theorem dX1_desiredTop_40 : decode cX1_desiredTop 40 = .ok (.invokevirtual 92, 3) := by decide +kernel
theorem dX1_desiredTop_43 : decode cX1_desiredTop 43 = .ok (.invokestatic 96, 3) := by decide +kernel
theorem dX1_desiredTop_46 : decode cX1_desiredTop 46 = .ok (.ireturn, 1) := by decide +kernel
set_option maxRecDepth 20000 in
theorem ggX1_shows_X1_lowestShown : GoodIn wsX1_shows wsX1_lowestShown := goodIn_r _ [6, 7, 8, 9, 10, 11, 12, 13, 14, 15, 16, 17, 18, 19, 20, 21, 22, 23, 24, 25] (by decide +kernel) (by decide +kernel)
set_option maxRecDepth 20000 in
theorem gX1_shows_X1_lowestShown : GoodIn wsX1_shows (wsV RX1 183 RX1 yX1_lowestShown wsX1_lowestShown) := goodIn_app (goodIn_of _ (by decide +kernel)) ggX1_shows_X1_lowestShown
theorem dX1_shows_0 : decode cX1_shows 0 = .ok (.bipush 100, 2) := by decide +kernel
theorem dX1_shows_2 : decode cX1_shows 2 = .ok (.iload_n 1, 1) := by decide +kernel
theorem dX1_shows_3 : decode cX1_shows 3 = .ok (.imul, 1) := by decide +kernel
theorem dX1_shows_4 : decode cX1_shows 4 = .ok (.aload_n 0, 1) := by decide +kernel
theorem dX1_shows_5 : decode cX1_shows 5 = .ok (.getfield 59, 3) := by decide +kernel
theorem dX1_shows_8 : decode cX1_shows 8 = .ok (.if_icmp .lt 23, 3) := by decide +kernel
theorem dX1_shows_11 : decode cX1_shows 11 = .ok (.bipush 100, 2) := by decide +kernel
theorem dX1_shows_13 : decode cX1_shows 13 = .ok (.iload_n 1, 1) := by decide +kernel
theorem dX1_shows_14 : decode cX1_shows 14 = .ok (.imul, 1) := by decide +kernel
theorem dX1_shows_15 : decode cX1_shows 15 = .ok (.aload_n 0, 1) := by decide +kernel
theorem dX1_shows_16 : decode cX1_shows 16 = .ok (.getfield 59, 3) := by decide +kernel
theorem dX1_shows_19 : decode cX1_shows 19 = .ok (.aload_n 0, 1) := by decide +kernel
theorem dX1_shows_20 : decode cX1_shows 20 = .ok (.invokevirtual 183, 3) := by decide +kernel
theorem dX1_shows_23 : decode cX1_shows 23 = .ok (.iadd, 1) := by decide +kernel
theorem dX1_shows_24 : decode cX1_shows 24 = .ok (.if_icmp .gt 7, 3) := by decide +kernel
theorem dX1_shows_27 : decode cX1_shows 27 = .ok (.iconst 1, 1) := by decide +kernel
theorem dX1_shows_28 : decode cX1_shows 28 = .ok (.goto 4, 3) := by decide +kernel
theorem dX1_shows_31 : decode cX1_shows 31 = .ok (.iconst 0, 1) := by decide +kernel
theorem dX1_shows_32 : decode cX1_shows 32 = .ok (.ireturn, 1) := by decide +kernel
set_option maxRecDepth 20000 in
theorem ggX1_lowestShown_X3_at : GoodIn wsX1_lowestShown wsX3_at := goodIn_r _ [4] (by decide +kernel) (by decide +kernel)
set_option maxRecDepth 20000 in
theorem gX1_lowestShown_X3_at_n77 : GoodIn wsX1_lowestShown (wsX3_at) := ggX1_lowestShown_X3_at
theorem dX1_lowestShown_0 : decode cX1_lowestShown 0 = .ok (.bipush 100, 2) := by decide +kernel
theorem dX1_lowestShown_2 : decode cX1_lowestShown 2 = .ok (.aload_n 0, 1) := by decide +kernel
theorem dX1_lowestShown_3 : decode cX1_lowestShown 3 = .ok (.getfield 9, 3) := by decide +kernel
theorem dX1_lowestShown_6 : decode cX1_lowestShown 6 = .ok (.iconst 1, 1) := by decide +kernel
theorem dX1_lowestShown_7 : decode cX1_lowestShown 7 = .ok (.invokestatic 77, 3) := by decide +kernel
theorem dX1_lowestShown_10 : decode cX1_lowestShown 10 = .ok (.iconst 1, 1) := by decide +kernel
theorem dX1_lowestShown_11 : decode cX1_lowestShown 11 = .ok (.isub, 1) := by decide +kernel
theorem dX1_lowestShown_12 : decode cX1_lowestShown 12 = .ok (.imul, 1) := by decide +kernel
theorem dX1_lowestShown_13 : decode cX1_lowestShown 13 = .ok (.ireturn, 1) := by decide +kernel
set_option maxRecDepth 20000 in
theorem ggX1_passTime_X1_holdingWord : GoodIn wsX1_passTime wsX1_holdingWord := goodIn_r _ [7, 8, 9, 10, 11, 12, 13, 14, 15, 16, 17, 18, 19, 69, 70, 71, 72, 73, 74, 75, 76, 77, 78, 79, 80, 81, 82, 83, 84, 85, 86, 87, 88, 89, 90, 91, 92] (by decide +kernel) (by decide +kernel)
set_option maxRecDepth 20000 in
theorem gX1_passTime_X1_holdingWord : GoodIn wsX1_passTime (wsV RX1 164 RX1 yX1_holdingWord wsX1_holdingWord) := goodIn_app (goodIn_of _ (by decide +kernel)) ggX1_passTime_X1_holdingWord
set_option maxRecDepth 20000 in
theorem ggX1_passTime_X1_estimate : GoodIn wsX1_passTime wsX1_estimate := goodIn_r _ [23, 2, 24, 25, 26, 27, 28, 29, 30, 31, 32, 33, 34, 35, 17, 18, 19, 69, 70, 71, 72, 73, 74, 75, 76, 77, 78, 79, 80, 81, 82, 83] (by decide +kernel) (by decide +kernel)
set_option maxRecDepth 20000 in
theorem gX1_passTime_X1_estimate : GoodIn wsX1_passTime (wsV RX1 167 RX1 yX1_estimate wsX1_estimate) := goodIn_app (goodIn_of _ (by decide +kernel)) ggX1_passTime_X1_estimate
set_option maxRecDepth 20000 in
theorem ggX1_passTime_X1_scrollTo : GoodIn wsX1_passTime wsX1_scrollTo := goodIn_r _ [39, 25, 40, 8, 41, 1, 17, 18, 19, 42, 43, 44, 6, 45, 46, 47, 31, 48, 49, 50, 51, 52, 53, 54, 55, 56, 57, 58, 59, 60, 61, 62, 63, 64, 65, 66, 67, 68, 69, 70, 71, 72, 73, 74, 75, 76, 77, 78, 79, 80, 81, 82, 83, 84, 85, 86, 87, 88, 89, 90, 91, 92] (by decide +kernel) (by decide +kernel)
set_option maxRecDepth 20000 in
theorem gX1_passTime_X1_scrollTo : GoodIn wsX1_passTime (wsV RX1 186 RX1 yX1_scrollTo wsX1_scrollTo) := goodIn_app (goodIn_of _ (by decide +kernel)) ggX1_passTime_X1_scrollTo
theorem dX1_passTime_0 : decode cX1_passTime 0 = .ok (.aload_n 0, 1) := by decide +kernel
theorem dX1_passTime_1 : decode cX1_passTime 1 = .ok (.getfield 71, 3) := by decide +kernel
theorem dX1_passTime_4 : decode cX1_passTime 4 = .ok (.istore_n 2, 1) := by decide +kernel
theorem dX1_passTime_5 : decode cX1_passTime 5 = .ok (.aload_n 0, 1) := by decide +kernel
theorem dX1_passTime_6 : decode cX1_passTime 6 = .ok (.invokevirtual 164, 3) := by decide +kernel
theorem dX1_passTime_9 : decode cX1_passTime 9 = .ok (.istore_n 3, 1) := by decide +kernel
theorem dX1_passTime_10 : decode cX1_passTime 10 = .ok (.iconst 0, 1) := by decide +kernel
theorem dX1_passTime_11 : decode cX1_passTime 11 = .ok (.istore 4, 2) := by decide +kernel
theorem dX1_passTime_13 : decode cX1_passTime 13 = .ok (.iload 4, 2) := by decide +kernel
theorem dX1_passTime_15 : decode cX1_passTime 15 = .ok (.iload_n 1, 1) := by decide +kernel
theorem dX1_passTime_16 : decode cX1_passTime 16 = .ok (.if_icmp .ge 29, 3) := by decide +kernel
theorem dX1_passTime_19 : decode cX1_passTime 19 = .ok (.aload_n 0, 1) := by decide +kernel
theorem dX1_passTime_20 : decode cX1_passTime 20 = .ok (.dup, 1) := by decide +kernel
theorem dX1_passTime_21 : decode cX1_passTime 21 = .ok (.getfield 53, 3) := by decide +kernel
theorem dX1_passTime_24 : decode cX1_passTime 24 = .ok (.iconst 1, 1) := by decide +kernel
theorem dX1_passTime_25 : decode cX1_passTime 25 = .ok (.iadd, 1) := by decide +kernel
theorem dX1_passTime_26 : decode cX1_passTime 26 = .ok (.putfield 53, 3) := by decide +kernel
theorem dX1_passTime_29 : decode cX1_passTime 29 = .ok (.aload_n 0, 1) := by decide +kernel
theorem dX1_passTime_30 : decode cX1_passTime 30 = .ok (.aload_n 0, 1) := by decide +kernel
theorem dX1_passTime_31 : decode cX1_passTime 31 = .ok (.iconst 0, 1) := by decide +kernel
theorem dX1_passTime_32 : decode cX1_passTime 32 = .ok (.iload_n 3, 1) := by decide +kernel
theorem dX1_passTime_33 : decode cX1_passTime 33 = .ok (.invokevirtual 167, 3) := by decide +kernel
theorem dX1_passTime_36 : decode cX1_passTime 36 = .ok (.invokevirtual 186, 3) := by decide +kernel
theorem dX1_passTime_39 : decode cX1_passTime 39 = .ok (.iinc 4 1, 3) := by decide +kernel
theorem dX1_passTime_42 : decode cX1_passTime 42 = .ok (.goto (-29), 3) := by decide +kernel
theorem dX1_passTime_45 : decode cX1_passTime 45 = .ok (.aload_n 0, 1) := by decide +kernel
theorem dX1_passTime_46 : decode cX1_passTime 46 = .ok (.getfield 71, 3) := by decide +kernel
theorem dX1_passTime_49 : decode cX1_passTime 49 = .ok (.iload_n 2, 1) := by decide +kernel
theorem dX1_passTime_50 : decode cX1_passTime 50 = .ok (.isub, 1) := by decide +kernel
theorem dX1_passTime_51 : decode cX1_passTime 51 = .ok (.ireturn, 1) := by decide +kernel
set_option maxRecDepth 20000 in
theorem ggX1_scrollTo_X3_at : GoodIn wsX1_scrollTo wsX3_at := goodIn_r _ [8] (by decide +kernel) (by decide +kernel)
set_option maxRecDepth 20000 in
theorem gX1_scrollTo_X3_at_n77 : GoodIn wsX1_scrollTo (wsX3_at) := ggX1_scrollTo_X3_at
set_option maxRecDepth 20000 in
theorem ggX1_scrollTo_X1_desiredTop : GoodIn wsX1_scrollTo wsX1_desiredTop := goodIn_r _ [13, 1, 14, 15, 16, 17, 3, 4, 6, 7, 8, 18, 19, 20, 12, 21, 22, 23, 24, 25, 26, 27, 28, 29, 38, 39, 40, 41, 42, 43, 44, 45, 46, 47, 48, 49, 50, 51, 52, 53, 54, 55, 56, 57, 58, 59, 60, 61] (by decide +kernel) (by decide +kernel)
set_option maxRecDepth 20000 in
theorem gX1_scrollTo_X1_desiredTop : GoodIn wsX1_scrollTo (wsV RX1 189 RX1 yX1_desiredTop wsX1_desiredTop) := goodIn_app (goodIn_of _ (by decide +kernel)) ggX1_scrollTo_X1_desiredTop
set_option maxRecDepth 20000 in
theorem ggX1_scrollTo_X3_limited : GoodIn wsX1_scrollTo wsX3_limited := goodIn_r _ [27, 28, 15, 16, 17, 29, 24, 25] (by decide +kernel) (by decide +kernel)
set_option maxRecDepth 20000 in
theorem gX1_scrollTo_X3_limited_n96 : GoodIn wsX1_scrollTo (wsX3_limited) := ggX1_scrollTo_X3_limited
set_option maxRecDepth 20000 in
theorem ggX1_scrollTo_X1_shows : GoodIn wsX1_scrollTo wsX1_shows := goodIn_r _ [33, 2, 34, 35, 36, 12, 37, 1, 6, 7, 8, 38, 39, 40, 41, 42, 43, 44, 45, 46, 47, 48, 49, 50, 51, 52] (by decide +kernel) (by decide +kernel)
set_option maxRecDepth 20000 in
theorem gX1_scrollTo_X1_shows : GoodIn wsX1_scrollTo (wsV RX1 192 RX1 yX1_shows wsX1_shows) := goodIn_app (goodIn_of _ (by decide +kernel)) ggX1_scrollTo_X1_shows
set_option maxRecDepth 20000 in
theorem ggX1_scrollTo_X1_lowestShown : GoodIn wsX1_scrollTo wsX1_lowestShown := goodIn_r _ [37, 1, 6, 7, 8, 38, 39, 40, 41, 42, 43, 44, 45, 46, 47, 48, 49, 50, 51, 52] (by decide +kernel) (by decide +kernel)
set_option maxRecDepth 20000 in
theorem gX1_scrollTo_X1_lowestShown : GoodIn wsX1_scrollTo (wsV RX1 183 RX1 yX1_lowestShown wsX1_lowestShown) := goodIn_app (goodIn_of _ (by decide +kernel)) ggX1_scrollTo_X1_lowestShown
theorem dX1_scrollTo_0 : decode cX1_scrollTo 0 = .ok (.aload_n 0, 1) := by decide +kernel
theorem dX1_scrollTo_1 : decode cX1_scrollTo 1 = .ok (.getfield 9, 3) := by decide +kernel
theorem dX1_scrollTo_4 : decode cX1_scrollTo 4 = .ok (.bipush 7, 2) := by decide +kernel
theorem dX1_scrollTo_6 : decode cX1_scrollTo 6 = .ok (.invokestatic 77, 3) := by decide +kernel
theorem dX1_scrollTo_9 : decode cX1_scrollTo 9 = .ok (.istore_n 2, 1) := by decide +kernel
theorem dX1_scrollTo_10 : decode cX1_scrollTo 10 = .ok (.aload_n 0, 1) := by decide +kernel
theorem dX1_scrollTo_11 : decode cX1_scrollTo 11 = .ok (.dup, 1) := by decide +kernel
theorem dX1_scrollTo_12 : decode cX1_scrollTo 12 = .ok (.getfield 59, 3) := by decide +kernel
theorem dX1_scrollTo_15 : decode cX1_scrollTo 15 = .ok (.aload_n 0, 1) := by decide +kernel
theorem dX1_scrollTo_16 : decode cX1_scrollTo 16 = .ok (.iload_n 1, 1) := by decide +kernel
theorem dX1_scrollTo_17 : decode cX1_scrollTo 17 = .ok (.invokevirtual 189, 3) := by decide +kernel
theorem dX1_scrollTo_20 : decode cX1_scrollTo 20 = .ok (.aload_n 0, 1) := by decide +kernel
theorem dX1_scrollTo_21 : decode cX1_scrollTo 21 = .ok (.getfield 59, 3) := by decide +kernel
theorem dX1_scrollTo_24 : decode cX1_scrollTo 24 = .ok (.isub, 1) := by decide +kernel
theorem dX1_scrollTo_25 : decode cX1_scrollTo 25 = .ok (.iload_n 2, 1) := by decide +kernel
theorem dX1_scrollTo_26 : decode cX1_scrollTo 26 = .ok (.ineg, 1) := by decide +kernel
theorem dX1_scrollTo_27 : decode cX1_scrollTo 27 = .ok (.iload_n 2, 1) := by decide +kernel
theorem dX1_scrollTo_28 : decode cX1_scrollTo 28 = .ok (.invokestatic 96, 3) := by decide +kernel
theorem dX1_scrollTo_31 : decode cX1_scrollTo 31 = .ok (.iadd, 1) := by decide +kernel
theorem dX1_scrollTo_32 : decode cX1_scrollTo 32 = .ok (.putfield 59, 3) := by decide +kernel
theorem dX1_scrollTo_35 : decode cX1_scrollTo 35 = .ok (.aload_n 0, 1) := by decide +kernel
theorem dX1_scrollTo_36 : decode cX1_scrollTo 36 = .ok (.getfield 18, 3) := by decide +kernel
theorem dX1_scrollTo_39 : decode cX1_scrollTo 39 = .ok (.getfield 180, 3) := by decide +kernel
theorem dX1_scrollTo_42 : decode cX1_scrollTo 42 = .ok (.iload_n 1, 1) := by decide +kernel
theorem dX1_scrollTo_43 : decode cX1_scrollTo 43 = .ok (.invokestatic 77, 3) := by decide +kernel
theorem dX1_scrollTo_46 : decode cX1_scrollTo 46 = .ok (.istore_n 3, 1) := by decide +kernel
theorem dX1_scrollTo_47 : decode cX1_scrollTo 47 = .ok (.aload_n 0, 1) := by decide +kernel
theorem dX1_scrollTo_48 : decode cX1_scrollTo 48 = .ok (.iload_n 3, 1) := by decide +kernel
theorem dX1_scrollTo_49 : decode cX1_scrollTo 49 = .ok (.invokevirtual 192, 3) := by decide +kernel
theorem dX1_scrollTo_52 : decode cX1_scrollTo 52 = .ok (.ifCond .ne 37, 3) := by decide +kernel
theorem dX1_scrollTo_55 : decode cX1_scrollTo 55 = .ok (.aload_n 0, 1) := by decide +kernel
theorem dX1_scrollTo_56 : decode cX1_scrollTo 56 = .ok (.aload_n 0, 1) := by decide +kernel
theorem dX1_scrollTo_57 : decode cX1_scrollTo 57 = .ok (.getfield 59, 3) := by decide +kernel
theorem dX1_scrollTo_60 : decode cX1_scrollTo 60 = .ok (.bipush 100, 2) := by decide +kernel
theorem dX1_scrollTo_62 : decode cX1_scrollTo 62 = .ok (.iload_n 3, 1) := by decide +kernel
theorem dX1_scrollTo_63 : decode cX1_scrollTo 63 = .ok (.imul, 1) := by decide +kernel
theorem dX1_scrollTo_64 : decode cX1_scrollTo 64 = .ok (.aload_n 0, 1) := by decide +kernel
theorem dX1_scrollTo_65 : decode cX1_scrollTo 65 = .ok (.invokevirtual 183, 3) := by decide +kernel
theorem dX1_scrollTo_68 : decode cX1_scrollTo 68 = .ok (.isub, 1) := by decide +kernel
theorem dX1_scrollTo_69 : decode cX1_scrollTo 69 = .ok (.bipush 100, 2) := by decide +kernel
theorem dX1_scrollTo_71 : decode cX1_scrollTo 71 = .ok (.iload_n 3, 1) := by decide +kernel
theorem dX1_scrollTo_72 : decode cX1_scrollTo 72 = .ok (.imul, 1) := by decide +kernel
theorem dX1_scrollTo_73 : decode cX1_scrollTo 73 = .ok (.invokestatic 96, 3) := by decide +kernel
theorem dX1_scrollTo_76 : decode cX1_scrollTo 76 = .ok (.putfield 59, 3) := by decide +kernel
theorem dX1_scrollTo_79 : decode cX1_scrollTo 79 = .ok (.aload_n 0, 1) := by decide +kernel
theorem dX1_scrollTo_80 : decode cX1_scrollTo 80 = .ok (.dup, 1) := by decide +kernel
theorem dX1_scrollTo_81 : decode cX1_scrollTo 81 = .ok (.getfield 71, 3) := by decide +kernel
theorem dX1_scrollTo_84 : decode cX1_scrollTo 84 = .ok (.iconst 1, 1) := by decide +kernel
theorem dX1_scrollTo_85 : decode cX1_scrollTo 85 = .ok (.iadd, 1) := by decide +kernel
theorem dX1_scrollTo_86 : decode cX1_scrollTo 86 = .ok (.putfield 71, 3) := by decide +kernel
theorem dX1_scrollTo_89 : decode cX1_scrollTo 89 = .ok (.return_, 1) := by decide +kernel
theorem dX2_init_0 : decode cX2_init 0 = .ok (.aload_n 0, 1) := by decide +kernel
theorem dX2_init_1 : decode cX2_init 1 = .ok (.invokespecial 3, 3) := by decide +kernel
theorem dX2_init_4 : decode cX2_init 4 = .ok (.aload_n 0, 1) := by decide +kernel
theorem dX2_init_5 : decode cX2_init 5 = .ok (.bipush 61, 2) := by decide +kernel
theorem dX2_init_7 : decode cX2_init 7 = .ok (.newarray .int, 2) := by decide +kernel
theorem dX2_init_9 : decode cX2_init 9 = .ok (.putfield 9, 3) := by decide +kernel
theorem dX2_init_12 : decode cX2_init 12 = .ok (.aload_n 0, 1) := by decide +kernel
theorem dX2_init_13 : decode cX2_init 13 = .ok (.bipush 61, 2) := by decide +kernel
theorem dX2_init_15 : decode cX2_init 15 = .ok (.newarray .int, 2) := by decide +kernel
theorem dX2_init_17 : decode cX2_init 17 = .ok (.putfield 15, 3) := by decide +kernel
theorem dX2_init_20 : decode cX2_init 20 = .ok (.return_, 1) := by decide +kernel
set_option maxRecDepth 20000 in
theorem ggX2_become_X3_copyRow : GoodIn wsX2_become wsX3_copyRow := goodIn_r _ [6, 7, 8, 9, 10, 11, 12, 13, 14] (by decide +kernel) (by decide +kernel)
set_option maxRecDepth 20000 in
theorem gX2_become_X3_copyRow_n22 : GoodIn wsX2_become (wsX3_copyRow) := ggX2_become_X3_copyRow
theorem dX2_become_0 : decode cX2_become 0 = .ok (.aload_n 0, 1) := by decide +kernel
theorem dX2_become_1 : decode cX2_become 1 = .ok (.aload_n 1, 1) := by decide +kernel
theorem dX2_become_2 : decode cX2_become 2 = .ok (.getfield 18, 3) := by decide +kernel
theorem dX2_become_5 : decode cX2_become 5 = .ok (.putfield 18, 3) := by decide +kernel
theorem dX2_become_8 : decode cX2_become 8 = .ok (.aload_n 1, 1) := by decide +kernel
theorem dX2_become_9 : decode cX2_become 9 = .ok (.getfield 9, 3) := by decide +kernel
theorem dX2_become_12 : decode cX2_become 12 = .ok (.aload_n 0, 1) := by decide +kernel
theorem dX2_become_13 : decode cX2_become 13 = .ok (.getfield 9, 3) := by decide +kernel
theorem dX2_become_16 : decode cX2_become 16 = .ok (.invokestatic 22, 3) := by decide +kernel
theorem dX2_become_19 : decode cX2_become 19 = .ok (.aload_n 1, 1) := by decide +kernel
theorem dX2_become_20 : decode cX2_become 20 = .ok (.getfield 15, 3) := by decide +kernel
theorem dX2_become_23 : decode cX2_become 23 = .ok (.aload_n 0, 1) := by decide +kernel
theorem dX2_become_24 : decode cX2_become 24 = .ok (.getfield 15, 3) := by decide +kernel
theorem dX2_become_27 : decode cX2_become 27 = .ok (.invokestatic 22, 3) := by decide +kernel
theorem dX2_become_30 : decode cX2_become 30 = .ok (.return_, 1) := by decide +kernel
theorem dX2_empty_0 : decode cX2_empty 0 = .ok (.aload_n 0, 1) := by decide +kernel
theorem dX2_empty_1 : decode cX2_empty 1 = .ok (.iconst 0, 1) := by decide +kernel
theorem dX2_empty_2 : decode cX2_empty 2 = .ok (.putfield 18, 3) := by decide +kernel
theorem dX2_empty_5 : decode cX2_empty 5 = .ok (.return_, 1) := by decide +kernel
set_option maxRecDepth 20000 in
theorem ggX2_add_X3_at : GoodIn wsX2_add wsX3_at := goodIn_r _ [6] (by decide +kernel) (by decide +kernel)
set_option maxRecDepth 20000 in
theorem gX2_add_X3_at_n26 : GoodIn wsX2_add (wsX3_at) := ggX2_add_X3_at
set_option maxRecDepth 20000 in
theorem ggX2_add_X3_put : GoodIn wsX2_add wsX3_put := goodIn_r _ [8] (by decide +kernel) (by decide +kernel)
set_option maxRecDepth 20000 in
theorem gX2_add_X3_put_n30 : GoodIn wsX2_add (wsX3_put) := ggX2_add_X3_put
theorem dX2_add_0 : decode cX2_add 0 = .ok (.iconst 0, 1) := by decide +kernel
theorem dX2_add_1 : decode cX2_add 1 = .ok (.istore 4, 2) := by decide +kernel
theorem dX2_add_3 : decode cX2_add 3 = .ok (.iconst 0, 1) := by decide +kernel
theorem dX2_add_4 : decode cX2_add 4 = .ok (.istore 5, 2) := by decide +kernel
theorem dX2_add_6 : decode cX2_add 6 = .ok (.iload 5, 2) := by decide +kernel
theorem dX2_add_8 : decode cX2_add 8 = .ok (.aload_n 0, 1) := by decide +kernel
theorem dX2_add_9 : decode cX2_add 9 = .ok (.getfield 18, 3) := by decide +kernel
theorem dX2_add_12 : decode cX2_add 12 = .ok (.if_icmp .ge 66, 3) := by decide +kernel
theorem dX2_add_15 : decode cX2_add 15 = .ok (.aload_n 0, 1) := by decide +kernel
theorem dX2_add_16 : decode cX2_add 16 = .ok (.getfield 9, 3) := by decide +kernel
theorem dX2_add_19 : decode cX2_add 19 = .ok (.iload 5, 2) := by decide +kernel
theorem dX2_add_21 : decode cX2_add 21 = .ok (.invokestatic 26, 3) := by decide +kernel
theorem dX2_add_24 : decode cX2_add 24 = .ok (.istore 6, 2) := by decide +kernel
theorem dX2_add_26 : decode cX2_add 26 = .ok (.iload 6, 2) := by decide +kernel
theorem dX2_add_28 : decode cX2_add 28 = .ok (.iload_n 1, 1) := by decide +kernel
theorem dX2_add_29 : decode cX2_add 29 = .ok (.iload_n 3, 1) := by decide +kernel
theorem dX2_add_30 : decode cX2_add 30 = .ok (.isub, 1) := by decide +kernel
theorem dX2_add_31 : decode cX2_add 31 = .ok (.if_icmp .lt 41, 3) := by decide +kernel
theorem dX2_add_34 : decode cX2_add 34 = .ok (.iload 6, 2) := by decide +kernel
theorem dX2_add_36 : decode cX2_add 36 = .ok (.iload_n 1, 1) := by decide +kernel
theorem dX2_add_37 : decode cX2_add 37 = .ok (.if_icmp .eq 35, 3) := by decide +kernel
theorem dX2_add_40 : decode cX2_add 40 = .ok (.aload_n 0, 1) := by decide +kernel
theorem dX2_add_41 : decode cX2_add 41 = .ok (.getfield 9, 3) := by decide +kernel
theorem dX2_add_44 : decode cX2_add 44 = .ok (.iload 4, 2) := by decide +kernel
theorem dX2_add_46 : decode cX2_add 46 = .ok (.iload 6, 2) := by decide +kernel
theorem dX2_add_48 : decode cX2_add 48 = .ok (.invokestatic 30, 3) := by decide +kernel
theorem dX2_add_51 : decode cX2_add 51 = .ok (.aload_n 0, 1) := by decide +kernel
theorem dX2_add_52 : decode cX2_add 52 = .ok (.getfield 15, 3) := by decide +kernel
theorem dX2_add_55 : decode cX2_add 55 = .ok (.iload 4, 2) := by decide +kernel
theorem dX2_add_57 : decode cX2_add 57 = .ok (.aload_n 0, 1) := by decide +kernel
theorem dX2_add_58 : decode cX2_add 58 = .ok (.getfield 15, 3) := by decide +kernel
theorem dX2_add_61 : decode cX2_add 61 = .ok (.iload 5, 2) := by decide +kernel
theorem dX2_add_63 : decode cX2_add 63 = .ok (.invokestatic 26, 3) := by decide +kernel
theorem dX2_add_66 : decode cX2_add 66 = .ok (.invokestatic 30, 3) := by decide +kernel
theorem dX2_add_69 : decode cX2_add 69 = .ok (.iinc 4 1, 3) := by decide +kernel
theorem dX2_add_72 : decode cX2_add 72 = .ok (.iinc 5 1, 3) := by decide +kernel
theorem dX2_add_75 : decode cX2_add 75 = .ok (.goto (-69), 3) := by decide +kernel
theorem dX2_add_78 : decode cX2_add 78 = .ok (.aload_n 0, 1) := by decide +kernel
theorem dX2_add_79 : decode cX2_add 79 = .ok (.iload 4, 2) := by decide +kernel
theorem dX2_add_81 : decode cX2_add 81 = .ok (.putfield 18, 3) := by decide +kernel
theorem dX2_add_84 : decode cX2_add 84 = .ok (.aload_n 0, 1) := by decide +kernel
theorem dX2_add_85 : decode cX2_add 85 = .ok (.getfield 18, 3) := by decide +kernel
theorem dX2_add_88 : decode cX2_add 88 = .ok (.bipush 61, 2) := by decide +kernel
theorem dX2_add_90 : decode cX2_add 90 = .ok (.if_icmp .ge 37, 3) := by decide +kernel
theorem dX2_add_93 : decode cX2_add 93 = .ok (.aload_n 0, 1) := by decide +kernel
theorem dX2_add_94 : decode cX2_add 94 = .ok (.getfield 9, 3) := by decide +kernel
theorem dX2_add_97 : decode cX2_add 97 = .ok (.aload_n 0, 1) := by decide +kernel
theorem dX2_add_98 : decode cX2_add 98 = .ok (.getfield 18, 3) := by decide +kernel
theorem dX2_add_101 : decode cX2_add 101 = .ok (.iload_n 1, 1) := by decide +kernel
theorem dX2_add_102 : decode cX2_add 102 = .ok (.invokestatic 30, 3) := by decide +kernel
theorem dX2_add_105 : decode cX2_add 105 = .ok (.aload_n 0, 1) := by decide +kernel
theorem dX2_add_106 : decode cX2_add 106 = .ok (.getfield 15, 3) := by decide +kernel
theorem dX2_add_109 : decode cX2_add 109 = .ok (.aload_n 0, 1) := by decide +kernel
theorem dX2_add_110 : decode cX2_add 110 = .ok (.getfield 18, 3) := by decide +kernel
theorem dX2_add_113 : decode cX2_add 113 = .ok (.iload_n 2, 1) := by decide +kernel
theorem dX2_add_114 : decode cX2_add 114 = .ok (.invokestatic 30, 3) := by decide +kernel
theorem dX2_add_117 : decode cX2_add 117 = .ok (.aload_n 0, 1) := by decide +kernel
theorem dX2_add_118 : decode cX2_add 118 = .ok (.dup, 1) := by decide +kernel
theorem dX2_add_119 : decode cX2_add 119 = .ok (.getfield 18, 3) := by decide +kernel
theorem dX2_add_122 : decode cX2_add 122 = .ok (.iconst 1, 1) := by decide +kernel
theorem dX2_add_123 : decode cX2_add 123 = .ok (.iadd, 1) := by decide +kernel
theorem dX2_add_124 : decode cX2_add 124 = .ok (.putfield 18, 3) := by decide +kernel
theorem dX2_add_127 : decode cX2_add 127 = .ok (.return_, 1) := by decide +kernel
set_option maxRecDepth 20000 in
theorem ggX2_speedOr_X3_at : GoodIn wsX2_speedOr wsX3_at := goodIn_r _ [6] (by decide +kernel) (by decide +kernel)
set_option maxRecDepth 20000 in
theorem gX2_speedOr_X3_at_n26 : GoodIn wsX2_speedOr (wsX3_at) := ggX2_speedOr_X3_at
theorem dX2_speedOr_0 : decode cX2_speedOr 0 = .ok (.aload_n 0, 1) := by decide +kernel
theorem dX2_speedOr_1 : decode cX2_speedOr 1 = .ok (.getfield 9, 3) := by decide +kernel
theorem dX2_speedOr_4 : decode cX2_speedOr 4 = .ok (.aload_n 0, 1) := by decide +kernel
theorem dX2_speedOr_5 : decode cX2_speedOr 5 = .ok (.getfield 18, 3) := by decide +kernel
theorem dX2_speedOr_8 : decode cX2_speedOr 8 = .ok (.iconst 1, 1) := by decide +kernel
theorem dX2_speedOr_9 : decode cX2_speedOr 9 = .ok (.isub, 1) := by decide +kernel
theorem dX2_speedOr_10 : decode cX2_speedOr 10 = .ok (.invokestatic 26, 3) := by decide +kernel
theorem dX2_speedOr_13 : decode cX2_speedOr 13 = .ok (.aload_n 0, 1) := by decide +kernel
theorem dX2_speedOr_14 : decode cX2_speedOr 14 = .ok (.getfield 9, 3) := by decide +kernel
theorem dX2_speedOr_17 : decode cX2_speedOr 17 = .ok (.iconst 0, 1) := by decide +kernel
theorem dX2_speedOr_18 : decode cX2_speedOr 18 = .ok (.invokestatic 26, 3) := by decide +kernel
theorem dX2_speedOr_21 : decode cX2_speedOr 21 = .ok (.isub, 1) := by decide +kernel
theorem dX2_speedOr_22 : decode cX2_speedOr 22 = .ok (.istore_n 2, 1) := by decide +kernel
theorem dX2_speedOr_23 : decode cX2_speedOr 23 = .ok (.aload_n 0, 1) := by decide +kernel
theorem dX2_speedOr_24 : decode cX2_speedOr 24 = .ok (.getfield 18, 3) := by decide +kernel
theorem dX2_speedOr_27 : decode cX2_speedOr 27 = .ok (.iconst 2, 1) := by decide +kernel
theorem dX2_speedOr_28 : decode cX2_speedOr 28 = .ok (.if_icmp .lt 8, 3) := by decide +kernel
theorem dX2_speedOr_31 : decode cX2_speedOr 31 = .ok (.iload_n 2, 1) := by decide +kernel
theorem dX2_speedOr_32 : decode cX2_speedOr 32 = .ok (.iconst 1, 1) := by decide +kernel
theorem dX2_speedOr_33 : decode cX2_speedOr 33 = .ok (.if_icmp .ge 5, 3) := by decide +kernel
theorem dX2_speedOr_36 : decode cX2_speedOr 36 = .ok (.iload_n 1, 1) := by decide +kernel
theorem dX2_speedOr_37 : decode cX2_speedOr 37 = .ok (.ireturn, 1) := by decide +kernel
theorem dX2_speedOr_38 : decode cX2_speedOr 38 = .ok (.bipush 100, 2) := by decide +kernel
theorem dX2_speedOr_40 : decode cX2_speedOr 40 = .ok (.aload_n 0, 1) := by decide +kernel
theorem dX2_speedOr_41 : decode cX2_speedOr 41 = .ok (.getfield 15, 3) := by decide +kernel
theorem dX2_speedOr_44 : decode cX2_speedOr 44 = .ok (.aload_n 0, 1) := by decide +kernel
theorem dX2_speedOr_45 : decode cX2_speedOr 45 = .ok (.getfield 18, 3) := by decide +kernel
theorem dX2_speedOr_48 : decode cX2_speedOr 48 = .ok (.iconst 1, 1) := by decide +kernel
theorem dX2_speedOr_49 : decode cX2_speedOr 49 = .ok (.isub, 1) := by decide +kernel
theorem dX2_speedOr_50 : decode cX2_speedOr 50 = .ok (.invokestatic 26, 3) := by decide +kernel
theorem dX2_speedOr_53 : decode cX2_speedOr 53 = .ok (.aload_n 0, 1) := by decide +kernel
theorem dX2_speedOr_54 : decode cX2_speedOr 54 = .ok (.getfield 15, 3) := by decide +kernel
theorem dX2_speedOr_57 : decode cX2_speedOr 57 = .ok (.iconst 0, 1) := by decide +kernel
theorem dX2_speedOr_58 : decode cX2_speedOr 58 = .ok (.invokestatic 26, 3) := by decide +kernel
theorem dX2_speedOr_61 : decode cX2_speedOr 61 = .ok (.isub, 1) := by decide +kernel
theorem dX2_speedOr_62 : decode cX2_speedOr 62 = .ok (.imul, 1) := by decide +kernel
theorem dX2_speedOr_63 : decode cX2_speedOr 63 = .ok (.iload_n 2, 1) := by decide +kernel
theorem dX2_speedOr_64 : decode cX2_speedOr 64 = .ok (.idiv, 1) := by decide +kernel
theorem dX2_speedOr_65 : decode cX2_speedOr 65 = .ok (.ireturn, 1) := by decide +kernel
set_option maxRecDepth 20000 in
theorem ggX3_init_X0_init : GoodIn wsX3_init wsX0_init := goodIn_r _ [22, 23, 2, 3, 4, 24, 25, 26, 27, 28, 126, 127, 128, 129, 130, 131, 132, 133, 134] (by decide +kernel) (by decide +kernel)
set_option maxRecDepth 20000 in
theorem gX3_init_X0_init_n15 : GoodIn wsX3_init (wsX0_init) := ggX3_init_X0_init
set_option maxRecDepth 20000 in
theorem ggX3_init_X1_init : GoodIn wsX3_init wsX1_init := goodIn_r _ [30, 31, 2, 3, 4, 32, 33, 7, 8, 34, 35, 36, 37, 38, 39, 21, 22, 23, 24, 25, 26, 27, 28, 40, 41, 42, 43, 44, 135, 136, 137, 138, 139, 140, 141, 142, 143, 144, 145, 146, 147, 148, 149, 126, 127, 128, 129, 130, 131, 132, 133, 134, 150, 151, 152] (by decide +kernel) (by decide +kernel)
set_option maxRecDepth 20000 in
theorem gX3_init_X1_init_n22 : GoodIn wsX3_init (wsX1_init) := ggX3_init_X1_init
set_option maxRecDepth 20000 in
theorem ggX3_init_X3_copyRow : GoodIn wsX3_init wsX3_copyRow := goodIn_r _ [48, 49, 50, 51, 52, 53, 54, 55, 56] (by decide +kernel) (by decide +kernel)
set_option maxRecDepth 20000 in
theorem gX3_init_X3_copyRow : GoodIn wsX3_init (va_wsS RX3 47 yX3_copyRow wsX3_copyRow) := goodIn_app (goodIn_of _ (by decide +kernel)) ggX3_init_X3_copyRow
set_option maxRecDepth 20000 in
theorem ggX3_init_X0_empty : GoodIn wsX3_init wsX0_empty := goodIn_r _ [60, 61, 62, 63, 126, 127, 128, 129, 130, 131, 132, 133, 134] (by decide +kernel) (by decide +kernel)
set_option maxRecDepth 20000 in
theorem gX3_init_X0_empty : GoodIn wsX3_init (wsV RX3 51 RX0 yX0_empty wsX0_empty) := goodIn_app (goodIn_of _ (by decide +kernel)) ggX3_init_X0_empty
set_option maxRecDepth 20000 in
theorem ggX3_init_X0_read : GoodIn wsX3_init wsX0_read := goodIn_r _ [67, 63, 68, 47, 69, 70, 71, 72, 8, 73, 61, 24, 25, 62, 26, 74, 75, 76, 77, 78, 79, 80, 81, 82, 83, 126, 127, 128, 129, 130, 131, 132, 133, 134] (by decide +kernel) (by decide +kernel)
set_option maxRecDepth 20000 in
theorem gX3_init_X0_read : GoodIn wsX3_init (wsV RX3 54 RX0 yX0_read wsX0_read) := goodIn_app (goodIn_of _ (by decide +kernel)) ggX3_init_X0_read
set_option maxRecDepth 20000 in
theorem ggX3_init_X1_begin : GoodIn wsX3_init wsX1_begin := goodIn_r _ [87, 34, 32, 38, 88, 89, 90, 91, 92, 93, 94, 95, 96, 97, 98, 99, 100, 101, 8, 102, 61, 62, 63, 103, 24, 25, 26, 27, 28, 46, 47, 48, 49, 50, 51, 52, 53, 54, 55, 56, 104, 105, 106, 107, 108, 109, 74, 75, 110, 111, 112, 37, 113, 114, 135, 136, 137, 138, 139, 140, 141, 142, 143, 144, 145, 146, 147, 148, 149, 126, 127, 128, 129, 130, 131, 132, 133, 134, 150, 151, 152] (by decide +kernel) (by decide +kernel)
set_option maxRecDepth 20000 in
theorem gX3_init_X1_begin : GoodIn wsX3_init (wsV RX3 58 RX1 yX1_begin wsX1_begin) := goodIn_app (goodIn_of _ (by decide +kernel)) ggX3_init_X1_begin
theorem dX3_init_0 : decode cX3_init 0 = .ok (.aload_n 0, 1) := by decide +kernel
theorem dX3_init_1 : decode cX3_init 1 = .ok (.invokespecial 1, 3) := by decide +kernel
theorem dX3_init_4 : decode cX3_init 4 = .ok (.aload_n 0, 1) := by decide +kernel
theorem dX3_init_5 : decode cX3_init 5 = .ok (.sipush 140, 3) := by decide +kernel
theorem dX3_init_8 : decode cX3_init 8 = .ok (.newarray .int, 2) := by decide +kernel
theorem dX3_init_10 : decode cX3_init 10 = .ok (.putfield 9, 3) := by decide +kernel
theorem dX3_init_13 : decode cX3_init 13 = .ok (.aload_n 0, 1) := by decide +kernel
theorem dX3_init_14 : decode cX3_init 14 = .ok (.new 13, 3) := by decide +kernel
theorem dX3_init_17 : decode cX3_init 17 = .ok (.dup, 1) := by decide +kernel
theorem dX3_init_18 : decode cX3_init 18 = .ok (.invokespecial 15, 3) := by decide +kernel
theorem dX3_init_21 : decode cX3_init 21 = .ok (.putfield 16, 3) := by decide +kernel
theorem dX3_init_24 : decode cX3_init 24 = .ok (.aload_n 0, 1) := by decide +kernel
theorem dX3_init_25 : decode cX3_init 25 = .ok (.new 20, 3) := by decide +kernel
theorem dX3_init_28 : decode cX3_init 28 = .ok (.dup, 1) := by decide +kernel
theorem dX3_init_29 : decode cX3_init 29 = .ok (.invokespecial 22, 3) := by decide +kernel
theorem dX3_init_32 : decode cX3_init 32 = .ok (.putfield 23, 3) := by decide +kernel
theorem dX3_init_35 : decode cX3_init 35 = .ok (.aload_n 0, 1) := by decide +kernel
theorem dX3_init_36 : decode cX3_init 36 = .ok (.new 20, 3) := by decide +kernel
theorem dX3_init_39 : decode cX3_init 39 = .ok (.dup, 1) := by decide +kernel
theorem dX3_init_40 : decode cX3_init 40 = .ok (.invokespecial 22, 3) := by decide +kernel
theorem dX3_init_43 : decode cX3_init 43 = .ok (.putfield 27, 3) := by decide +kernel
theorem dX3_init_46 : decode cX3_init 46 = .ok (.aload_n 0, 1) := by decide +kernel
theorem dX3_init_47 : decode cX3_init 47 = .ok (.bipush 8, 2) := by decide +kernel
theorem dX3_init_49 : decode cX3_init 49 = .ok (.anewarray 20, 3) := by decide +kernel
theorem dX3_init_52 : decode cX3_init 52 = .ok (.putfield 30, 3) := by decide +kernel
theorem dX3_init_55 : decode cX3_init 55 = .ok (.aload_n 0, 1) := by decide +kernel
theorem dX3_init_56 : decode cX3_init 56 = .ok (.iconst 2, 1) := by decide +kernel
theorem dX3_init_57 : decode cX3_init 57 = .ok (.anewarray 20, 3) := by decide +kernel
theorem dX3_init_60 : decode cX3_init 60 = .ok (.putfield 34, 3) := by decide +kernel
theorem dX3_init_63 : decode cX3_init 63 = .ok (.aload_n 0, 1) := by decide +kernel
theorem dX3_init_64 : decode cX3_init 64 = .ok (.iconst 2, 1) := by decide +kernel
theorem dX3_init_65 : decode cX3_init 65 = .ok (.newarray .boolean, 2) := by decide +kernel
theorem dX3_init_67 : decode cX3_init 67 = .ok (.putfield 37, 3) := by decide +kernel
theorem dX3_init_70 : decode cX3_init 70 = .ok (.iconst 0, 1) := by decide +kernel
theorem dX3_init_71 : decode cX3_init 71 = .ok (.istore_n 1, 1) := by decide +kernel
theorem dX3_init_72 : decode cX3_init 72 = .ok (.iload_n 1, 1) := by decide +kernel
theorem dX3_init_73 : decode cX3_init 73 = .ok (.aload_n 0, 1) := by decide +kernel
theorem dX3_init_74 : decode cX3_init 74 = .ok (.getfield 30, 3) := by decide +kernel
theorem dX3_init_77 : decode cX3_init 77 = .ok (.arraylength, 1) := by decide +kernel
theorem dX3_init_78 : decode cX3_init 78 = .ok (.if_icmp .ge 22, 3) := by decide +kernel
theorem dX3_init_81 : decode cX3_init 81 = .ok (.aload_n 0, 1) := by decide +kernel
theorem dX3_init_82 : decode cX3_init 82 = .ok (.getfield 30, 3) := by decide +kernel
theorem dX3_init_85 : decode cX3_init 85 = .ok (.iload_n 1, 1) := by decide +kernel
theorem dX3_init_86 : decode cX3_init 86 = .ok (.new 20, 3) := by decide +kernel
theorem dX3_init_89 : decode cX3_init 89 = .ok (.dup, 1) := by decide +kernel
theorem dX3_init_90 : decode cX3_init 90 = .ok (.invokespecial 22, 3) := by decide +kernel
theorem dX3_init_93 : decode cX3_init 93 = .ok (.aastore, 1) := by decide +kernel
theorem dX3_init_94 : decode cX3_init 94 = .ok (.iinc 1 1, 3) := by decide +kernel
theorem dX3_init_97 : decode cX3_init 97 = .ok (.goto (-25), 3) := by decide +kernel
theorem dX3_init_100 : decode cX3_init 100 = .ok (.iconst 0, 1) := by decide +kernel
theorem dX3_init_101 : decode cX3_init 101 = .ok (.istore_n 1, 1) := by decide +kernel
theorem dX3_init_102 : decode cX3_init 102 = .ok (.iload_n 1, 1) := by decide +kernel
theorem dX3_init_103 : decode cX3_init 103 = .ok (.aload_n 0, 1) := by decide +kernel
theorem dX3_init_104 : decode cX3_init 104 = .ok (.getfield 34, 3) := by decide +kernel
theorem dX3_init_107 : decode cX3_init 107 = .ok (.arraylength, 1) := by decide +kernel
theorem dX3_init_108 : decode cX3_init 108 = .ok (.if_icmp .ge 22, 3) := by decide +kernel
theorem dX3_init_111 : decode cX3_init 111 = .ok (.aload_n 0, 1) := by decide +kernel
theorem dX3_init_112 : decode cX3_init 112 = .ok (.getfield 34, 3) := by decide +kernel
theorem dX3_init_115 : decode cX3_init 115 = .ok (.iload_n 1, 1) := by decide +kernel
theorem dX3_init_116 : decode cX3_init 116 = .ok (.new 20, 3) := by decide +kernel
theorem dX3_init_119 : decode cX3_init 119 = .ok (.dup, 1) := by decide +kernel
theorem dX3_init_120 : decode cX3_init 120 = .ok (.invokespecial 22, 3) := by decide +kernel
theorem dX3_init_123 : decode cX3_init 123 = .ok (.aastore, 1) := by decide +kernel
theorem dX3_init_124 : decode cX3_init 124 = .ok (.iinc 1 1, 3) := by decide +kernel
theorem dX3_init_127 : decode cX3_init 127 = .ok (.goto (-25), 3) := by decide +kernel
theorem dX3_init_130 : decode cX3_init 130 = .ok (.getstatic 41, 3) := by decide +kernel
theorem dX3_init_133 : decode cX3_init 133 = .ok (.aload_n 0, 1) := by decide +kernel
theorem dX3_init_134 : decode cX3_init 134 = .ok (.getfield 23, 3) := by decide +kernel
theorem dX3_init_137 : decode cX3_init 137 = .ok (.getfield 44, 3) := by decide +kernel
theorem dX3_init_140 : decode cX3_init 140 = .ok (.invokestatic 47, 3) := by decide +kernel
theorem dX3_init_143 : decode cX3_init 143 = .ok (.aload_n 0, 1) := by decide +kernel
theorem dX3_init_144 : decode cX3_init 144 = .ok (.getfield 16, 3) := by decide +kernel
theorem dX3_init_147 : decode cX3_init 147 = .ok (.invokevirtual 51, 3) := by decide +kernel
theorem dX3_init_150 : decode cX3_init 150 = .ok (.aload_n 0, 1) := by decide +kernel
theorem dX3_init_151 : decode cX3_init 151 = .ok (.getfield 16, 3) := by decide +kernel
theorem dX3_init_154 : decode cX3_init 154 = .ok (.bipush 97, 2) := by decide +kernel
theorem dX3_init_156 : decode cX3_init 156 = .ok (.bipush 32, 2) := by decide +kernel
theorem dX3_init_158 : decode cX3_init 158 = .ok (.invokevirtual 54, 3) := by decide +kernel
theorem dX3_init_161 : decode cX3_init 161 = .ok (.pop, 1) := by decide +kernel
theorem dX3_init_162 : decode cX3_init 162 = .ok (.aload_n 0, 1) := by decide +kernel
theorem dX3_init_163 : decode cX3_init 163 = .ok (.getfield 23, 3) := by decide +kernel
theorem dX3_init_166 : decode cX3_init 166 = .ok (.aload_n 0, 1) := by decide +kernel
theorem dX3_init_167 : decode cX3_init 167 = .ok (.getfield 16, 3) := by decide +kernel
theorem dX3_init_170 : decode cX3_init 170 = .ok (.invokevirtual 58, 3) := by decide +kernel
theorem dX3_init_173 : decode cX3_init 173 = .ok (.return_, 1) := by decide +kernel
set_option maxRecDepth 20000 in
theorem ggX3_load_X3_readText : GoodIn wsX3_load wsX3_readText := goodIn_r _ [9, 2, 10, 11, 12, 13, 14, 15, 16, 17, 18, 19, 20, 21, 22, 23, 24, 8, 25, 26, 27, 28, 29, 30, 31, 32, 33, 34, 35, 36, 37, 38, 39, 40, 41, 42, 43, 44, 45, 46, 47, 48, 121, 122, 123, 124, 125, 126, 127, 128, 129, 130, 131, 147, 148, 149, 150, 151, 152, 153, 154, 155] (by decide +kernel) (by decide +kernel)
set_option maxRecDepth 20000 in
theorem gX3_load_X3_readText : GoodIn wsX3_load (wsV RX3 62 RX3 yX3_readText wsX3_readText) := goodIn_app (goodIn_of _ (by decide +kernel)) ggX3_load_X3_readText
set_option maxRecDepth 20000 in
theorem ggX3_load_X3_record : GoodIn wsX3_load wsX3_record := goodIn_r _ [52, 53, 54, 1, 55, 56, 57, 8, 58, 59, 60, 61, 62, 63, 64, 65, 66, 67, 68, 69, 70, 71, 72, 73, 74, 75, 76, 77, 78, 79, 80, 81, 82, 83, 84, 85, 86, 87, 88, 89, 90, 91, 92, 93, 94, 95, 96, 18, 97, 20, 21, 22, 98, 36, 37, 38, 99, 100, 101, 102, 103, 104, 105, 106, 107, 108, 121, 122, 123, 124, 125, 126, 127, 128, 129, 130, 131, 132, 133, 134, 135, 136, 137, 138, 139, 140, 141, 142, 143, 144, 145, 146, 147, 148, 149, 150, 151, 152, 153, 154, 155, 156, 157, 158] (by decide +kernel) (by decide +kernel)
set_option maxRecDepth 20000 in
theorem gX3_load_X3_record : GoodIn wsX3_load (wsV RX3 66 RX3 yX3_record wsX3_record) := goodIn_app (goodIn_of _ (by decide +kernel)) ggX3_load_X3_record
set_option maxRecDepth 20000 in
theorem ggX3_load_X1_begin : GoodIn wsX3_load wsX1_begin := goodIn_r _ [112, 70, 69, 71, 73, 74, 75, 76, 77, 78, 79, 80, 81, 82, 83, 94, 95, 96, 18, 97, 20, 21, 22, 98, 36, 37, 38, 99, 100, 84, 8, 85, 86, 87, 88, 89, 90, 91, 92, 93, 24, 25, 113, 114, 115, 116, 39, 40, 117, 118, 119, 104, 120, 106, 132, 133, 134, 135, 136, 137, 138, 139, 140, 141, 142, 143, 144, 145, 146, 147, 148, 149, 150, 151, 152, 153, 154, 155, 156, 157, 158] (by decide +kernel) (by decide +kernel)
set_option maxRecDepth 20000 in
theorem gX3_load_X1_begin : GoodIn wsX3_load (wsV RX3 58 RX1 yX1_begin wsX1_begin) := goodIn_app (goodIn_of _ (by decide +kernel)) ggX3_load_X1_begin
theorem dX3_load_0 : decode cX3_load 0 = .ok (.aload_n 0, 1) := by decide +kernel
theorem dX3_load_1 : decode cX3_load 1 = .ok (.invokevirtual 62, 3) := by decide +kernel
theorem dX3_load_4 : decode cX3_load 4 = .ok (.ifCond .ne 6, 3) := by decide +kernel
theorem dX3_load_7 : decode cX3_load 7 = .ok (.bipush (-2), 2) := by decide +kernel
theorem dX3_load_9 : decode cX3_load 9 = .ok (.ireturn, 1) := by decide +kernel
theorem dX3_load_10 : decode cX3_load 10 = .ok (.aload_n 0, 1) := by decide +kernel
theorem dX3_load_11 : decode cX3_load 11 = .ok (.invokevirtual 66, 3) := by decide +kernel
theorem dX3_load_14 : decode cX3_load 14 = .ok (.aload_n 0, 1) := by decide +kernel
theorem dX3_load_15 : decode cX3_load 15 = .ok (.getfield 23, 3) := by decide +kernel
theorem dX3_load_18 : decode cX3_load 18 = .ok (.aload_n 0, 1) := by decide +kernel
theorem dX3_load_19 : decode cX3_load 19 = .ok (.getfield 16, 3) := by decide +kernel
theorem dX3_load_22 : decode cX3_load 22 = .ok (.invokevirtual 58, 3) := by decide +kernel
theorem dX3_load_25 : decode cX3_load 25 = .ok (.aload_n 0, 1) := by decide +kernel
theorem dX3_load_26 : decode cX3_load 26 = .ok (.getfield 23, 3) := by decide +kernel
theorem dX3_load_29 : decode cX3_load 29 = .ok (.getfield 69, 3) := by decide +kernel
theorem dX3_load_32 : decode cX3_load 32 = .ok (.getfield 72, 3) := by decide +kernel
theorem dX3_load_35 : decode cX3_load 35 = .ok (.ireturn, 1) := by decide +kernel
set_option maxRecDepth 20000 in
theorem ggX3_set_X3_isSetting : GoodIn wsX3_set wsX3_isSetting := goodIn_r _ [8] (by decide +kernel) (by decide +kernel)
set_option maxRecDepth 20000 in
theorem gX3_set_X3_isSetting : GoodIn wsX3_set (va_wsS RX3 76 yX3_isSetting wsX3_isSetting) := goodIn_app (goodIn_of _ (by decide +kernel)) ggX3_set_X3_isSetting
set_option maxRecDepth 20000 in
theorem ggX3_set_X3_at : GoodIn wsX3_set wsX3_at := goodIn_r _ [11] (by decide +kernel) (by decide +kernel)
set_option maxRecDepth 20000 in
theorem gX3_set_X3_at : GoodIn wsX3_set (va_wsS RX3 83 yX3_at wsX3_at) := goodIn_app (goodIn_of _ (by decide +kernel)) ggX3_set_X3_at
set_option maxRecDepth 20000 in
theorem ggX3_set_X3_record : GoodIn wsX3_set wsX3_record := goodIn_r _ [15, 16, 17, 3, 18, 19, 20, 7, 21, 22, 23, 24, 25, 26, 27, 28, 29, 30, 31, 32, 33, 34, 35, 36, 37, 38, 39, 40, 41, 42, 43, 44, 45, 46, 47, 48, 49, 50, 51, 52, 53, 54, 55, 56, 57, 58, 59, 60, 61, 62, 63, 64, 65, 66, 67, 68, 69, 70, 71, 72, 73, 74, 75, 76, 77, 78, 100, 101, 102, 103, 104, 105, 106, 107, 108, 109, 110, 111, 112, 113, 114, 115, 116, 117, 118, 119, 120, 121, 122, 123, 124, 125, 126, 127, 128, 129, 130, 131, 132, 133, 134, 135, 136, 137] (by decide +kernel) (by decide +kernel)
set_option maxRecDepth 20000 in
theorem gX3_set_X3_record : GoodIn wsX3_set (wsV RX3 66 RX3 yX3_record wsX3_record) := goodIn_app (goodIn_of _ (by decide +kernel)) ggX3_set_X3_record
set_option maxRecDepth 20000 in
theorem ggX3_set_X1_change : GoodIn wsX3_set wsX1_change := goodIn_r _ [82, 32, 33, 41, 83, 7, 84, 10, 11, 85, 86, 87, 60, 88, 65, 62, 67, 70, 69, 89, 90, 91, 30, 92, 93, 94, 95, 51, 96, 97, 98, 49, 50, 52, 99, 111, 112, 113, 114, 115, 116, 117, 118, 119, 120, 121, 122, 123, 124, 125, 126, 127, 128, 129, 130, 131, 132, 133, 134] (by decide +kernel) (by decide +kernel)
set_option maxRecDepth 20000 in
theorem gX3_set_X1_change : GoodIn wsX3_set (wsV RX3 90 RX1 yX1_change wsX1_change) := goodIn_app (goodIn_of _ (by decide +kernel)) ggX3_set_X1_change
theorem dX3_set_0 : decode cX3_set 0 = .ok (.iload_n 1, 1) := by decide +kernel
theorem dX3_set_1 : decode cX3_set 1 = .ok (.invokestatic 76, 3) := by decide +kernel
theorem dX3_set_4 : decode cX3_set 4 = .ok (.ifCond .eq 25, 3) := by decide +kernel
theorem dX3_set_7 : decode cX3_set 7 = .ok (.iload_n 2, 1) := by decide +kernel
theorem dX3_set_8 : decode cX3_set 8 = .ok (.getstatic 80, 3) := by decide +kernel
theorem dX3_set_11 : decode cX3_set 11 = .ok (.iload_n 1, 1) := by decide +kernel
theorem dX3_set_12 : decode cX3_set 12 = .ok (.invokestatic 83, 3) := by decide +kernel
theorem dX3_set_15 : decode cX3_set 15 = .ok (.if_icmp .lt 14, 3) := by decide +kernel
theorem dX3_set_18 : decode cX3_set 18 = .ok (.iload_n 2, 1) := by decide +kernel
theorem dX3_set_19 : decode cX3_set 19 = .ok (.getstatic 87, 3) := by decide +kernel
theorem dX3_set_22 : decode cX3_set 22 = .ok (.iload_n 1, 1) := by decide +kernel
theorem dX3_set_23 : decode cX3_set 23 = .ok (.invokestatic 83, 3) := by decide +kernel
theorem dX3_set_26 : decode cX3_set 26 = .ok (.if_icmp .le 5, 3) := by decide +kernel
theorem dX3_set_29 : decode cX3_set 29 = .ok (.iconst (-1), 1) := by decide +kernel
theorem dX3_set_30 : decode cX3_set 30 = .ok (.ireturn, 1) := by decide +kernel
theorem dX3_set_31 : decode cX3_set 31 = .ok (.aload_n 0, 1) := by decide +kernel
theorem dX3_set_32 : decode cX3_set 32 = .ok (.invokevirtual 66, 3) := by decide +kernel
theorem dX3_set_35 : decode cX3_set 35 = .ok (.aload_n 0, 1) := by decide +kernel
theorem dX3_set_36 : decode cX3_set 36 = .ok (.getfield 23, 3) := by decide +kernel
theorem dX3_set_39 : decode cX3_set 39 = .ok (.getfield 44, 3) := by decide +kernel
theorem dX3_set_42 : decode cX3_set 42 = .ok (.iload_n 1, 1) := by decide +kernel
theorem dX3_set_43 : decode cX3_set 43 = .ok (.invokestatic 83, 3) := by decide +kernel
theorem dX3_set_46 : decode cX3_set 46 = .ok (.istore_n 3, 1) := by decide +kernel
theorem dX3_set_47 : decode cX3_set 47 = .ok (.aload_n 0, 1) := by decide +kernel
theorem dX3_set_48 : decode cX3_set 48 = .ok (.getfield 23, 3) := by decide +kernel
theorem dX3_set_51 : decode cX3_set 51 = .ok (.iload_n 1, 1) := by decide +kernel
theorem dX3_set_52 : decode cX3_set 52 = .ok (.iload_n 2, 1) := by decide +kernel
theorem dX3_set_53 : decode cX3_set 53 = .ok (.invokevirtual 90, 3) := by decide +kernel
theorem dX3_set_56 : decode cX3_set 56 = .ok (.iload_n 3, 1) := by decide +kernel
theorem dX3_set_57 : decode cX3_set 57 = .ok (.ireturn, 1) := by decide +kernel
set_option maxRecDepth 20000 in
theorem ggX3_hear_X3_isLetter : GoodIn wsX3_hear wsX3_isLetter := goodIn_r _ [6] (by decide +kernel) (by decide +kernel)
set_option maxRecDepth 20000 in
theorem gX3_hear_X3_isLetter : GoodIn wsX3_hear (va_wsS RX3 94 yX3_isLetter wsX3_isLetter) := goodIn_app (goodIn_of _ (by decide +kernel)) ggX3_hear_X3_isLetter
set_option maxRecDepth 20000 in
theorem ggX3_hear_X3_record : GoodIn wsX3_hear wsX3_record := goodIn_r _ [10, 11, 12, 1, 13, 14, 15, 5, 16, 17, 18, 19, 20, 21, 22, 23, 24, 25, 26, 27, 28, 29, 30, 31, 32, 33, 34, 35, 36, 37, 38, 39, 40, 41, 42, 43, 44, 45, 46, 47, 48, 49, 50, 51, 52, 53, 54, 55, 56, 57, 58, 59, 60, 61, 62, 63, 64, 65, 66, 67, 68, 69, 70, 71, 72, 73, 131, 132, 133, 134, 135, 136, 137, 138, 139, 140, 141, 142, 143, 144, 145, 146, 147, 148, 149, 150, 151, 152, 153, 154, 155, 156, 157, 158, 159, 160, 161, 162, 163, 164, 165, 166, 167, 168] (by decide +kernel) (by decide +kernel)
set_option maxRecDepth 20000 in
theorem gX3_hear_X3_record : GoodIn wsX3_hear (wsV RX3 66 RX3 yX3_record wsX3_record) := goodIn_app (goodIn_of _ (by decide +kernel)) ggX3_hear_X3_record
set_option maxRecDepth 20000 in
theorem ggX3_hear_X1_listen : GoodIn wsX3_hear wsX1_listen := goodIn_r _ [77, 39, 78, 79, 80, 25, 81, 32, 27, 82, 83, 46, 84, 28, 85, 86, 45, 47, 87, 88, 5, 89, 90, 91, 92, 93, 94, 95, 96, 97, 98, 99, 100, 31, 30, 101, 102, 103, 104, 105, 106, 107, 108, 37, 29, 38, 34, 35, 33, 41, 109, 110, 111, 69, 112, 71, 113, 114, 115, 116, 72, 73, 117, 118, 119, 120, 121, 122, 123, 124, 125, 55, 126, 57, 63, 127, 128, 129, 130, 142, 143, 144, 145, 146, 147, 148, 149, 150, 151, 152, 153, 154, 155, 156, 157, 158, 159, 160, 161, 162, 163, 164, 165, 166, 167, 168] (by decide +kernel) (by decide +kernel)
set_option maxRecDepth 20000 in
theorem gX3_hear_X1_listen : GoodIn wsX3_hear (wsV RX3 97 RX1 yX1_listen wsX1_listen) := goodIn_app (goodIn_of _ (by decide +kernel)) ggX3_hear_X1_listen
theorem dX3_hear_0 : decode cX3_hear 0 = .ok (.iload_n 1, 1) := by decide +kernel
theorem dX3_hear_1 : decode cX3_hear 1 = .ok (.invokestatic 94, 3) := by decide +kernel
theorem dX3_hear_4 : decode cX3_hear 4 = .ok (.ifCond .ne 5, 3) := by decide +kernel
theorem dX3_hear_7 : decode cX3_hear 7 = .ok (.iconst (-1), 1) := by decide +kernel
theorem dX3_hear_8 : decode cX3_hear 8 = .ok (.ireturn, 1) := by decide +kernel
theorem dX3_hear_9 : decode cX3_hear 9 = .ok (.aload_n 0, 1) := by decide +kernel
theorem dX3_hear_10 : decode cX3_hear 10 = .ok (.invokevirtual 66, 3) := by decide +kernel
theorem dX3_hear_13 : decode cX3_hear 13 = .ok (.aload_n 0, 1) := by decide +kernel
theorem dX3_hear_14 : decode cX3_hear 14 = .ok (.getfield 23, 3) := by decide +kernel
theorem dX3_hear_17 : decode cX3_hear 17 = .ok (.iload_n 1, 1) := by decide +kernel
theorem dX3_hear_18 : decode cX3_hear 18 = .ok (.invokevirtual 97, 3) := by decide +kernel
theorem dX3_hear_21 : decode cX3_hear 21 = .ok (.ifCond .eq 13, 3) := by decide +kernel
theorem dX3_hear_24 : decode cX3_hear 24 = .ok (.aload_n 0, 1) := by decide +kernel
theorem dX3_hear_25 : decode cX3_hear 25 = .ok (.getfield 23, 3) := by decide +kernel
theorem dX3_hear_28 : decode cX3_hear 28 = .ok (.getfield 100, 3) := by decide +kernel
theorem dX3_hear_31 : decode cX3_hear 31 = .ok (.goto 5, 3) := by decide +kernel
theorem dX3_hear_34 : decode cX3_hear 34 = .ok (.bipush (-9), 2) := by decide +kernel
theorem dX3_hear_36 : decode cX3_hear 36 = .ok (.ireturn, 1) := by decide +kernel
set_option maxRecDepth 20000 in
theorem ggX3_tick_X3_record : GoodIn wsX3_tick wsX3_record := goodIn_r _ [6, 7, 8, 1, 9, 10, 11, 5, 12, 13, 14, 15, 16, 17, 18, 19, 20, 21, 22, 23, 24, 25, 26, 27, 28, 29, 30, 31, 32, 33, 34, 35, 36, 37, 38, 39, 40, 41, 42, 43, 44, 45, 46, 47, 48, 49, 50, 51, 52, 53, 54, 55, 56, 57, 58, 59, 60, 61, 62, 63, 64, 65, 66, 67, 68, 69, 125, 126, 127, 128, 129, 130, 131, 132, 133, 134, 135, 136, 137, 138, 139, 140, 141, 142, 143, 144, 145, 146, 147, 148, 149, 150, 151, 152, 153, 154, 155, 156, 157, 158, 159, 160, 161, 162] (by decide +kernel) (by decide +kernel)
set_option maxRecDepth 20000 in
theorem gX3_tick_X3_record : GoodIn wsX3_tick (wsV RX3 66 RX3 yX3_record wsX3_record) := goodIn_app (goodIn_of _ (by decide +kernel)) ggX3_tick_X3_record
set_option maxRecDepth 20000 in
theorem ggX3_tick_X1_passTime : GoodIn wsX3_tick wsX1_passTime := goodIn_r _ [73, 36, 30, 74, 75, 76, 21, 77, 24, 78, 79, 80, 81, 51, 82, 53, 59, 83, 5, 84, 85, 86, 87, 88, 31, 23, 89, 28, 29, 90, 91, 42, 92, 93, 94, 95, 96, 97, 98, 99, 32, 100, 101, 102, 103, 104, 105, 41, 43, 106, 107, 108, 109, 110, 111, 112, 113, 114, 115, 40, 116, 117, 118, 119, 120, 121, 122, 123, 124, 136, 137, 138, 139, 140, 141, 142, 143, 144, 145, 146, 147, 148, 149, 150, 151, 152, 153, 154, 155, 156, 157, 158, 159] (by decide +kernel) (by decide +kernel)
set_option maxRecDepth 20000 in
theorem gX3_tick_X1_passTime : GoodIn wsX3_tick (wsV RX3 103 RX1 yX1_passTime wsX1_passTime) := goodIn_app (goodIn_of _ (by decide +kernel)) ggX3_tick_X1_passTime
theorem dX3_tick_0 : decode cX3_tick 0 = .ok (.iload_n 1, 1) := by decide +kernel
theorem dX3_tick_1 : decode cX3_tick 1 = .ok (.iconst 1, 1) := by decide +kernel
theorem dX3_tick_2 : decode cX3_tick 2 = .ok (.if_icmp .lt 9, 3) := by decide +kernel
theorem dX3_tick_5 : decode cX3_tick 5 = .ok (.iload_n 1, 1) := by decide +kernel
theorem dX3_tick_6 : decode cX3_tick 6 = .ok (.bipush 100, 2) := by decide +kernel
theorem dX3_tick_8 : decode cX3_tick 8 = .ok (.if_icmp .le 5, 3) := by decide +kernel
theorem dX3_tick_11 : decode cX3_tick 11 = .ok (.iconst (-1), 1) := by decide +kernel
theorem dX3_tick_12 : decode cX3_tick 12 = .ok (.ireturn, 1) := by decide +kernel
theorem dX3_tick_13 : decode cX3_tick 13 = .ok (.aload_n 0, 1) := by decide +kernel
theorem dX3_tick_14 : decode cX3_tick 14 = .ok (.invokevirtual 66, 3) := by decide +kernel
theorem dX3_tick_17 : decode cX3_tick 17 = .ok (.aload_n 0, 1) := by decide +kernel
theorem dX3_tick_18 : decode cX3_tick 18 = .ok (.getfield 23, 3) := by decide +kernel
theorem dX3_tick_21 : decode cX3_tick 21 = .ok (.iload_n 1, 1) := by decide +kernel
theorem dX3_tick_22 : decode cX3_tick 22 = .ok (.invokevirtual 103, 3) := by decide +kernel
theorem dX3_tick_25 : decode cX3_tick 25 = .ok (.ireturn, 1) := by decide +kernel
set_option maxRecDepth 20000 in
theorem ggX3_release_X0_nextCue : GoodIn wsX3_release wsX0_nextCue := goodIn_r _ [7, 8, 9, 10, 11, 12, 109, 110, 111, 112, 113, 114, 115, 116, 117] (by decide +kernel) (by decide +kernel)
set_option maxRecDepth 20000 in
theorem gX3_release_X0_nextCue : GoodIn wsX3_release (wsV RX3 107 RX0 yX0_nextCue wsX0_nextCue) := goodIn_app (goodIn_of _ (by decide +kernel)) ggX3_release_X0_nextCue
set_option maxRecDepth 20000 in
theorem ggX3_release_X3_record : GoodIn wsX3_release wsX3_record := goodIn_r _ [16, 17, 18, 1, 19, 20, 21, 11, 22, 23, 24, 25, 26, 27, 28, 29, 30, 31, 32, 33, 34, 35, 36, 37, 38, 39, 40, 41, 42, 43, 44, 45, 46, 47, 48, 49, 50, 51, 52, 53, 54, 55, 56, 57, 58, 59, 60, 6, 61, 8, 62, 63, 64, 65, 66, 9, 67, 68, 69, 70, 71, 72, 73, 74, 75, 76, 83, 84, 85, 86, 87, 88, 89, 90, 91, 92, 93, 94, 95, 96, 97, 98, 99, 100, 101, 102, 103, 104, 105, 106, 107, 108, 109, 110, 111, 112, 113, 114, 115, 116, 117, 118, 119, 120] (by decide +kernel) (by decide +kernel)
set_option maxRecDepth 20000 in
theorem gX3_release_X3_record : GoodIn wsX3_release (wsV RX3 66 RX3 yX3_record wsX3_record) := goodIn_app (goodIn_of _ (by decide +kernel)) ggX3_release_X3_record
set_option maxRecDepth 20000 in
theorem ggX3_release_X0_freeCue : GoodIn wsX3_release wsX0_freeCue := goodIn_r _ [80, 9, 81, 11, 82, 109, 110, 111, 112, 113, 114, 115, 116, 117] (by decide +kernel) (by decide +kernel)
set_option maxRecDepth 20000 in
theorem gX3_release_X0_freeCue : GoodIn wsX3_release (wsV RX3 111 RX0 yX0_freeCue wsX0_freeCue) := goodIn_app (goodIn_of _ (by decide +kernel)) ggX3_release_X0_freeCue
theorem dX3_release_0 : decode cX3_release 0 = .ok (.aload_n 0, 1) := by decide +kernel
theorem dX3_release_1 : decode cX3_release 1 = .ok (.getfield 23, 3) := by decide +kernel
theorem dX3_release_4 : decode cX3_release 4 = .ok (.getfield 69, 3) := by decide +kernel
theorem dX3_release_7 : decode cX3_release 7 = .ok (.invokevirtual 107, 3) := by decide +kernel
theorem dX3_release_10 : decode cX3_release 10 = .ok (.istore_n 1, 1) := by decide +kernel
theorem dX3_release_11 : decode cX3_release 11 = .ok (.iload_n 1, 1) := by decide +kernel
theorem dX3_release_12 : decode cX3_release 12 = .ok (.bipush (-9), 2) := by decide +kernel
theorem dX3_release_14 : decode cX3_release 14 = .ok (.if_icmp .ne 6, 3) := by decide +kernel
theorem dX3_release_17 : decode cX3_release 17 = .ok (.bipush (-2), 2) := by decide +kernel
theorem dX3_release_19 : decode cX3_release 19 = .ok (.ireturn, 1) := by decide +kernel
theorem dX3_release_20 : decode cX3_release 20 = .ok (.aload_n 0, 1) := by decide +kernel
theorem dX3_release_21 : decode cX3_release 21 = .ok (.invokevirtual 66, 3) := by decide +kernel
theorem dX3_release_24 : decode cX3_release 24 = .ok (.aload_n 0, 1) := by decide +kernel
theorem dX3_release_25 : decode cX3_release 25 = .ok (.getfield 23, 3) := by decide +kernel
theorem dX3_release_28 : decode cX3_release 28 = .ok (.getfield 69, 3) := by decide +kernel
theorem dX3_release_31 : decode cX3_release 31 = .ok (.iload_n 1, 1) := by decide +kernel
theorem dX3_release_32 : decode cX3_release 32 = .ok (.invokevirtual 111, 3) := by decide +kernel
theorem dX3_release_35 : decode cX3_release 35 = .ok (.iload_n 1, 1) := by decide +kernel
theorem dX3_release_36 : decode cX3_release 36 = .ok (.ireturn, 1) := by decide +kernel
set_option maxRecDepth 20000 in
theorem ggX3_place_X0_has : GoodIn wsX3_place wsX0_has := goodIn_r _ [8, 9, 118, 119, 120, 121, 122, 123, 124, 125, 126] (by decide +kernel) (by decide +kernel)
set_option maxRecDepth 20000 in
theorem gX3_place_X0_has : GoodIn wsX3_place (wsV RX3 115 RX0 yX0_has wsX0_has) := goodIn_app (goodIn_of _ (by decide +kernel)) ggX3_place_X0_has
set_option maxRecDepth 20000 in
theorem ggX3_place_X3_record : GoodIn wsX3_place wsX3_record := goodIn_r _ [14, 15, 16, 1, 17, 18, 19, 13, 20, 21, 22, 23, 24, 25, 26, 27, 28, 29, 30, 31, 32, 33, 34, 35, 36, 37, 38, 39, 40, 41, 42, 43, 44, 45, 46, 47, 48, 49, 50, 51, 52, 53, 54, 55, 56, 57, 58, 7, 59, 9, 60, 61, 62, 63, 64, 65, 66, 67, 68, 69, 70, 71, 72, 73, 74, 75, 92, 93, 94, 95, 96, 97, 98, 99, 100, 101, 102, 103, 104, 105, 106, 107, 108, 109, 110, 111, 112, 113, 114, 115, 116, 117, 118, 119, 120, 121, 122, 123, 124, 125, 126, 127, 128, 129] (by decide +kernel) (by decide +kernel)
set_option maxRecDepth 20000 in
theorem gX3_place_X3_record : GoodIn wsX3_place (wsV RX3 66 RX3 yX3_record wsX3_record) := goodIn_app (goodIn_of _ (by decide +kernel)) ggX3_place_X3_record
set_option maxRecDepth 20000 in
theorem ggX3_place_X1_jump : GoodIn wsX3_place wsX1_jump := goodIn_r _ [79, 35, 33, 38, 39, 36, 32, 80, 81, 82, 71, 83, 73, 84, 85, 86, 7, 87, 9, 65, 88, 13, 89, 90, 91, 103, 104, 105, 106, 107, 108, 109, 110, 111, 112, 113, 114, 115, 116, 117, 127, 128, 129, 118, 119, 120, 121, 122, 123, 124, 125, 126] (by decide +kernel) (by decide +kernel)
set_option maxRecDepth 20000 in
theorem gX3_place_X1_jump : GoodIn wsX3_place (wsV RX3 118 RX1 yX1_jump wsX1_jump) := goodIn_app (goodIn_of _ (by decide +kernel)) ggX3_place_X1_jump
theorem dX3_place_0 : decode cX3_place 0 = .ok (.aload_n 0, 1) := by decide +kernel
theorem dX3_place_1 : decode cX3_place 1 = .ok (.getfield 23, 3) := by decide +kernel
theorem dX3_place_4 : decode cX3_place 4 = .ok (.getfield 69, 3) := by decide +kernel
theorem dX3_place_7 : decode cX3_place 7 = .ok (.iload_n 1, 1) := by decide +kernel
theorem dX3_place_8 : decode cX3_place 8 = .ok (.invokevirtual 115, 3) := by decide +kernel
theorem dX3_place_11 : decode cX3_place 11 = .ok (.ifCond .ne 5, 3) := by decide +kernel
theorem dX3_place_14 : decode cX3_place 14 = .ok (.iconst (-1), 1) := by decide +kernel
theorem dX3_place_15 : decode cX3_place 15 = .ok (.ireturn, 1) := by decide +kernel
theorem dX3_place_16 : decode cX3_place 16 = .ok (.aload_n 0, 1) := by decide +kernel
theorem dX3_place_17 : decode cX3_place 17 = .ok (.invokevirtual 66, 3) := by decide +kernel
theorem dX3_place_20 : decode cX3_place 20 = .ok (.aload_n 0, 1) := by decide +kernel
theorem dX3_place_21 : decode cX3_place 21 = .ok (.getfield 23, 3) := by decide +kernel
theorem dX3_place_24 : decode cX3_place 24 = .ok (.getfield 100, 3) := by decide +kernel
theorem dX3_place_27 : decode cX3_place 27 = .ok (.istore_n 2, 1) := by decide +kernel
theorem dX3_place_28 : decode cX3_place 28 = .ok (.aload_n 0, 1) := by decide +kernel
theorem dX3_place_29 : decode cX3_place 29 = .ok (.getfield 23, 3) := by decide +kernel
theorem dX3_place_32 : decode cX3_place 32 = .ok (.iload_n 1, 1) := by decide +kernel
theorem dX3_place_33 : decode cX3_place 33 = .ok (.invokevirtual 118, 3) := by decide +kernel
theorem dX3_place_36 : decode cX3_place 36 = .ok (.iload_n 2, 1) := by decide +kernel
theorem dX3_place_37 : decode cX3_place 37 = .ok (.ireturn, 1) := by decide +kernel
set_option maxRecDepth 20000 in
theorem ggX3_undo_X3_stateAt : GoodIn wsX3_undo wsX3_stateAt := goodIn_r _ [8, 9, 62, 63, 64, 65, 66, 67, 68, 69, 70, 71, 72] (by decide +kernel) (by decide +kernel)
set_option maxRecDepth 20000 in
theorem gX3_undo_X3_stateAt : GoodIn wsX3_undo (wsV RX3 124 RX3 yX3_stateAt wsX3_stateAt) := goodIn_app (goodIn_of _ (by decide +kernel)) ggX3_undo_X3_stateAt
set_option maxRecDepth 20000 in
theorem ggX3_undo_X1_become : GoodIn wsX3_undo wsX1_become := goodIn_r _ [14, 15, 16, 17, 18, 19, 20, 21, 22, 23, 24, 25, 26, 27, 28, 29, 30, 7, 31, 32, 33, 34, 35, 36, 37, 38, 39, 40, 41, 42, 43, 44, 45, 46, 47, 48, 49, 50, 51, 52, 53, 54, 55, 56, 57, 58, 59, 60, 61, 73, 74, 75, 76, 77, 78, 79, 80, 81, 82, 83, 84, 85, 86, 87, 88, 89, 90, 91, 92, 93, 94, 95, 96, 97, 98, 99] (by decide +kernel) (by decide +kernel)
set_option maxRecDepth 20000 in
theorem gX3_undo_X1_become : GoodIn wsX3_undo (wsV RX3 128 RX1 yX1_become wsX1_become) := goodIn_app (goodIn_of _ (by decide +kernel)) ggX3_undo_X1_become
theorem dX3_undo_0 : decode cX3_undo 0 = .ok (.aload_n 0, 1) := by decide +kernel
theorem dX3_undo_1 : decode cX3_undo 1 = .ok (.getfield 121, 3) := by decide +kernel
theorem dX3_undo_4 : decode cX3_undo 4 = .ok (.iconst 1, 1) := by decide +kernel
theorem dX3_undo_5 : decode cX3_undo 5 = .ok (.if_icmp .ge 6, 3) := by decide +kernel
theorem dX3_undo_8 : decode cX3_undo 8 = .ok (.bipush (-2), 2) := by decide +kernel
theorem dX3_undo_10 : decode cX3_undo 10 = .ok (.ireturn, 1) := by decide +kernel
theorem dX3_undo_11 : decode cX3_undo 11 = .ok (.aload_n 0, 1) := by decide +kernel
theorem dX3_undo_12 : decode cX3_undo 12 = .ok (.dup, 1) := by decide +kernel
theorem dX3_undo_13 : decode cX3_undo 13 = .ok (.getfield 121, 3) := by decide +kernel
theorem dX3_undo_16 : decode cX3_undo 16 = .ok (.iconst 1, 1) := by decide +kernel
theorem dX3_undo_17 : decode cX3_undo 17 = .ok (.isub, 1) := by decide +kernel
theorem dX3_undo_18 : decode cX3_undo 18 = .ok (.putfield 121, 3) := by decide +kernel
theorem dX3_undo_21 : decode cX3_undo 21 = .ok (.aload_n 0, 1) := by decide +kernel
theorem dX3_undo_22 : decode cX3_undo 22 = .ok (.getfield 23, 3) := by decide +kernel
theorem dX3_undo_25 : decode cX3_undo 25 = .ok (.aload_n 0, 1) := by decide +kernel
theorem dX3_undo_26 : decode cX3_undo 26 = .ok (.aload_n 0, 1) := by decide +kernel
theorem dX3_undo_27 : decode cX3_undo 27 = .ok (.getfield 30, 3) := by decide +kernel
theorem dX3_undo_30 : decode cX3_undo 30 = .ok (.aload_n 0, 1) := by decide +kernel
theorem dX3_undo_31 : decode cX3_undo 31 = .ok (.getfield 121, 3) := by decide +kernel
theorem dX3_undo_34 : decode cX3_undo 34 = .ok (.invokevirtual 124, 3) := by decide +kernel
theorem dX3_undo_37 : decode cX3_undo 37 = .ok (.invokevirtual 128, 3) := by decide +kernel
theorem dX3_undo_40 : decode cX3_undo 40 = .ok (.aload_n 0, 1) := by decide +kernel
theorem dX3_undo_41 : decode cX3_undo 41 = .ok (.getfield 121, 3) := by decide +kernel
theorem dX3_undo_44 : decode cX3_undo 44 = .ok (.ireturn, 1) := by decide +kernel
set_option maxRecDepth 20000 in
theorem ggX3_write_X3_put : GoodIn wsX3_write wsX3_put := goodIn_r _ [6] (by decide +kernel) (by decide +kernel)
set_option maxRecDepth 20000 in
theorem gX3_write_X3_put : GoodIn wsX3_write (va_wsS RX3 135 yX3_put wsX3_put) := goodIn_app (goodIn_of _ (by decide +kernel)) ggX3_write_X3_put
theorem dX3_write_0 : decode cX3_write 0 = .ok (.iload_n 1, 1) := by decide +kernel
theorem dX3_write_1 : decode cX3_write 1 = .ok (.bipush 32, 2) := by decide +kernel
theorem dX3_write_3 : decode cX3_write 3 = .ok (.if_icmp .lt 9, 3) := by decide +kernel
theorem dX3_write_6 : decode cX3_write 6 = .ok (.iload_n 1, 1) := by decide +kernel
theorem dX3_write_7 : decode cX3_write 7 = .ok (.bipush 126, 2) := by decide +kernel
theorem dX3_write_9 : decode cX3_write 9 = .ok (.if_icmp .le 5, 3) := by decide +kernel
theorem dX3_write_12 : decode cX3_write 12 = .ok (.iconst (-1), 1) := by decide +kernel
theorem dX3_write_13 : decode cX3_write 13 = .ok (.ireturn, 1) := by decide +kernel
theorem dX3_write_14 : decode cX3_write 14 = .ok (.aload_n 0, 1) := by decide +kernel
theorem dX3_write_15 : decode cX3_write 15 = .ok (.getfield 132, 3) := by decide +kernel
theorem dX3_write_18 : decode cX3_write 18 = .ok (.sipush 140, 3) := by decide +kernel
theorem dX3_write_21 : decode cX3_write 21 = .ok (.if_icmp .lt 6, 3) := by decide +kernel
theorem dX3_write_24 : decode cX3_write 24 = .ok (.bipush (-3), 2) := by decide +kernel
theorem dX3_write_26 : decode cX3_write 26 = .ok (.ireturn, 1) := by decide +kernel
theorem dX3_write_27 : decode cX3_write 27 = .ok (.aload_n 0, 1) := by decide +kernel
theorem dX3_write_28 : decode cX3_write 28 = .ok (.getfield 9, 3) := by decide +kernel
theorem dX3_write_31 : decode cX3_write 31 = .ok (.aload_n 0, 1) := by decide +kernel
theorem dX3_write_32 : decode cX3_write 32 = .ok (.getfield 132, 3) := by decide +kernel
theorem dX3_write_35 : decode cX3_write 35 = .ok (.iload_n 1, 1) := by decide +kernel
theorem dX3_write_36 : decode cX3_write 36 = .ok (.invokestatic 135, 3) := by decide +kernel
theorem dX3_write_39 : decode cX3_write 39 = .ok (.aload_n 0, 1) := by decide +kernel
theorem dX3_write_40 : decode cX3_write 40 = .ok (.dup, 1) := by decide +kernel
theorem dX3_write_41 : decode cX3_write 41 = .ok (.getfield 132, 3) := by decide +kernel
theorem dX3_write_44 : decode cX3_write 44 = .ok (.iconst 1, 1) := by decide +kernel
theorem dX3_write_45 : decode cX3_write 45 = .ok (.iadd, 1) := by decide +kernel
theorem dX3_write_46 : decode cX3_write 46 = .ok (.putfield 132, 3) := by decide +kernel
theorem dX3_write_49 : decode cX3_write 49 = .ok (.aload_n 0, 1) := by decide +kernel
theorem dX3_write_50 : decode cX3_write 50 = .ok (.getfield 132, 3) := by decide +kernel
theorem dX3_write_53 : decode cX3_write 53 = .ok (.ireturn, 1) := by decide +kernel
theorem dX3_wipe_0 : decode cX3_wipe 0 = .ok (.aload_n 0, 1) := by decide +kernel
theorem dX3_wipe_1 : decode cX3_wipe 1 = .ok (.getfield 132, 3) := by decide +kernel
theorem dX3_wipe_4 : decode cX3_wipe 4 = .ok (.istore_n 1, 1) := by decide +kernel
theorem dX3_wipe_5 : decode cX3_wipe 5 = .ok (.aload_n 0, 1) := by decide +kernel
theorem dX3_wipe_6 : decode cX3_wipe 6 = .ok (.iconst 0, 1) := by decide +kernel
theorem dX3_wipe_7 : decode cX3_wipe 7 = .ok (.putfield 132, 3) := by decide +kernel
theorem dX3_wipe_10 : decode cX3_wipe 10 = .ok (.iload_n 1, 1) := by decide +kernel
theorem dX3_wipe_11 : decode cX3_wipe 11 = .ok (.ireturn, 1) := by decide +kernel
theorem dX3_fault_0 : decode cX3_fault 0 = .ok (.iload_n 1, 1) := by decide +kernel
theorem dX3_fault_1 : decode cX3_fault 1 = .ok (.ifCond .lt 8, 3) := by decide +kernel
theorem dX3_fault_4 : decode cX3_fault 4 = .ok (.iload_n 1, 1) := by decide +kernel
theorem dX3_fault_5 : decode cX3_fault 5 = .ok (.iconst 1, 1) := by decide +kernel
theorem dX3_fault_6 : decode cX3_fault 6 = .ok (.if_icmp .le 5, 3) := by decide +kernel
theorem dX3_fault_9 : decode cX3_fault 9 = .ok (.iconst (-1), 1) := by decide +kernel
theorem dX3_fault_10 : decode cX3_fault 10 = .ok (.ireturn, 1) := by decide +kernel
theorem dX3_fault_11 : decode cX3_fault 11 = .ok (.aload_n 0, 1) := by decide +kernel
theorem dX3_fault_12 : decode cX3_fault 12 = .ok (.getfield 139, 3) := by decide +kernel
theorem dX3_fault_15 : decode cX3_fault 15 = .ok (.ifCond .ne 6, 3) := by decide +kernel
theorem dX3_fault_18 : decode cX3_fault 18 = .ok (.bipush (-9), 2) := by decide +kernel
theorem dX3_fault_20 : decode cX3_fault 20 = .ok (.ireturn, 1) := by decide +kernel
theorem dX3_fault_21 : decode cX3_fault 21 = .ok (.iload_n 1, 1) := by decide +kernel
theorem dX3_fault_22 : decode cX3_fault 22 = .ok (.ifCond .ne 10, 3) := by decide +kernel
theorem dX3_fault_25 : decode cX3_fault 25 = .ok (.aload_n 0, 1) := by decide +kernel
theorem dX3_fault_26 : decode cX3_fault 26 = .ok (.getfield 139, 3) := by decide +kernel
theorem dX3_fault_29 : decode cX3_fault 29 = .ok (.goto 7, 3) := by decide +kernel
theorem dX3_fault_32 : decode cX3_fault 32 = .ok (.aload_n 0, 1) := by decide +kernel
theorem dX3_fault_33 : decode cX3_fault 33 = .ok (.getfield 142, 3) := by decide +kernel
theorem dX3_fault_36 : decode cX3_fault 36 = .ok (.ireturn, 1) := by decide +kernel
set_option maxRecDepth 20000 in
theorem ggX3_told_X0_cueCount : GoodIn wsX3_told wsX0_cueCount := goodIn_r _ [23, 24, 25, 26, 27, 28, 108, 109, 110, 111, 112, 113, 114, 115, 116] (by decide +kernel) (by decide +kernel)
set_option maxRecDepth 20000 in
theorem gX3_told_X0_cueCount : GoodIn wsX3_told (wsV RX3 151 RX0 yX0_cueCount wsX0_cueCount) := goodIn_app (goodIn_of _ (by decide +kernel)) ggX3_told_X0_cueCount
set_option maxRecDepth 20000 in
theorem ggX3_told_X1_estimatedWord : GoodIn wsX3_told wsX1_estimatedWord := goodIn_r _ [33, 34, 35, 36, 32, 37, 38, 39, 40, 41, 42, 22, 43, 24, 25, 26, 27, 28, 44, 45, 46, 47, 48, 49, 50, 51, 52, 53, 54, 55, 56, 57, 58, 59, 60, 93, 94, 95, 96, 97, 98, 99, 100, 101, 102, 103, 104, 105, 106, 107, 108, 109, 110, 111, 112, 113, 114, 115, 116] (by decide +kernel) (by decide +kernel)
set_option maxRecDepth 20000 in
theorem gX3_told_X1_estimatedWord : GoodIn wsX3_told (wsV RX3 160 RX1 yX1_estimatedWord wsX1_estimatedWord) := goodIn_app (goodIn_of _ (by decide +kernel)) ggX3_told_X1_estimatedWord
set_option maxRecDepth 20000 in
theorem ggX3_told_X1_desiredTop : GoodIn wsX3_told wsX1_desiredTop := goodIn_r _ [64, 50, 65, 66, 56, 67, 38, 68, 26, 27, 28, 69, 70, 71, 32, 72, 73, 74, 75, 76, 77, 78, 79, 80, 93, 94, 95, 96, 97, 98, 99, 100, 101, 102, 103, 104, 105, 106, 107, 108, 109, 110, 111, 112, 113, 114, 115, 116] (by decide +kernel) (by decide +kernel)
set_option maxRecDepth 20000 in
theorem gX3_told_X1_desiredTop : GoodIn wsX3_told (wsV RX3 166 RX1 yX1_desiredTop wsX1_desiredTop) := goodIn_app (goodIn_of _ (by decide +kernel)) ggX3_told_X1_desiredTop
set_option maxRecDepth 20000 in
theorem ggX3_told_X0_nextCue : GoodIn wsX3_told wsX0_nextCue := goodIn_r _ [43, 24, 25, 26, 27, 28, 108, 109, 110, 111, 112, 113, 114, 115, 116] (by decide +kernel) (by decide +kernel)
set_option maxRecDepth 20000 in
theorem gX3_told_X0_nextCue : GoodIn wsX3_told (wsV RX3 107 RX0 yX0_nextCue wsX0_nextCue) := goodIn_app (goodIn_of _ (by decide +kernel)) ggX3_told_X0_nextCue
theorem dX3_told_0 : decode cX3_told 0 = .ok (.iload_n 1, 1) := by decide +kernel
theorem dX3_told_1 : decode cX3_told 1 = .ok (.tableswitch 265 0 18 #[91, 102, 113, 124, 135, 143, 151, 159, 167, 175, 190, 198, 206, 214, 222, 230, 241, 252, 260], 91) := by decide +kernel
theorem dX3_told_92 : decode cX3_told 92 = .ok (.aload_n 0, 1) := by decide +kernel
theorem dX3_told_93 : decode cX3_told 93 = .ok (.getfield 23, 3) := by decide +kernel
theorem dX3_told_96 : decode cX3_told 96 = .ok (.getfield 69, 3) := by decide +kernel
theorem dX3_told_99 : decode cX3_told 99 = .ok (.getfield 72, 3) := by decide +kernel
theorem dX3_told_102 : decode cX3_told 102 = .ok (.ireturn, 1) := by decide +kernel
theorem dX3_told_103 : decode cX3_told 103 = .ok (.aload_n 0, 1) := by decide +kernel
theorem dX3_told_104 : decode cX3_told 104 = .ok (.getfield 23, 3) := by decide +kernel
theorem dX3_told_107 : decode cX3_told 107 = .ok (.getfield 69, 3) := by decide +kernel
theorem dX3_told_110 : decode cX3_told 110 = .ok (.getfield 145, 3) := by decide +kernel
theorem dX3_told_113 : decode cX3_told 113 = .ok (.ireturn, 1) := by decide +kernel
theorem dX3_told_114 : decode cX3_told 114 = .ok (.aload_n 0, 1) := by decide +kernel
theorem dX3_told_115 : decode cX3_told 115 = .ok (.getfield 23, 3) := by decide +kernel
theorem dX3_told_118 : decode cX3_told 118 = .ok (.getfield 69, 3) := by decide +kernel
theorem dX3_told_121 : decode cX3_told 121 = .ok (.getfield 148, 3) := by decide +kernel
theorem dX3_told_124 : decode cX3_told 124 = .ok (.ireturn, 1) := by decide +kernel
theorem dX3_told_125 : decode cX3_told 125 = .ok (.aload_n 0, 1) := by decide +kernel
theorem dX3_told_126 : decode cX3_told 126 = .ok (.getfield 23, 3) := by decide +kernel
theorem dX3_told_129 : decode cX3_told 129 = .ok (.getfield 69, 3) := by decide +kernel
theorem dX3_told_132 : decode cX3_told 132 = .ok (.invokevirtual 151, 3) := by decide +kernel
theorem dX3_told_135 : decode cX3_told 135 = .ok (.ireturn, 1) := by decide +kernel
theorem dX3_told_136 : decode cX3_told 136 = .ok (.aload_n 0, 1) := by decide +kernel
theorem dX3_told_137 : decode cX3_told 137 = .ok (.getfield 23, 3) := by decide +kernel
theorem dX3_told_140 : decode cX3_told 140 = .ok (.getfield 154, 3) := by decide +kernel
theorem dX3_told_143 : decode cX3_told 143 = .ok (.ireturn, 1) := by decide +kernel
theorem dX3_told_144 : decode cX3_told 144 = .ok (.aload_n 0, 1) := by decide +kernel
theorem dX3_told_145 : decode cX3_told 145 = .ok (.getfield 23, 3) := by decide +kernel
theorem dX3_told_148 : decode cX3_told 148 = .ok (.getfield 100, 3) := by decide +kernel
theorem dX3_told_151 : decode cX3_told 151 = .ok (.ireturn, 1) := by decide +kernel
theorem dX3_told_152 : decode cX3_told 152 = .ok (.aload_n 0, 1) := by decide +kernel
theorem dX3_told_153 : decode cX3_told 153 = .ok (.getfield 23, 3) := by decide +kernel
theorem dX3_told_156 : decode cX3_told 156 = .ok (.getfield 157, 3) := by decide +kernel
theorem dX3_told_159 : decode cX3_told 159 = .ok (.ireturn, 1) := by decide +kernel
theorem dX3_told_160 : decode cX3_told 160 = .ok (.aload_n 0, 1) := by decide +kernel
theorem dX3_told_161 : decode cX3_told 161 = .ok (.getfield 23, 3) := by decide +kernel
theorem dX3_told_164 : decode cX3_told 164 = .ok (.invokevirtual 160, 3) := by decide +kernel
theorem dX3_told_167 : decode cX3_told 167 = .ok (.ireturn, 1) := by decide +kernel
theorem dX3_told_168 : decode cX3_told 168 = .ok (.aload_n 0, 1) := by decide +kernel
theorem dX3_told_169 : decode cX3_told 169 = .ok (.getfield 23, 3) := by decide +kernel
theorem dX3_told_172 : decode cX3_told 172 = .ok (.getfield 163, 3) := by decide +kernel
theorem dX3_told_175 : decode cX3_told 175 = .ok (.ireturn, 1) := by decide +kernel
theorem dX3_told_176 : decode cX3_told 176 = .ok (.aload_n 0, 1) := by decide +kernel
theorem dX3_told_177 : decode cX3_told 177 = .ok (.getfield 23, 3) := by decide +kernel
theorem dX3_told_180 : decode cX3_told 180 = .ok (.aload_n 0, 1) := by decide +kernel
theorem dX3_told_181 : decode cX3_told 181 = .ok (.getfield 23, 3) := by decide +kernel
theorem dX3_told_184 : decode cX3_told 184 = .ok (.invokevirtual 160, 3) := by decide +kernel
theorem dX3_told_187 : decode cX3_told 187 = .ok (.invokevirtual 166, 3) := by decide +kernel
theorem dX3_told_190 : decode cX3_told 190 = .ok (.ireturn, 1) := by decide +kernel
theorem dX3_told_191 : decode cX3_told 191 = .ok (.aload_n 0, 1) := by decide +kernel
theorem dX3_told_192 : decode cX3_told 192 = .ok (.getfield 23, 3) := by decide +kernel
theorem dX3_told_195 : decode cX3_told 195 = .ok (.getfield 169, 3) := by decide +kernel
theorem dX3_told_198 : decode cX3_told 198 = .ok (.ireturn, 1) := by decide +kernel
theorem dX3_told_199 : decode cX3_told 199 = .ok (.aload_n 0, 1) := by decide +kernel
theorem dX3_told_200 : decode cX3_told 200 = .ok (.getfield 23, 3) := by decide +kernel
theorem dX3_told_203 : decode cX3_told 203 = .ok (.getfield 172, 3) := by decide +kernel
theorem dX3_told_206 : decode cX3_told 206 = .ok (.ireturn, 1) := by decide +kernel
theorem dX3_told_207 : decode cX3_told 207 = .ok (.aload_n 0, 1) := by decide +kernel
theorem dX3_told_208 : decode cX3_told 208 = .ok (.getfield 23, 3) := by decide +kernel
theorem dX3_told_211 : decode cX3_told 211 = .ok (.getfield 175, 3) := by decide +kernel
theorem dX3_told_214 : decode cX3_told 214 = .ok (.ireturn, 1) := by decide +kernel
theorem dX3_told_215 : decode cX3_told 215 = .ok (.aload_n 0, 1) := by decide +kernel
theorem dX3_told_216 : decode cX3_told 216 = .ok (.getfield 23, 3) := by decide +kernel
theorem dX3_told_219 : decode cX3_told 219 = .ok (.getfield 178, 3) := by decide +kernel
theorem dX3_told_222 : decode cX3_told 222 = .ok (.ireturn, 1) := by decide +kernel
theorem dX3_told_223 : decode cX3_told 223 = .ok (.aload_n 0, 1) := by decide +kernel
theorem dX3_told_224 : decode cX3_told 224 = .ok (.getfield 23, 3) := by decide +kernel
theorem dX3_told_227 : decode cX3_told 227 = .ok (.getfield 181, 3) := by decide +kernel
theorem dX3_told_230 : decode cX3_told 230 = .ok (.ireturn, 1) := by decide +kernel
theorem dX3_told_231 : decode cX3_told 231 = .ok (.aload_n 0, 1) := by decide +kernel
theorem dX3_told_232 : decode cX3_told 232 = .ok (.getfield 23, 3) := by decide +kernel
theorem dX3_told_235 : decode cX3_told 235 = .ok (.getfield 184, 3) := by decide +kernel
theorem dX3_told_238 : decode cX3_told 238 = .ok (.getfield 188, 3) := by decide +kernel
theorem dX3_told_241 : decode cX3_told 241 = .ok (.ireturn, 1) := by decide +kernel
theorem dX3_told_242 : decode cX3_told 242 = .ok (.aload_n 0, 1) := by decide +kernel
theorem dX3_told_243 : decode cX3_told 243 = .ok (.getfield 23, 3) := by decide +kernel
theorem dX3_told_246 : decode cX3_told 246 = .ok (.getfield 69, 3) := by decide +kernel
theorem dX3_told_249 : decode cX3_told 249 = .ok (.invokevirtual 107, 3) := by decide +kernel
theorem dX3_told_252 : decode cX3_told 252 = .ok (.ireturn, 1) := by decide +kernel
theorem dX3_told_253 : decode cX3_told 253 = .ok (.aload_n 0, 1) := by decide +kernel
theorem dX3_told_254 : decode cX3_told 254 = .ok (.getfield 23, 3) := by decide +kernel
theorem dX3_told_257 : decode cX3_told 257 = .ok (.getfield 193, 3) := by decide +kernel
theorem dX3_told_260 : decode cX3_told 260 = .ok (.ireturn, 1) := by decide +kernel
theorem dX3_told_261 : decode cX3_told 261 = .ok (.aload_n 0, 1) := by decide +kernel
theorem dX3_told_262 : decode cX3_told 262 = .ok (.getfield 121, 3) := by decide +kernel
theorem dX3_told_265 : decode cX3_told 265 = .ok (.ireturn, 1) := by decide +kernel
theorem dX3_told_266 : decode cX3_told 266 = .ok (.iconst (-1), 1) := by decide +kernel
theorem dX3_told_267 : decode cX3_told 267 = .ok (.ireturn, 1) := by decide +kernel
set_option maxRecDepth 20000 in
theorem ggX3_setting_X3_isSetting : GoodIn wsX3_setting wsX3_isSetting := goodIn_r _ [6] (by decide +kernel) (by decide +kernel)
set_option maxRecDepth 20000 in
theorem gX3_setting_X3_isSetting : GoodIn wsX3_setting (va_wsS RX3 76 yX3_isSetting wsX3_isSetting) := goodIn_app (goodIn_of _ (by decide +kernel)) ggX3_setting_X3_isSetting
set_option maxRecDepth 20000 in
theorem ggX3_setting_X3_at : GoodIn wsX3_setting wsX3_at := goodIn_r _ [9] (by decide +kernel) (by decide +kernel)
set_option maxRecDepth 20000 in
theorem gX3_setting_X3_at : GoodIn wsX3_setting (va_wsS RX3 83 yX3_at wsX3_at) := goodIn_app (goodIn_of _ (by decide +kernel)) ggX3_setting_X3_at
theorem dX3_setting_0 : decode cX3_setting 0 = .ok (.iload_n 1, 1) := by decide +kernel
theorem dX3_setting_1 : decode cX3_setting 1 = .ok (.invokestatic 76, 3) := by decide +kernel
theorem dX3_setting_4 : decode cX3_setting 4 = .ok (.ifCond .eq 17, 3) := by decide +kernel
theorem dX3_setting_7 : decode cX3_setting 7 = .ok (.aload_n 0, 1) := by decide +kernel
theorem dX3_setting_8 : decode cX3_setting 8 = .ok (.getfield 23, 3) := by decide +kernel
theorem dX3_setting_11 : decode cX3_setting 11 = .ok (.getfield 44, 3) := by decide +kernel
theorem dX3_setting_14 : decode cX3_setting 14 = .ok (.iload_n 1, 1) := by decide +kernel
theorem dX3_setting_15 : decode cX3_setting 15 = .ok (.invokestatic 83, 3) := by decide +kernel
theorem dX3_setting_18 : decode cX3_setting 18 = .ok (.goto 4, 3) := by decide +kernel
theorem dX3_setting_21 : decode cX3_setting 21 = .ok (.iconst (-1), 1) := by decide +kernel
theorem dX3_setting_22 : decode cX3_setting 22 = .ok (.ireturn, 1) := by decide +kernel
set_option maxRecDepth 20000 in
theorem ggX3_word_X0_has : GoodIn wsX3_word wsX0_has := goodIn_r _ [11, 12, 54, 55, 56, 57, 58, 59, 60, 61, 62] (by decide +kernel) (by decide +kernel)
set_option maxRecDepth 20000 in
theorem gX3_word_X0_has : GoodIn wsX3_word (wsV RX3 115 RX0 yX0_has wsX0_has) := goodIn_app (goodIn_of _ (by decide +kernel)) ggX3_word_X0_has
set_option maxRecDepth 20000 in
theorem ggX3_word_X3_at : GoodIn wsX3_word wsX3_at := goodIn_r _ [16] (by decide +kernel) (by decide +kernel)
set_option maxRecDepth 20000 in
theorem gX3_word_X3_at : GoodIn wsX3_word (va_wsS RX3 83 yX3_at wsX3_at) := goodIn_app (goodIn_of _ (by decide +kernel)) ggX3_word_X3_at
set_option maxRecDepth 20000 in
theorem ggX3_word_X1_shows : GoodIn wsX3_word wsX1_shows := goodIn_r _ [21, 22, 23, 24, 25, 20, 26, 27, 14, 15, 16, 39, 40, 41, 42, 43, 44, 45, 46, 47, 48, 49, 50, 51, 52, 53] (by decide +kernel) (by decide +kernel)
set_option maxRecDepth 20000 in
theorem gX3_word_X1_shows : GoodIn wsX3_word (wsV RX3 208 RX1 yX1_shows wsX1_shows) := goodIn_app (goodIn_of _ (by decide +kernel)) ggX3_word_X1_shows
theorem dX3_word_0 : decode cX3_word 0 = .ok (.aload_n 0, 1) := by decide +kernel
theorem dX3_word_1 : decode cX3_word 1 = .ok (.getfield 23, 3) := by decide +kernel
theorem dX3_word_4 : decode cX3_word 4 = .ok (.getfield 69, 3) := by decide +kernel
theorem dX3_word_7 : decode cX3_word 7 = .ok (.astore_n 3, 1) := by decide +kernel
theorem dX3_word_8 : decode cX3_word 8 = .ok (.aload_n 3, 1) := by decide +kernel
theorem dX3_word_9 : decode cX3_word 9 = .ok (.iload_n 1, 1) := by decide +kernel
theorem dX3_word_10 : decode cX3_word 10 = .ok (.invokevirtual 115, 3) := by decide +kernel
theorem dX3_word_13 : decode cX3_word 13 = .ok (.ifCond .ne 5, 3) := by decide +kernel
theorem dX3_word_16 : decode cX3_word 16 = .ok (.iconst (-1), 1) := by decide +kernel
theorem dX3_word_17 : decode cX3_word 17 = .ok (.ireturn, 1) := by decide +kernel
theorem dX3_word_18 : decode cX3_word 18 = .ok (.iload_n 2, 1) := by decide +kernel
theorem dX3_word_19 : decode cX3_word 19 = .ok (.tableswitch 93 0 4 #[33, 42, 51, 60, 69], 33) := by decide +kernel
theorem dX3_word_52 : decode cX3_word 52 = .ok (.aload_n 3, 1) := by decide +kernel
theorem dX3_word_53 : decode cX3_word 53 = .ok (.getfield 196, 3) := by decide +kernel
theorem dX3_word_56 : decode cX3_word 56 = .ok (.iload_n 1, 1) := by decide +kernel
theorem dX3_word_57 : decode cX3_word 57 = .ok (.invokestatic 83, 3) := by decide +kernel
theorem dX3_word_60 : decode cX3_word 60 = .ok (.ireturn, 1) := by decide +kernel
theorem dX3_word_61 : decode cX3_word 61 = .ok (.aload_n 3, 1) := by decide +kernel
theorem dX3_word_62 : decode cX3_word 62 = .ok (.getfield 199, 3) := by decide +kernel
theorem dX3_word_65 : decode cX3_word 65 = .ok (.iload_n 1, 1) := by decide +kernel
theorem dX3_word_66 : decode cX3_word 66 = .ok (.invokestatic 83, 3) := by decide +kernel
theorem dX3_word_69 : decode cX3_word 69 = .ok (.ireturn, 1) := by decide +kernel
theorem dX3_word_70 : decode cX3_word 70 = .ok (.aload_n 3, 1) := by decide +kernel
theorem dX3_word_71 : decode cX3_word 71 = .ok (.getfield 202, 3) := by decide +kernel
theorem dX3_word_74 : decode cX3_word 74 = .ok (.iload_n 1, 1) := by decide +kernel
theorem dX3_word_75 : decode cX3_word 75 = .ok (.invokestatic 83, 3) := by decide +kernel
theorem dX3_word_78 : decode cX3_word 78 = .ok (.ireturn, 1) := by decide +kernel
theorem dX3_word_79 : decode cX3_word 79 = .ok (.aload_n 3, 1) := by decide +kernel
theorem dX3_word_80 : decode cX3_word 80 = .ok (.getfield 205, 3) := by decide +kernel
theorem dX3_word_83 : decode cX3_word 83 = .ok (.iload_n 1, 1) := by decide +kernel
theorem dX3_word_84 : decode cX3_word 84 = .ok (.invokestatic 83, 3) := by decide +kernel
theorem dX3_word_87 : decode cX3_word 87 = .ok (.ireturn, 1) := by decide +kernel
theorem dX3_word_88 : decode cX3_word 88 = .ok (.aload_n 0, 1) := by decide +kernel
theorem dX3_word_89 : decode cX3_word 89 = .ok (.getfield 23, 3) := by decide +kernel
theorem dX3_word_92 : decode cX3_word 92 = .ok (.aload_n 3, 1) := by decide +kernel
theorem dX3_word_93 : decode cX3_word 93 = .ok (.getfield 199, 3) := by decide +kernel
theorem dX3_word_96 : decode cX3_word 96 = .ok (.iload_n 1, 1) := by decide +kernel
theorem dX3_word_97 : decode cX3_word 97 = .ok (.invokestatic 83, 3) := by decide +kernel
theorem dX3_word_100 : decode cX3_word 100 = .ok (.invokevirtual 208, 3) := by decide +kernel
theorem dX3_word_103 : decode cX3_word 103 = .ok (.ifCond .eq 7, 3) := by decide +kernel
theorem dX3_word_106 : decode cX3_word 106 = .ok (.iconst 1, 1) := by decide +kernel
theorem dX3_word_107 : decode cX3_word 107 = .ok (.goto 4, 3) := by decide +kernel
theorem dX3_word_110 : decode cX3_word 110 = .ok (.iconst 0, 1) := by decide +kernel
theorem dX3_word_111 : decode cX3_word 111 = .ok (.ireturn, 1) := by decide +kernel
theorem dX3_word_112 : decode cX3_word 112 = .ok (.iconst (-1), 1) := by decide +kernel
theorem dX3_word_113 : decode cX3_word 113 = .ok (.ireturn, 1) := by decide +kernel
set_option maxRecDepth 20000 in
theorem ggX3_row_X3_at : GoodIn wsX3_row wsX3_at := goodIn_r _ [8] (by decide +kernel) (by decide +kernel)
set_option maxRecDepth 20000 in
theorem gX3_row_X3_at : GoodIn wsX3_row (va_wsS RX3 83 yX3_at wsX3_at) := goodIn_app (goodIn_of _ (by decide +kernel)) ggX3_row_X3_at
set_option maxRecDepth 20000 in
theorem ggX3_row_X0_rowLength : GoodIn wsX3_row wsX0_rowLength := goodIn_r _ [13, 14, 15, 16, 6, 7, 8, 43, 44, 45, 46, 47, 48, 49, 50, 51] (by decide +kernel) (by decide +kernel)
set_option maxRecDepth 20000 in
theorem gX3_row_X0_rowLength : GoodIn wsX3_row (wsV RX3 214 RX0 yX0_rowLength wsX0_rowLength) := goodIn_app (goodIn_of _ (by decide +kernel)) ggX3_row_X0_rowLength
theorem dX3_row_0 : decode cX3_row 0 = .ok (.iload_n 1, 1) := by decide +kernel
theorem dX3_row_1 : decode cX3_row 1 = .ok (.ifCond .lt 26, 3) := by decide +kernel
theorem dX3_row_4 : decode cX3_row 4 = .ok (.iload_n 1, 1) := by decide +kernel
theorem dX3_row_5 : decode cX3_row 5 = .ok (.aload_n 0, 1) := by decide +kernel
theorem dX3_row_6 : decode cX3_row 6 = .ok (.getfield 23, 3) := by decide +kernel
theorem dX3_row_9 : decode cX3_row 9 = .ok (.getfield 69, 3) := by decide +kernel
theorem dX3_row_12 : decode cX3_row 12 = .ok (.getfield 145, 3) := by decide +kernel
theorem dX3_row_15 : decode cX3_row 15 = .ok (.if_icmp .ge 12, 3) := by decide +kernel
theorem dX3_row_18 : decode cX3_row 18 = .ok (.iload_n 2, 1) := by decide +kernel
theorem dX3_row_19 : decode cX3_row 19 = .ok (.ifCond .lt 8, 3) := by decide +kernel
theorem dX3_row_22 : decode cX3_row 22 = .ok (.iload_n 2, 1) := by decide +kernel
theorem dX3_row_23 : decode cX3_row 23 = .ok (.iconst 1, 1) := by decide +kernel
theorem dX3_row_24 : decode cX3_row 24 = .ok (.if_icmp .le 5, 3) := by decide +kernel
theorem dX3_row_27 : decode cX3_row 27 = .ok (.iconst (-1), 1) := by decide +kernel
theorem dX3_row_28 : decode cX3_row 28 = .ok (.ireturn, 1) := by decide +kernel
theorem dX3_row_29 : decode cX3_row 29 = .ok (.iload_n 2, 1) := by decide +kernel
theorem dX3_row_30 : decode cX3_row 30 = .ok (.ifCond .ne 20, 3) := by decide +kernel
theorem dX3_row_33 : decode cX3_row 33 = .ok (.aload_n 0, 1) := by decide +kernel
theorem dX3_row_34 : decode cX3_row 34 = .ok (.getfield 23, 3) := by decide +kernel
theorem dX3_row_37 : decode cX3_row 37 = .ok (.getfield 69, 3) := by decide +kernel
theorem dX3_row_40 : decode cX3_row 40 = .ok (.getfield 211, 3) := by decide +kernel
theorem dX3_row_43 : decode cX3_row 43 = .ok (.iload_n 1, 1) := by decide +kernel
theorem dX3_row_44 : decode cX3_row 44 = .ok (.invokestatic 83, 3) := by decide +kernel
theorem dX3_row_47 : decode cX3_row 47 = .ok (.goto 14, 3) := by decide +kernel
theorem dX3_row_50 : decode cX3_row 50 = .ok (.aload_n 0, 1) := by decide +kernel
theorem dX3_row_51 : decode cX3_row 51 = .ok (.getfield 23, 3) := by decide +kernel
theorem dX3_row_54 : decode cX3_row 54 = .ok (.getfield 69, 3) := by decide +kernel
theorem dX3_row_57 : decode cX3_row 57 = .ok (.iload_n 1, 1) := by decide +kernel
theorem dX3_row_58 : decode cX3_row 58 = .ok (.invokevirtual 214, 3) := by decide +kernel
theorem dX3_row_61 : decode cX3_row 61 = .ok (.ireturn, 1) := by decide +kernel
set_option maxRecDepth 20000 in
theorem ggX3_heard_X3_at : GoodIn wsX3_heard wsX3_at := goodIn_r _ [7] (by decide +kernel) (by decide +kernel)
set_option maxRecDepth 20000 in
theorem gX3_heard_X3_at : GoodIn wsX3_heard (va_wsS RX3 83 yX3_at wsX3_at) := goodIn_app (goodIn_of _ (by decide +kernel)) ggX3_heard_X3_at
theorem dX3_heard_0 : decode cX3_heard 0 = .ok (.iload_n 1, 1) := by decide +kernel
theorem dX3_heard_1 : decode cX3_heard 1 = .ok (.ifCond .ge 5, 3) := by decide +kernel
theorem dX3_heard_4 : decode cX3_heard 4 = .ok (.iconst (-1), 1) := by decide +kernel
theorem dX3_heard_5 : decode cX3_heard 5 = .ok (.ireturn, 1) := by decide +kernel
theorem dX3_heard_6 : decode cX3_heard 6 = .ok (.iload_n 1, 1) := by decide +kernel
theorem dX3_heard_7 : decode cX3_heard 7 = .ok (.aload_n 0, 1) := by decide +kernel
theorem dX3_heard_8 : decode cX3_heard 8 = .ok (.getfield 23, 3) := by decide +kernel
theorem dX3_heard_11 : decode cX3_heard 11 = .ok (.getfield 193, 3) := by decide +kernel
theorem dX3_heard_14 : decode cX3_heard 14 = .ok (.if_icmp .ge 17, 3) := by decide +kernel
theorem dX3_heard_17 : decode cX3_heard 17 = .ok (.aload_n 0, 1) := by decide +kernel
theorem dX3_heard_18 : decode cX3_heard 18 = .ok (.getfield 23, 3) := by decide +kernel
theorem dX3_heard_21 : decode cX3_heard 21 = .ok (.getfield 217, 3) := by decide +kernel
theorem dX3_heard_24 : decode cX3_heard 24 = .ok (.iload_n 1, 1) := by decide +kernel
theorem dX3_heard_25 : decode cX3_heard 25 = .ok (.invokestatic 83, 3) := by decide +kernel
theorem dX3_heard_28 : decode cX3_heard 28 = .ok (.goto 5, 3) := by decide +kernel
theorem dX3_heard_31 : decode cX3_heard 31 = .ok (.bipush (-9), 2) := by decide +kernel
theorem dX3_heard_33 : decode cX3_heard 33 = .ok (.ireturn, 1) := by decide +kernel
set_option maxRecDepth 20000 in
theorem ggX3_trail_X3_at : GoodIn wsX3_trail wsX3_at := goodIn_r _ [9] (by decide +kernel) (by decide +kernel)
set_option maxRecDepth 20000 in
theorem gX3_trail_X3_at : GoodIn wsX3_trail (va_wsS RX3 83 yX3_at wsX3_at) := goodIn_app (goodIn_of _ (by decide +kernel)) ggX3_trail_X3_at
theorem dX3_trail_0 : decode cX3_trail 0 = .ok (.iload_n 1, 1) := by decide +kernel
theorem dX3_trail_1 : decode cX3_trail 1 = .ok (.ifCond .lt 12, 3) := by decide +kernel
theorem dX3_trail_4 : decode cX3_trail 4 = .ok (.iload_n 2, 1) := by decide +kernel
theorem dX3_trail_5 : decode cX3_trail 5 = .ok (.ifCond .lt 8, 3) := by decide +kernel
theorem dX3_trail_8 : decode cX3_trail 8 = .ok (.iload_n 2, 1) := by decide +kernel
theorem dX3_trail_9 : decode cX3_trail 9 = .ok (.iconst 1, 1) := by decide +kernel
theorem dX3_trail_10 : decode cX3_trail 10 = .ok (.if_icmp .le 5, 3) := by decide +kernel
theorem dX3_trail_13 : decode cX3_trail 13 = .ok (.iconst (-1), 1) := by decide +kernel
theorem dX3_trail_14 : decode cX3_trail 14 = .ok (.ireturn, 1) := by decide +kernel
theorem dX3_trail_15 : decode cX3_trail 15 = .ok (.iload_n 1, 1) := by decide +kernel
theorem dX3_trail_16 : decode cX3_trail 16 = .ok (.aload_n 0, 1) := by decide +kernel
theorem dX3_trail_17 : decode cX3_trail 17 = .ok (.getfield 23, 3) := by decide +kernel
theorem dX3_trail_20 : decode cX3_trail 20 = .ok (.getfield 184, 3) := by decide +kernel
theorem dX3_trail_23 : decode cX3_trail 23 = .ok (.getfield 188, 3) := by decide +kernel
theorem dX3_trail_26 : decode cX3_trail 26 = .ok (.if_icmp .lt 6, 3) := by decide +kernel
theorem dX3_trail_29 : decode cX3_trail 29 = .ok (.bipush (-9), 2) := by decide +kernel
theorem dX3_trail_31 : decode cX3_trail 31 = .ok (.ireturn, 1) := by decide +kernel
theorem dX3_trail_32 : decode cX3_trail 32 = .ok (.iload_n 2, 1) := by decide +kernel
theorem dX3_trail_33 : decode cX3_trail 33 = .ok (.ifCond .ne 20, 3) := by decide +kernel
theorem dX3_trail_36 : decode cX3_trail 36 = .ok (.aload_n 0, 1) := by decide +kernel
theorem dX3_trail_37 : decode cX3_trail 37 = .ok (.getfield 23, 3) := by decide +kernel
theorem dX3_trail_40 : decode cX3_trail 40 = .ok (.getfield 184, 3) := by decide +kernel
theorem dX3_trail_43 : decode cX3_trail 43 = .ok (.getfield 220, 3) := by decide +kernel
theorem dX3_trail_46 : decode cX3_trail 46 = .ok (.iload_n 1, 1) := by decide +kernel
theorem dX3_trail_47 : decode cX3_trail 47 = .ok (.invokestatic 83, 3) := by decide +kernel
theorem dX3_trail_50 : decode cX3_trail 50 = .ok (.goto 17, 3) := by decide +kernel
theorem dX3_trail_53 : decode cX3_trail 53 = .ok (.aload_n 0, 1) := by decide +kernel
theorem dX3_trail_54 : decode cX3_trail 54 = .ok (.getfield 23, 3) := by decide +kernel
theorem dX3_trail_57 : decode cX3_trail 57 = .ok (.getfield 184, 3) := by decide +kernel
theorem dX3_trail_60 : decode cX3_trail 60 = .ok (.getfield 223, 3) := by decide +kernel
theorem dX3_trail_63 : decode cX3_trail 63 = .ok (.iload_n 1, 1) := by decide +kernel
theorem dX3_trail_64 : decode cX3_trail 64 = .ok (.invokestatic 83, 3) := by decide +kernel
theorem dX3_trail_67 : decode cX3_trail 67 = .ok (.ireturn, 1) := by decide +kernel
set_option maxRecDepth 20000 in
theorem ggX3_score_X0_has : GoodIn wsX3_score wsX0_has := goodIn_r _ [7, 8, 47, 48, 49, 50, 51, 52, 53, 54, 55] (by decide +kernel) (by decide +kernel)
set_option maxRecDepth 20000 in
theorem gX3_score_X0_has : GoodIn wsX3_score (wsV RX3 115 RX0 yX0_has wsX0_has) := goodIn_app (goodIn_of _ (by decide +kernel)) ggX3_score_X0_has
set_option maxRecDepth 20000 in
theorem ggX3_score_X1_points : GoodIn wsX3_score wsX1_points := goodIn_r _ [13, 14, 15, 16, 17, 18, 19, 20, 32, 33, 34, 35, 36, 37, 38, 39, 40, 41, 42, 43, 44, 45, 46, 47, 48, 49, 50, 51, 52, 53, 54, 55] (by decide +kernel) (by decide +kernel)
set_option maxRecDepth 20000 in
theorem gX3_score_X1_points : GoodIn wsX3_score (wsV RX3 226 RX1 yX1_points wsX1_points) := goodIn_app (goodIn_of _ (by decide +kernel)) ggX3_score_X1_points
theorem dX3_score_0 : decode cX3_score 0 = .ok (.aload_n 0, 1) := by decide +kernel
theorem dX3_score_1 : decode cX3_score 1 = .ok (.getfield 23, 3) := by decide +kernel
theorem dX3_score_4 : decode cX3_score 4 = .ok (.getfield 69, 3) := by decide +kernel
theorem dX3_score_7 : decode cX3_score 7 = .ok (.iload_n 1, 1) := by decide +kernel
theorem dX3_score_8 : decode cX3_score 8 = .ok (.invokevirtual 115, 3) := by decide +kernel
theorem dX3_score_11 : decode cX3_score 11 = .ok (.ifCond .eq 14, 3) := by decide +kernel
theorem dX3_score_14 : decode cX3_score 14 = .ok (.aload_n 0, 1) := by decide +kernel
theorem dX3_score_15 : decode cX3_score 15 = .ok (.getfield 23, 3) := by decide +kernel
theorem dX3_score_18 : decode cX3_score 18 = .ok (.iload_n 1, 1) := by decide +kernel
theorem dX3_score_19 : decode cX3_score 19 = .ok (.invokevirtual 226, 3) := by decide +kernel
theorem dX3_score_22 : decode cX3_score 22 = .ok (.goto 4, 3) := by decide +kernel
theorem dX3_score_25 : decode cX3_score 25 = .ok (.iconst (-1), 1) := by decide +kernel
theorem dX3_score_26 : decode cX3_score 26 = .ok (.ireturn, 1) := by decide +kernel
set_option maxRecDepth 20000 in
theorem ggX3_best_X3_isLetter : GoodIn wsX3_best wsX3_isLetter := goodIn_r _ [5] (by decide +kernel) (by decide +kernel)
set_option maxRecDepth 20000 in
theorem gX3_best_X3_isLetter : GoodIn wsX3_best (va_wsS RX3 94 yX3_isLetter wsX3_isLetter) := goodIn_app (goodIn_of _ (by decide +kernel)) ggX3_best_X3_isLetter
set_option maxRecDepth 20000 in
theorem ggX3_best_X1_bestCandidate : GoodIn wsX3_best wsX1_bestCandidate := goodIn_r _ [10, 11, 12, 13, 14, 15, 16, 17, 18, 19, 20, 21, 22, 23, 4, 24, 25, 26, 27, 9, 28, 29, 30, 31, 32, 33, 34, 35, 36, 37, 54, 55, 56, 57, 58, 59, 60, 61, 62, 63, 64, 65, 66, 67, 68, 69, 70, 71, 72, 73, 74, 75, 76, 77] (by decide +kernel) (by decide +kernel)
set_option maxRecDepth 20000 in
theorem gX3_best_X1_bestCandidate : GoodIn wsX3_best (wsV RX3 229 RX1 yX1_bestCandidate wsX1_bestCandidate) := goodIn_app (goodIn_of _ (by decide +kernel)) ggX3_best_X1_bestCandidate
set_option maxRecDepth 20000 in
theorem ggX3_best_X1_points : GoodIn wsX3_best wsX1_points := goodIn_r _ [35, 36, 37, 17, 22, 23, 4, 24, 54, 55, 56, 57, 58, 59, 60, 61, 62, 63, 64, 65, 66, 67, 68, 69, 70, 71, 72, 73, 74, 75, 76, 77] (by decide +kernel) (by decide +kernel)
set_option maxRecDepth 20000 in
theorem gX3_best_X1_points : GoodIn wsX3_best (wsV RX3 226 RX1 yX1_points wsX1_points) := goodIn_app (goodIn_of _ (by decide +kernel)) ggX3_best_X1_points
set_option maxRecDepth 20000 in
theorem ggX3_best_X1_accepts : GoodIn wsX3_best wsX1_accepts := goodIn_r _ [42, 11, 12, 32, 33, 34, 9, 35, 36, 37, 17, 22, 23, 4, 24, 54, 55, 56, 57, 58, 59, 60, 61, 62, 63, 64, 65, 66, 67, 68, 69, 70, 71, 72, 73, 74, 75, 76, 77] (by decide +kernel) (by decide +kernel)
set_option maxRecDepth 20000 in
theorem gX3_best_X1_accepts : GoodIn wsX3_best (wsV RX3 232 RX1 yX1_accepts wsX1_accepts) := goodIn_app (goodIn_of _ (by decide +kernel)) ggX3_best_X1_accepts
theorem dX3_best_0 : decode cX3_best 0 = .ok (.iload_n 1, 1) := by decide +kernel
theorem dX3_best_1 : decode cX3_best 1 = .ok (.invokestatic 94, 3) := by decide +kernel
theorem dX3_best_4 : decode cX3_best 4 = .ok (.ifCond .eq 12, 3) := by decide +kernel
theorem dX3_best_7 : decode cX3_best 7 = .ok (.iload_n 2, 1) := by decide +kernel
theorem dX3_best_8 : decode cX3_best 8 = .ok (.ifCond .lt 8, 3) := by decide +kernel
theorem dX3_best_11 : decode cX3_best 11 = .ok (.iload_n 2, 1) := by decide +kernel
theorem dX3_best_12 : decode cX3_best 12 = .ok (.iconst 2, 1) := by decide +kernel
theorem dX3_best_13 : decode cX3_best 13 = .ok (.if_icmp .le 5, 3) := by decide +kernel
theorem dX3_best_16 : decode cX3_best 16 = .ok (.iconst (-1), 1) := by decide +kernel
theorem dX3_best_17 : decode cX3_best 17 = .ok (.ireturn, 1) := by decide +kernel
theorem dX3_best_18 : decode cX3_best 18 = .ok (.aload_n 0, 1) := by decide +kernel
theorem dX3_best_19 : decode cX3_best 19 = .ok (.getfield 23, 3) := by decide +kernel
theorem dX3_best_22 : decode cX3_best 22 = .ok (.iload_n 1, 1) := by decide +kernel
theorem dX3_best_23 : decode cX3_best 23 = .ok (.invokevirtual 229, 3) := by decide +kernel
theorem dX3_best_26 : decode cX3_best 26 = .ok (.istore_n 3, 1) := by decide +kernel
theorem dX3_best_27 : decode cX3_best 27 = .ok (.iload_n 3, 1) := by decide +kernel
theorem dX3_best_28 : decode cX3_best 28 = .ok (.bipush (-9), 2) := by decide +kernel
theorem dX3_best_30 : decode cX3_best 30 = .ok (.if_icmp .eq 7, 3) := by decide +kernel
theorem dX3_best_33 : decode cX3_best 33 = .ok (.iload_n 2, 1) := by decide +kernel
theorem dX3_best_34 : decode cX3_best 34 = .ok (.ifCond .ne 5, 3) := by decide +kernel
theorem dX3_best_37 : decode cX3_best 37 = .ok (.iload_n 3, 1) := by decide +kernel
theorem dX3_best_38 : decode cX3_best 38 = .ok (.ireturn, 1) := by decide +kernel
theorem dX3_best_39 : decode cX3_best 39 = .ok (.iload_n 2, 1) := by decide +kernel
theorem dX3_best_40 : decode cX3_best 40 = .ok (.iconst 1, 1) := by decide +kernel
theorem dX3_best_41 : decode cX3_best 41 = .ok (.if_icmp .ne 12, 3) := by decide +kernel
theorem dX3_best_44 : decode cX3_best 44 = .ok (.aload_n 0, 1) := by decide +kernel
theorem dX3_best_45 : decode cX3_best 45 = .ok (.getfield 23, 3) := by decide +kernel
theorem dX3_best_48 : decode cX3_best 48 = .ok (.iload_n 3, 1) := by decide +kernel
theorem dX3_best_49 : decode cX3_best 49 = .ok (.invokevirtual 226, 3) := by decide +kernel
theorem dX3_best_52 : decode cX3_best 52 = .ok (.ireturn, 1) := by decide +kernel
theorem dX3_best_53 : decode cX3_best 53 = .ok (.aload_n 0, 1) := by decide +kernel
theorem dX3_best_54 : decode cX3_best 54 = .ok (.getfield 23, 3) := by decide +kernel
theorem dX3_best_57 : decode cX3_best 57 = .ok (.iload_n 3, 1) := by decide +kernel
theorem dX3_best_58 : decode cX3_best 58 = .ok (.invokevirtual 232, 3) := by decide +kernel
theorem dX3_best_61 : decode cX3_best 61 = .ok (.ifCond .eq 7, 3) := by decide +kernel
theorem dX3_best_64 : decode cX3_best 64 = .ok (.iconst 1, 1) := by decide +kernel
theorem dX3_best_65 : decode cX3_best 65 = .ok (.goto 4, 3) := by decide +kernel
theorem dX3_best_68 : decode cX3_best 68 = .ok (.iconst 0, 1) := by decide +kernel
theorem dX3_best_69 : decode cX3_best 69 = .ok (.ireturn, 1) := by decide +kernel
set_option maxRecDepth 20000 in
theorem ggX3_unique_X0_has : GoodIn wsX3_unique wsX0_has := goodIn_r _ [7, 8, 51, 52, 53, 54, 55, 56, 57, 58, 59] (by decide +kernel) (by decide +kernel)
set_option maxRecDepth 20000 in
theorem gX3_unique_X0_has : GoodIn wsX3_unique (wsV RX3 115 RX0 yX0_has wsX0_has) := goodIn_app (goodIn_of _ (by decide +kernel)) ggX3_unique_X0_has
set_option maxRecDepth 20000 in
theorem ggX3_unique_X0_uniqueLength : GoodIn wsX3_unique wsX0_uniqueLength := goodIn_r _ [12, 13, 14, 15, 6, 16, 8, 17, 18, 19, 20, 21, 22, 23, 24, 51, 52, 53, 54, 55, 56, 57, 58, 59] (by decide +kernel) (by decide +kernel)
set_option maxRecDepth 20000 in
theorem gX3_unique_X0_uniqueLength : GoodIn wsX3_unique (wsV RX3 235 RX0 yX0_uniqueLength wsX0_uniqueLength) := goodIn_app (goodIn_of _ (by decide +kernel)) ggX3_unique_X0_uniqueLength
theorem dX3_unique_0 : decode cX3_unique 0 = .ok (.aload_n 0, 1) := by decide +kernel
theorem dX3_unique_1 : decode cX3_unique 1 = .ok (.getfield 23, 3) := by decide +kernel
theorem dX3_unique_4 : decode cX3_unique 4 = .ok (.getfield 69, 3) := by decide +kernel
theorem dX3_unique_7 : decode cX3_unique 7 = .ok (.iload_n 1, 1) := by decide +kernel
theorem dX3_unique_8 : decode cX3_unique 8 = .ok (.invokevirtual 115, 3) := by decide +kernel
theorem dX3_unique_11 : decode cX3_unique 11 = .ok (.ifCond .eq 17, 3) := by decide +kernel
theorem dX3_unique_14 : decode cX3_unique 14 = .ok (.aload_n 0, 1) := by decide +kernel
theorem dX3_unique_15 : decode cX3_unique 15 = .ok (.getfield 23, 3) := by decide +kernel
theorem dX3_unique_18 : decode cX3_unique 18 = .ok (.getfield 69, 3) := by decide +kernel
theorem dX3_unique_21 : decode cX3_unique 21 = .ok (.iload_n 1, 1) := by decide +kernel
theorem dX3_unique_22 : decode cX3_unique 22 = .ok (.invokevirtual 235, 3) := by decide +kernel
theorem dX3_unique_25 : decode cX3_unique 25 = .ok (.goto 4, 3) := by decide +kernel
theorem dX3_unique_28 : decode cX3_unique 28 = .ok (.iconst (-1), 1) := by decide +kernel
theorem dX3_unique_29 : decode cX3_unique 29 = .ok (.ireturn, 1) := by decide +kernel
theorem dX3_mean_0 : decode cX3_mean 0 = .ok (.aload_n 0, 1) := by decide +kernel
theorem dX3_mean_1 : decode cX3_mean 1 = .ok (.getfield 23, 3) := by decide +kernel
theorem dX3_mean_4 : decode cX3_mean 4 = .ok (.getfield 69, 3) := by decide +kernel
theorem dX3_mean_7 : decode cX3_mean 7 = .ok (.getfield 145, 3) := by decide +kernel
theorem dX3_mean_10 : decode cX3_mean 10 = .ok (.istore_n 1, 1) := by decide +kernel
theorem dX3_mean_11 : decode cX3_mean 11 = .ok (.iload_n 1, 1) := by decide +kernel
theorem dX3_mean_12 : decode cX3_mean 12 = .ok (.ifCond .le 20, 3) := by decide +kernel
theorem dX3_mean_15 : decode cX3_mean 15 = .ok (.aload_n 0, 1) := by decide +kernel
theorem dX3_mean_16 : decode cX3_mean 16 = .ok (.getfield 23, 3) := by decide +kernel
theorem dX3_mean_19 : decode cX3_mean 19 = .ok (.getfield 69, 3) := by decide +kernel
theorem dX3_mean_22 : decode cX3_mean 22 = .ok (.getfield 72, 3) := by decide +kernel
theorem dX3_mean_25 : decode cX3_mean 25 = .ok (.i2f, 1) := by decide +kernel
theorem dX3_mean_26 : decode cX3_mean 26 = .ok (.iload_n 1, 1) := by decide +kernel
theorem dX3_mean_27 : decode cX3_mean 27 = .ok (.i2f, 1) := by decide +kernel
theorem dX3_mean_28 : decode cX3_mean 28 = .ok (.fdiv, 1) := by decide +kernel
theorem dX3_mean_29 : decode cX3_mean 29 = .ok (.goto 4, 3) := by decide +kernel
theorem dX3_mean_32 : decode cX3_mean 32 = .ok (.fconst 0, 1) := by decide +kernel
theorem dX3_mean_33 : decode cX3_mean 33 = .ok (.freturn, 1) := by decide +kernel
set_option maxRecDepth 20000 in
theorem ggX3_reached_X0_has : GoodIn wsX3_reached wsX0_has := goodIn_r _ [7, 8, 71, 72, 73, 74, 75, 76, 77, 78, 79] (by decide +kernel) (by decide +kernel)
set_option maxRecDepth 20000 in
theorem gX3_reached_X0_has : GoodIn wsX3_reached (wsV RX3 115 RX0 yX0_has wsX0_has) := goodIn_app (goodIn_of _ (by decide +kernel)) ggX3_reached_X0_has
set_option maxRecDepth 20000 in
theorem ggX3_reached_X1_ticksTo : GoodIn wsX3_reached wsX1_ticksTo := goodIn_r _ [13, 14, 15, 16, 12, 17, 18, 19, 20, 21, 22, 6, 23, 8, 24, 25, 26, 27, 28, 29, 30, 31, 32, 33, 34, 35, 36, 37, 38, 39, 40, 41, 42, 43, 44, 56, 57, 58, 59, 60, 61, 62, 63, 64, 65, 66, 67, 68, 69, 70, 71, 72, 73, 74, 75, 76, 77, 78, 79] (by decide +kernel) (by decide +kernel)
set_option maxRecDepth 20000 in
theorem gX3_reached_X1_ticksTo : GoodIn wsX3_reached (wsV RX3 238 RX1 yX1_ticksTo wsX1_ticksTo) := goodIn_app (goodIn_of _ (by decide +kernel)) ggX3_reached_X1_ticksTo
theorem dX3_reached_0 : decode cX3_reached 0 = .ok (.aload_n 0, 1) := by decide +kernel
theorem dX3_reached_1 : decode cX3_reached 1 = .ok (.getfield 23, 3) := by decide +kernel
theorem dX3_reached_4 : decode cX3_reached 4 = .ok (.getfield 69, 3) := by decide +kernel
theorem dX3_reached_7 : decode cX3_reached 7 = .ok (.iload_n 1, 1) := by decide +kernel
theorem dX3_reached_8 : decode cX3_reached 8 = .ok (.invokevirtual 115, 3) := by decide +kernel
theorem dX3_reached_11 : decode cX3_reached 11 = .ok (.ifCond .eq 14, 3) := by decide +kernel
theorem dX3_reached_14 : decode cX3_reached 14 = .ok (.aload_n 0, 1) := by decide +kernel
theorem dX3_reached_15 : decode cX3_reached 15 = .ok (.getfield 23, 3) := by decide +kernel
theorem dX3_reached_18 : decode cX3_reached 18 = .ok (.iload_n 1, 1) := by decide +kernel
theorem dX3_reached_19 : decode cX3_reached 19 = .ok (.invokevirtual 238, 3) := by decide +kernel
theorem dX3_reached_22 : decode cX3_reached 22 = .ok (.goto 4, 3) := by decide +kernel
theorem dX3_reached_25 : decode cX3_reached 25 = .ok (.iconst (-1), 1) := by decide +kernel
theorem dX3_reached_26 : decode cX3_reached 26 = .ok (.ireturn, 1) := by decide +kernel
set_option maxRecDepth 20000 in
theorem ggX3_rehearse_X1_become : GoodIn wsX3_rehearse wsX1_become := goodIn_r _ [12, 13, 14, 15, 16, 17, 18, 19, 20, 21, 22, 23, 24, 25, 26, 27, 28, 29, 30, 31, 32, 33, 34, 35, 36, 37, 38, 39, 40, 41, 42, 43, 44, 45, 46, 47, 48, 49, 50, 51, 52, 53, 54, 55, 56, 57, 58, 59, 60, 185, 186, 187, 188, 189, 190, 191, 192, 193, 194, 195, 196, 197, 198, 199, 200, 201, 202, 203, 204, 205, 206, 207, 208, 209, 210, 211] (by decide +kernel) (by decide +kernel)
set_option maxRecDepth 20000 in
theorem gX3_rehearse_X1_become : GoodIn wsX3_rehearse (wsV RX3 128 RX1 yX1_become wsX1_become) := goodIn_app (goodIn_of _ (by decide +kernel)) ggX3_rehearse_X1_become
set_option maxRecDepth 20000 in
theorem ggX3_rehearse_X1_readToEnd : GoodIn wsX3_rehearse wsX1_readToEnd := goodIn_r _ [64, 18, 14, 65, 66, 67, 68, 69, 11, 70, 26, 20, 71, 72, 73, 74, 75, 76, 77, 42, 78, 44, 50, 79, 29, 80, 81, 82, 83, 84, 21, 13, 85, 19, 86, 87, 33, 88, 89, 90, 91, 92, 93, 94, 95, 22, 96, 97, 98, 99, 100, 101, 32, 34, 102, 103, 104, 105, 106, 107, 108, 109, 110, 111, 31, 112, 113, 114, 115, 116, 117, 118, 119, 120, 121, 122, 123, 124, 25, 125, 126, 127, 128, 129, 130, 131, 132, 133, 134, 135, 136, 137, 138, 139, 17, 16, 140, 141, 142, 143, 144, 145, 146, 147, 23, 15, 24, 27, 148, 149, 150, 56, 151, 58, 152, 153, 154, 155, 59, 60, 156, 157, 158, 159, 160, 161, 162, 163, 164, 165, 166, 167, 168, 169, 170, 171, 172, 173, 185, 186, 187, 188, 189, 190, 191, 192, 193, 194, 195, 196, 197, 198, 199, 200, 201, 202, 203, 204, 205, 206, 207, 208, 209, 210, 211] (by decide +kernel) (by decide +kernel)
set_option maxRecDepth 20000 in
theorem gX3_rehearse_X1_readToEnd : GoodIn wsX3_rehearse (wsV RX3 241 RX1 yX1_readToEnd wsX1_readToEnd) := goodIn_app (goodIn_of _ (by decide +kernel)) ggX3_rehearse_X1_readToEnd
theorem dX3_rehearse_0 : decode cX3_rehearse 0 = .ok (.iload_n 1, 1) := by decide +kernel
theorem dX3_rehearse_1 : decode cX3_rehearse 1 = .ok (.iconst 1, 1) := by decide +kernel
theorem dX3_rehearse_2 : decode cX3_rehearse 2 = .ok (.if_icmp .lt 18, 3) := by decide +kernel
theorem dX3_rehearse_5 : decode cX3_rehearse 5 = .ok (.iload_n 1, 1) := by decide +kernel
theorem dX3_rehearse_6 : decode cX3_rehearse 6 = .ok (.bipush 10, 2) := by decide +kernel
theorem dX3_rehearse_8 : decode cX3_rehearse 8 = .ok (.if_icmp .gt 12, 3) := by decide +kernel
theorem dX3_rehearse_11 : decode cX3_rehearse 11 = .ok (.iload_n 2, 1) := by decide +kernel
theorem dX3_rehearse_12 : decode cX3_rehearse 12 = .ok (.ifCond .lt 8, 3) := by decide +kernel
theorem dX3_rehearse_15 : decode cX3_rehearse 15 = .ok (.iload_n 2, 1) := by decide +kernel
theorem dX3_rehearse_16 : decode cX3_rehearse 16 = .ok (.iconst 3, 1) := by decide +kernel
theorem dX3_rehearse_17 : decode cX3_rehearse 17 = .ok (.if_icmp .le 5, 3) := by decide +kernel
theorem dX3_rehearse_20 : decode cX3_rehearse 20 = .ok (.iconst (-1), 1) := by decide +kernel
theorem dX3_rehearse_21 : decode cX3_rehearse 21 = .ok (.ireturn, 1) := by decide +kernel
end
section
theorem dX3_rehearse_22 : decode cX3_rehearse 22 = .ok (.aload_n 0, 1) := by decide +kernel
theorem dX3_rehearse_23 : decode cX3_rehearse 23 = .ok (.getfield 27, 3) := by decide +kernel
theorem dX3_rehearse_26 : decode cX3_rehearse 26 = .ok (.aload_n 0, 1) := by decide +kernel
theorem dX3_rehearse_27 : decode cX3_rehearse 27 = .ok (.getfield 23, 3) := by decide +kernel
theorem dX3_rehearse_30 : decode cX3_rehearse 30 = .ok (.invokevirtual 128, 3) := by decide +kernel
theorem dX3_rehearse_33 : decode cX3_rehearse 33 = .ok (.aload_n 0, 1) := by decide +kernel
theorem dX3_rehearse_34 : decode cX3_rehearse 34 = .ok (.getfield 27, 3) := by decide +kernel
theorem dX3_rehearse_37 : decode cX3_rehearse 37 = .ok (.iload_n 1, 1) := by decide +kernel
theorem dX3_rehearse_38 : decode cX3_rehearse 38 = .ok (.invokevirtual 241, 3) := by decide +kernel
theorem dX3_rehearse_41 : decode cX3_rehearse 41 = .ok (.iload_n 2, 1) := by decide +kernel
theorem dX3_rehearse_42 : decode cX3_rehearse 42 = .ok (.tableswitch 90 0 2 #[26, 42, 74], 26) := by decide +kernel
theorem dX3_rehearse_68 : decode cX3_rehearse 68 = .ok (.aload_n 0, 1) := by decide +kernel
theorem dX3_rehearse_69 : decode cX3_rehearse 69 = .ok (.getfield 27, 3) := by decide +kernel
theorem dX3_rehearse_72 : decode cX3_rehearse 72 = .ok (.getfield 178, 3) := by decide +kernel
theorem dX3_rehearse_75 : decode cX3_rehearse 75 = .ok (.aload_n 0, 1) := by decide +kernel
theorem dX3_rehearse_76 : decode cX3_rehearse 76 = .ok (.getfield 23, 3) := by decide +kernel
theorem dX3_rehearse_79 : decode cX3_rehearse 79 = .ok (.getfield 178, 3) := by decide +kernel
theorem dX3_rehearse_82 : decode cX3_rehearse 82 = .ok (.isub, 1) := by decide +kernel
theorem dX3_rehearse_83 : decode cX3_rehearse 83 = .ok (.ireturn, 1) := by decide +kernel
theorem dX3_rehearse_84 : decode cX3_rehearse 84 = .ok (.aload_n 0, 1) := by decide +kernel
theorem dX3_rehearse_85 : decode cX3_rehearse 85 = .ok (.getfield 27, 3) := by decide +kernel
theorem dX3_rehearse_88 : decode cX3_rehearse 88 = .ok (.getfield 169, 3) := by decide +kernel
theorem dX3_rehearse_91 : decode cX3_rehearse 91 = .ok (.aload_n 0, 1) := by decide +kernel
theorem dX3_rehearse_92 : decode cX3_rehearse 92 = .ok (.getfield 23, 3) := by decide +kernel
theorem dX3_rehearse_95 : decode cX3_rehearse 95 = .ok (.getfield 169, 3) := by decide +kernel
theorem dX3_rehearse_98 : decode cX3_rehearse 98 = .ok (.isub, 1) := by decide +kernel
theorem dX3_rehearse_99 : decode cX3_rehearse 99 = .ok (.aload_n 0, 1) := by decide +kernel
theorem dX3_rehearse_100 : decode cX3_rehearse 100 = .ok (.getfield 27, 3) := by decide +kernel
theorem dX3_rehearse_103 : decode cX3_rehearse 103 = .ok (.getfield 172, 3) := by decide +kernel
theorem dX3_rehearse_106 : decode cX3_rehearse 106 = .ok (.iadd, 1) := by decide +kernel
theorem dX3_rehearse_107 : decode cX3_rehearse 107 = .ok (.aload_n 0, 1) := by decide +kernel
theorem dX3_rehearse_108 : decode cX3_rehearse 108 = .ok (.getfield 23, 3) := by decide +kernel
theorem dX3_rehearse_111 : decode cX3_rehearse 111 = .ok (.getfield 172, 3) := by decide +kernel
theorem dX3_rehearse_114 : decode cX3_rehearse 114 = .ok (.isub, 1) := by decide +kernel
theorem dX3_rehearse_115 : decode cX3_rehearse 115 = .ok (.ireturn, 1) := by decide +kernel
theorem dX3_rehearse_116 : decode cX3_rehearse 116 = .ok (.aload_n 0, 1) := by decide +kernel
theorem dX3_rehearse_117 : decode cX3_rehearse 117 = .ok (.getfield 27, 3) := by decide +kernel
theorem dX3_rehearse_120 : decode cX3_rehearse 120 = .ok (.getfield 175, 3) := by decide +kernel
theorem dX3_rehearse_123 : decode cX3_rehearse 123 = .ok (.aload_n 0, 1) := by decide +kernel
theorem dX3_rehearse_124 : decode cX3_rehearse 124 = .ok (.getfield 23, 3) := by decide +kernel
theorem dX3_rehearse_127 : decode cX3_rehearse 127 = .ok (.getfield 175, 3) := by decide +kernel
theorem dX3_rehearse_130 : decode cX3_rehearse 130 = .ok (.isub, 1) := by decide +kernel
theorem dX3_rehearse_131 : decode cX3_rehearse 131 = .ok (.ireturn, 1) := by decide +kernel
theorem dX3_rehearse_132 : decode cX3_rehearse 132 = .ok (.aload_n 0, 1) := by decide +kernel
theorem dX3_rehearse_133 : decode cX3_rehearse 133 = .ok (.getfield 27, 3) := by decide +kernel
theorem dX3_rehearse_136 : decode cX3_rehearse 136 = .ok (.getfield 100, 3) := by decide +kernel
theorem dX3_rehearse_139 : decode cX3_rehearse 139 = .ok (.ireturn, 1) := by decide +kernel
set_option maxRecDepth 20000 in
theorem ggX3_keep_X3_stateAt : GoodIn wsX3_keep wsX3_stateAt := goodIn_r _ [9, 10, 63, 64, 65, 66, 67, 68, 69, 70, 71, 72, 73] (by decide +kernel) (by decide +kernel)
set_option maxRecDepth 20000 in
theorem gX3_keep_X3_stateAt : GoodIn wsX3_keep (wsV RX3 124 RX3 yX3_stateAt wsX3_stateAt) := goodIn_app (goodIn_of _ (by decide +kernel)) ggX3_keep_X3_stateAt
set_option maxRecDepth 20000 in
theorem ggX3_keep_X1_become : GoodIn wsX3_keep wsX1_become := goodIn_r _ [15, 16, 17, 18, 19, 20, 21, 22, 23, 24, 25, 26, 27, 28, 29, 30, 31, 8, 32, 33, 34, 35, 36, 37, 38, 39, 40, 41, 42, 43, 44, 45, 46, 47, 48, 49, 50, 51, 52, 53, 54, 55, 56, 57, 58, 59, 60, 61, 62, 74, 75, 76, 77, 78, 79, 80, 81, 82, 83, 84, 85, 86, 87, 88, 89, 90, 91, 92, 93, 94, 95, 96, 97, 98, 99, 100] (by decide +kernel) (by decide +kernel)
set_option maxRecDepth 20000 in
theorem gX3_keep_X1_become : GoodIn wsX3_keep (wsV RX3 128 RX1 yX1_become wsX1_become) := goodIn_app (goodIn_of _ (by decide +kernel)) ggX3_keep_X1_become
theorem dX3_keep_0 : decode cX3_keep 0 = .ok (.iload_n 1, 1) := by decide +kernel
theorem dX3_keep_1 : decode cX3_keep 1 = .ok (.ifCond .lt 12, 3) := by decide +kernel
theorem dX3_keep_4 : decode cX3_keep 4 = .ok (.iload_n 1, 1) := by decide +kernel
theorem dX3_keep_5 : decode cX3_keep 5 = .ok (.aload_n 0, 1) := by decide +kernel
theorem dX3_keep_6 : decode cX3_keep 6 = .ok (.getfield 37, 3) := by decide +kernel
theorem dX3_keep_9 : decode cX3_keep 9 = .ok (.arraylength, 1) := by decide +kernel
theorem dX3_keep_10 : decode cX3_keep 10 = .ok (.if_icmp .lt 5, 3) := by decide +kernel
theorem dX3_keep_13 : decode cX3_keep 13 = .ok (.iconst (-1), 1) := by decide +kernel
theorem dX3_keep_14 : decode cX3_keep 14 = .ok (.ireturn, 1) := by decide +kernel
theorem dX3_keep_15 : decode cX3_keep 15 = .ok (.aload_n 0, 1) := by decide +kernel
theorem dX3_keep_16 : decode cX3_keep 16 = .ok (.aload_n 0, 1) := by decide +kernel
theorem dX3_keep_17 : decode cX3_keep 17 = .ok (.getfield 34, 3) := by decide +kernel
theorem dX3_keep_20 : decode cX3_keep 20 = .ok (.iload_n 1, 1) := by decide +kernel
theorem dX3_keep_21 : decode cX3_keep 21 = .ok (.invokevirtual 124, 3) := by decide +kernel
theorem dX3_keep_24 : decode cX3_keep 24 = .ok (.aload_n 0, 1) := by decide +kernel
theorem dX3_keep_25 : decode cX3_keep 25 = .ok (.getfield 23, 3) := by decide +kernel
theorem dX3_keep_28 : decode cX3_keep 28 = .ok (.invokevirtual 128, 3) := by decide +kernel
theorem dX3_keep_31 : decode cX3_keep 31 = .ok (.aload_n 0, 1) := by decide +kernel
theorem dX3_keep_32 : decode cX3_keep 32 = .ok (.getfield 37, 3) := by decide +kernel
theorem dX3_keep_35 : decode cX3_keep 35 = .ok (.iload_n 1, 1) := by decide +kernel
theorem dX3_keep_36 : decode cX3_keep 36 = .ok (.iconst 1, 1) := by decide +kernel
theorem dX3_keep_37 : decode cX3_keep 37 = .ok (.bastore, 1) := by decide +kernel
theorem dX3_keep_38 : decode cX3_keep 38 = .ok (.aload_n 0, 1) := by decide +kernel
theorem dX3_keep_39 : decode cX3_keep 39 = .ok (.getfield 23, 3) := by decide +kernel
theorem dX3_keep_42 : decode cX3_keep 42 = .ok (.getfield 100, 3) := by decide +kernel
theorem dX3_keep_45 : decode cX3_keep 45 = .ok (.ireturn, 1) := by decide +kernel
set_option maxRecDepth 20000 in
theorem ggX3_back_X3_record : GoodIn wsX3_back wsX3_record := goodIn_r _ [9, 10, 11, 2, 12, 13, 14, 8, 15, 16, 17, 18, 19, 20, 21, 22, 23, 24, 25, 26, 27, 28, 29, 30, 31, 32, 33, 34, 35, 36, 37, 38, 39, 40, 41, 42, 43, 44, 45, 46, 47, 48, 49, 50, 51, 52, 53, 54, 55, 56, 57, 58, 59, 60, 61, 62, 63, 64, 65, 66, 67, 68, 69, 70, 71, 72, 73, 74, 75, 76, 77, 78, 79, 80, 81, 82, 83, 84, 85, 86, 87, 88, 89, 90, 91, 92, 93, 94, 95, 96, 97, 98, 99, 100, 101, 102, 103, 104, 105, 106, 107, 108, 109, 110] (by decide +kernel) (by decide +kernel)
set_option maxRecDepth 20000 in
theorem gX3_back_X3_record : GoodIn wsX3_back (wsV RX3 66 RX3 yX3_record wsX3_record) := goodIn_app (goodIn_of _ (by decide +kernel)) ggX3_back_X3_record
set_option maxRecDepth 20000 in
theorem ggX3_back_X3_stateAt : GoodIn wsX3_back wsX3_stateAt := goodIn_r _ [19, 20, 73, 74, 75, 76, 77, 78, 79, 80, 81, 82, 83] (by decide +kernel) (by decide +kernel)
set_option maxRecDepth 20000 in
theorem gX3_back_X3_stateAt : GoodIn wsX3_back (wsV RX3 124 RX3 yX3_stateAt wsX3_stateAt) := goodIn_app (goodIn_of _ (by decide +kernel)) ggX3_back_X3_stateAt
set_option maxRecDepth 20000 in
theorem ggX3_back_X1_become : GoodIn wsX3_back wsX1_become := goodIn_r _ [25, 26, 27, 28, 29, 30, 31, 32, 33, 34, 35, 36, 37, 38, 39, 40, 41, 8, 42, 43, 44, 45, 46, 47, 48, 49, 50, 51, 52, 53, 54, 55, 56, 57, 58, 59, 60, 61, 62, 63, 64, 65, 66, 67, 68, 69, 70, 71, 72, 84, 85, 86, 87, 88, 89, 90, 91, 92, 93, 94, 95, 96, 97, 98, 99, 100, 101, 102, 103, 104, 105, 106, 107, 108, 109, 110] (by decide +kernel) (by decide +kernel)
set_option maxRecDepth 20000 in
theorem gX3_back_X1_become : GoodIn wsX3_back (wsV RX3 128 RX1 yX1_become wsX1_become) := goodIn_app (goodIn_of _ (by decide +kernel)) ggX3_back_X1_become
theorem dX3_back_0 : decode cX3_back 0 = .ok (.iload_n 1, 1) := by decide +kernel
theorem dX3_back_1 : decode cX3_back 1 = .ok (.ifCond .lt 12, 3) := by decide +kernel
theorem dX3_back_4 : decode cX3_back 4 = .ok (.iload_n 1, 1) := by decide +kernel
theorem dX3_back_5 : decode cX3_back 5 = .ok (.aload_n 0, 1) := by decide +kernel
theorem dX3_back_6 : decode cX3_back 6 = .ok (.getfield 37, 3) := by decide +kernel
theorem dX3_back_9 : decode cX3_back 9 = .ok (.arraylength, 1) := by decide +kernel
theorem dX3_back_10 : decode cX3_back 10 = .ok (.if_icmp .lt 5, 3) := by decide +kernel
theorem dX3_back_13 : decode cX3_back 13 = .ok (.iconst (-1), 1) := by decide +kernel
theorem dX3_back_14 : decode cX3_back 14 = .ok (.ireturn, 1) := by decide +kernel
theorem dX3_back_15 : decode cX3_back 15 = .ok (.aload_n 0, 1) := by decide +kernel
theorem dX3_back_16 : decode cX3_back 16 = .ok (.getfield 37, 3) := by decide +kernel
theorem dX3_back_19 : decode cX3_back 19 = .ok (.iload_n 1, 1) := by decide +kernel
theorem dX3_back_20 : decode cX3_back 20 = .ok (.baload, 1) := by decide +kernel
theorem dX3_back_21 : decode cX3_back 21 = .ok (.ifCond .ne 6, 3) := by decide +kernel
theorem dX3_back_24 : decode cX3_back 24 = .ok (.bipush (-2), 2) := by decide +kernel
theorem dX3_back_26 : decode cX3_back 26 = .ok (.ireturn, 1) := by decide +kernel
theorem dX3_back_27 : decode cX3_back 27 = .ok (.aload_n 0, 1) := by decide +kernel
theorem dX3_back_28 : decode cX3_back 28 = .ok (.invokevirtual 66, 3) := by decide +kernel
theorem dX3_back_31 : decode cX3_back 31 = .ok (.aload_n 0, 1) := by decide +kernel
theorem dX3_back_32 : decode cX3_back 32 = .ok (.getfield 23, 3) := by decide +kernel
theorem dX3_back_35 : decode cX3_back 35 = .ok (.aload_n 0, 1) := by decide +kernel
theorem dX3_back_36 : decode cX3_back 36 = .ok (.aload_n 0, 1) := by decide +kernel
theorem dX3_back_37 : decode cX3_back 37 = .ok (.getfield 34, 3) := by decide +kernel
theorem dX3_back_40 : decode cX3_back 40 = .ok (.iload_n 1, 1) := by decide +kernel
theorem dX3_back_41 : decode cX3_back 41 = .ok (.invokevirtual 124, 3) := by decide +kernel
theorem dX3_back_44 : decode cX3_back 44 = .ok (.invokevirtual 128, 3) := by decide +kernel
theorem dX3_back_47 : decode cX3_back 47 = .ok (.aload_n 0, 1) := by decide +kernel
theorem dX3_back_48 : decode cX3_back 48 = .ok (.getfield 23, 3) := by decide +kernel
theorem dX3_back_51 : decode cX3_back 51 = .ok (.getfield 100, 3) := by decide +kernel
theorem dX3_back_54 : decode cX3_back 54 = .ok (.ireturn, 1) := by decide +kernel
set_option maxRecDepth 20000 in
theorem ggX3_readText_X0_empty : GoodIn wsX3_readText wsX0_empty := goodIn_r _ [11, 12, 13, 14, 53, 54, 55, 56, 57, 58, 59, 60, 61] (by decide +kernel) (by decide +kernel)
set_option maxRecDepth 20000 in
theorem gX3_readText_X0_empty : GoodIn wsX3_readText (wsV RX3 51 RX0 yX0_empty wsX0_empty) := goodIn_app (goodIn_of _ (by decide +kernel)) ggX3_readText_X0_empty
set_option maxRecDepth 20000 in
theorem ggX3_readText_X3_at : GoodIn wsX3_readText wsX3_at := goodIn_r _ [18] (by decide +kernel) (by decide +kernel)
set_option maxRecDepth 20000 in
theorem gX3_readText_X3_at : GoodIn wsX3_readText (va_wsS RX3 83 yX3_at wsX3_at) := goodIn_app (goodIn_of _ (by decide +kernel)) ggX3_readText_X3_at
set_option maxRecDepth 20000 in
theorem ggX3_readText_X0_read : GoodIn wsX3_readText wsX0_read := goodIn_r _ [22, 14, 23, 17, 24, 25, 26, 27, 10, 28, 12, 29, 30, 13, 31, 32, 33, 34, 35, 36, 37, 38, 39, 40, 41, 53, 54, 55, 56, 57, 58, 59, 60, 61] (by decide +kernel) (by decide +kernel)
set_option maxRecDepth 20000 in
theorem gX3_readText_X0_read : GoodIn wsX3_readText (wsV RX3 54 RX0 yX0_read wsX0_read) := goodIn_app (goodIn_of _ (by decide +kernel)) ggX3_readText_X0_read
theorem dX3_readText_0 : decode cX3_readText 0 = .ok (.aload_n 0, 1) := by decide +kernel
theorem dX3_readText_1 : decode cX3_readText 1 = .ok (.getfield 16, 3) := by decide +kernel
theorem dX3_readText_4 : decode cX3_readText 4 = .ok (.invokevirtual 51, 3) := by decide +kernel
theorem dX3_readText_7 : decode cX3_readText 7 = .ok (.iconst 0, 1) := by decide +kernel
theorem dX3_readText_8 : decode cX3_readText 8 = .ok (.istore_n 1, 1) := by decide +kernel
theorem dX3_readText_9 : decode cX3_readText 9 = .ok (.iload_n 1, 1) := by decide +kernel
theorem dX3_readText_10 : decode cX3_readText 10 = .ok (.aload_n 0, 1) := by decide +kernel
theorem dX3_readText_11 : decode cX3_readText 11 = .ok (.getfield 132, 3) := by decide +kernel
theorem dX3_readText_14 : decode cX3_readText 14 = .ok (.if_icmp .ge 51, 3) := by decide +kernel
theorem dX3_readText_17 : decode cX3_readText 17 = .ok (.aload_n 0, 1) := by decide +kernel
theorem dX3_readText_18 : decode cX3_readText 18 = .ok (.getfield 16, 3) := by decide +kernel
theorem dX3_readText_21 : decode cX3_readText 21 = .ok (.aload_n 0, 1) := by decide +kernel
theorem dX3_readText_22 : decode cX3_readText 22 = .ok (.getfield 9, 3) := by decide +kernel
theorem dX3_readText_25 : decode cX3_readText 25 = .ok (.iload_n 1, 1) := by decide +kernel
theorem dX3_readText_26 : decode cX3_readText 26 = .ok (.invokestatic 83, 3) := by decide +kernel
theorem dX3_readText_29 : decode cX3_readText 29 = .ok (.aload_n 0, 1) := by decide +kernel
theorem dX3_readText_30 : decode cX3_readText 30 = .ok (.getfield 9, 3) := by decide +kernel
theorem dX3_readText_33 : decode cX3_readText 33 = .ok (.iload_n 1, 1) := by decide +kernel
theorem dX3_readText_34 : decode cX3_readText 34 = .ok (.iconst 1, 1) := by decide +kernel
theorem dX3_readText_35 : decode cX3_readText 35 = .ok (.isub, 1) := by decide +kernel
theorem dX3_readText_36 : decode cX3_readText 36 = .ok (.invokestatic 83, 3) := by decide +kernel
theorem dX3_readText_39 : decode cX3_readText 39 = .ok (.invokevirtual 54, 3) := by decide +kernel
theorem dX3_readText_42 : decode cX3_readText 42 = .ok (.istore_n 2, 1) := by decide +kernel
theorem dX3_readText_43 : decode cX3_readText 43 = .ok (.iload_n 2, 1) := by decide +kernel
theorem dX3_readText_44 : decode cX3_readText 44 = .ok (.ifCond .eq 15, 3) := by decide +kernel
theorem dX3_readText_47 : decode cX3_readText 47 = .ok (.aload_n 0, 1) := by decide +kernel
theorem dX3_readText_48 : decode cX3_readText 48 = .ok (.iload_n 2, 1) := by decide +kernel
theorem dX3_readText_49 : decode cX3_readText 49 = .ok (.putfield 139, 3) := by decide +kernel
theorem dX3_readText_52 : decode cX3_readText 52 = .ok (.aload_n 0, 1) := by decide +kernel
theorem dX3_readText_53 : decode cX3_readText 53 = .ok (.iload_n 1, 1) := by decide +kernel
theorem dX3_readText_54 : decode cX3_readText 54 = .ok (.putfield 142, 3) := by decide +kernel
theorem dX3_readText_57 : decode cX3_readText 57 = .ok (.iconst 0, 1) := by decide +kernel
theorem dX3_readText_58 : decode cX3_readText 58 = .ok (.ireturn, 1) := by decide +kernel
theorem dX3_readText_59 : decode cX3_readText 59 = .ok (.iinc 1 1, 3) := by decide +kernel
theorem dX3_readText_62 : decode cX3_readText 62 = .ok (.goto (-53), 3) := by decide +kernel
theorem dX3_readText_65 : decode cX3_readText 65 = .ok (.aload_n 0, 1) := by decide +kernel
theorem dX3_readText_66 : decode cX3_readText 66 = .ok (.getfield 16, 3) := by decide +kernel
theorem dX3_readText_69 : decode cX3_readText 69 = .ok (.getfield 244, 3) := by decide +kernel
theorem dX3_readText_72 : decode cX3_readText 72 = .ok (.ifCond .ne 18, 3) := by decide +kernel
theorem dX3_readText_75 : decode cX3_readText 75 = .ok (.aload_n 0, 1) := by decide +kernel
theorem dX3_readText_76 : decode cX3_readText 76 = .ok (.iconst 5, 1) := by decide +kernel
theorem dX3_readText_77 : decode cX3_readText 77 = .ok (.putfield 139, 3) := by decide +kernel
theorem dX3_readText_80 : decode cX3_readText 80 = .ok (.aload_n 0, 1) := by decide +kernel
theorem dX3_readText_81 : decode cX3_readText 81 = .ok (.aload_n 0, 1) := by decide +kernel
theorem dX3_readText_82 : decode cX3_readText 82 = .ok (.getfield 132, 3) := by decide +kernel
theorem dX3_readText_85 : decode cX3_readText 85 = .ok (.putfield 142, 3) := by decide +kernel
theorem dX3_readText_88 : decode cX3_readText 88 = .ok (.iconst 0, 1) := by decide +kernel
theorem dX3_readText_89 : decode cX3_readText 89 = .ok (.ireturn, 1) := by decide +kernel
theorem dX3_readText_90 : decode cX3_readText 90 = .ok (.iconst 1, 1) := by decide +kernel
theorem dX3_readText_91 : decode cX3_readText 91 = .ok (.ireturn, 1) := by decide +kernel
set_option maxRecDepth 20000 in
theorem ggX3_record_X3_dropOldest : GoodIn wsX3_record wsX3_dropOldest := goodIn_r _ [8, 2, 1, 9, 10, 11, 7, 12, 13, 66, 67, 68, 69, 70, 71, 72, 73, 74, 75, 76] (by decide +kernel) (by decide +kernel)
set_option maxRecDepth 20000 in
theorem gX3_record_X3_dropOldest : GoodIn wsX3_record (wsV RX3 247 RX3 yX3_dropOldest wsX3_dropOldest) := goodIn_app (goodIn_of _ (by decide +kernel)) ggX3_record_X3_dropOldest
set_option maxRecDepth 20000 in
theorem ggX3_record_X3_stateAt : GoodIn wsX3_record wsX3_stateAt := goodIn_r _ [12, 13, 66, 67, 68, 69, 70, 71, 72, 73, 74, 75, 76] (by decide +kernel) (by decide +kernel)
set_option maxRecDepth 20000 in
theorem gX3_record_X3_stateAt : GoodIn wsX3_record (wsV RX3 124 RX3 yX3_stateAt wsX3_stateAt) := goodIn_app (goodIn_of _ (by decide +kernel)) ggX3_record_X3_stateAt
set_option maxRecDepth 20000 in
theorem ggX3_record_X1_become : GoodIn wsX3_record wsX1_become := goodIn_r _ [18, 19, 20, 21, 22, 23, 24, 25, 26, 27, 28, 29, 30, 31, 32, 33, 34, 7, 35, 36, 37, 38, 39, 40, 41, 42, 43, 44, 45, 46, 47, 48, 49, 50, 51, 52, 53, 54, 55, 56, 57, 58, 59, 60, 61, 62, 63, 64, 65, 77, 78, 79, 80, 81, 82, 83, 84, 85, 86, 87, 88, 89, 90, 91, 92, 93, 94, 95, 96, 97, 98, 99, 100, 101, 102, 103] (by decide +kernel) (by decide +kernel)
set_option maxRecDepth 20000 in
theorem gX3_record_X1_become : GoodIn wsX3_record (wsV RX3 128 RX1 yX1_become wsX1_become) := goodIn_app (goodIn_of _ (by decide +kernel)) ggX3_record_X1_become
theorem dX3_record_0 : decode cX3_record 0 = .ok (.aload_n 0, 1) := by decide +kernel
theorem dX3_record_1 : decode cX3_record 1 = .ok (.getfield 121, 3) := by decide +kernel
theorem dX3_record_4 : decode cX3_record 4 = .ok (.bipush 8, 2) := by decide +kernel
theorem dX3_record_6 : decode cX3_record 6 = .ok (.if_icmp .lt 7, 3) := by decide +kernel
theorem dX3_record_9 : decode cX3_record 9 = .ok (.aload_n 0, 1) := by decide +kernel
theorem dX3_record_10 : decode cX3_record 10 = .ok (.invokevirtual 247, 3) := by decide +kernel
theorem dX3_record_13 : decode cX3_record 13 = .ok (.aload_n 0, 1) := by decide +kernel
theorem dX3_record_14 : decode cX3_record 14 = .ok (.aload_n 0, 1) := by decide +kernel
theorem dX3_record_15 : decode cX3_record 15 = .ok (.getfield 30, 3) := by decide +kernel
theorem dX3_record_18 : decode cX3_record 18 = .ok (.aload_n 0, 1) := by decide +kernel
theorem dX3_record_19 : decode cX3_record 19 = .ok (.getfield 121, 3) := by decide +kernel
theorem dX3_record_22 : decode cX3_record 22 = .ok (.invokevirtual 124, 3) := by decide +kernel
theorem dX3_record_25 : decode cX3_record 25 = .ok (.aload_n 0, 1) := by decide +kernel
theorem dX3_record_26 : decode cX3_record 26 = .ok (.getfield 23, 3) := by decide +kernel
theorem dX3_record_29 : decode cX3_record 29 = .ok (.invokevirtual 128, 3) := by decide +kernel
theorem dX3_record_32 : decode cX3_record 32 = .ok (.aload_n 0, 1) := by decide +kernel
theorem dX3_record_33 : decode cX3_record 33 = .ok (.dup, 1) := by decide +kernel
theorem dX3_record_34 : decode cX3_record 34 = .ok (.getfield 121, 3) := by decide +kernel
theorem dX3_record_37 : decode cX3_record 37 = .ok (.iconst 1, 1) := by decide +kernel
theorem dX3_record_38 : decode cX3_record 38 = .ok (.iadd, 1) := by decide +kernel
theorem dX3_record_39 : decode cX3_record 39 = .ok (.putfield 121, 3) := by decide +kernel
theorem dX3_record_42 : decode cX3_record 42 = .ok (.return_, 1) := by decide +kernel
set_option maxRecDepth 20000 in
theorem ggX3_dropOldest_X3_stateAt : GoodIn wsX3_dropOldest wsX3_stateAt := goodIn_r _ [7, 8, 9, 10, 11, 12, 13, 14, 15, 16, 17, 18, 19] (by decide +kernel) (by decide +kernel)
set_option maxRecDepth 20000 in
theorem gX3_dropOldest_X3_stateAt : GoodIn wsX3_dropOldest (wsV RX3 124 RX3 yX3_stateAt wsX3_stateAt) := goodIn_app (goodIn_of _ (by decide +kernel)) ggX3_dropOldest_X3_stateAt
theorem dX3_dropOldest_0 : decode cX3_dropOldest 0 = .ok (.aload_n 0, 1) := by decide +kernel
theorem dX3_dropOldest_1 : decode cX3_dropOldest 1 = .ok (.aload_n 0, 1) := by decide +kernel
theorem dX3_dropOldest_2 : decode cX3_dropOldest 2 = .ok (.getfield 30, 3) := by decide +kernel
theorem dX3_dropOldest_5 : decode cX3_dropOldest 5 = .ok (.iconst 0, 1) := by decide +kernel
theorem dX3_dropOldest_6 : decode cX3_dropOldest 6 = .ok (.invokevirtual 124, 3) := by decide +kernel
theorem dX3_dropOldest_9 : decode cX3_dropOldest 9 = .ok (.astore_n 1, 1) := by decide +kernel
theorem dX3_dropOldest_10 : decode cX3_dropOldest 10 = .ok (.iconst 1, 1) := by decide +kernel
theorem dX3_dropOldest_11 : decode cX3_dropOldest 11 = .ok (.istore_n 2, 1) := by decide +kernel
theorem dX3_dropOldest_12 : decode cX3_dropOldest 12 = .ok (.iload_n 2, 1) := by decide +kernel
theorem dX3_dropOldest_13 : decode cX3_dropOldest 13 = .ok (.aload_n 0, 1) := by decide +kernel
theorem dX3_dropOldest_14 : decode cX3_dropOldest 14 = .ok (.getfield 30, 3) := by decide +kernel
theorem dX3_dropOldest_17 : decode cX3_dropOldest 17 = .ok (.arraylength, 1) := by decide +kernel
theorem dX3_dropOldest_18 : decode cX3_dropOldest 18 = .ok (.if_icmp .ge 23, 3) := by decide +kernel
theorem dX3_dropOldest_21 : decode cX3_dropOldest 21 = .ok (.aload_n 0, 1) := by decide +kernel
theorem dX3_dropOldest_22 : decode cX3_dropOldest 22 = .ok (.getfield 30, 3) := by decide +kernel
theorem dX3_dropOldest_25 : decode cX3_dropOldest 25 = .ok (.iload_n 2, 1) := by decide +kernel
theorem dX3_dropOldest_26 : decode cX3_dropOldest 26 = .ok (.iconst 1, 1) := by decide +kernel
theorem dX3_dropOldest_27 : decode cX3_dropOldest 27 = .ok (.isub, 1) := by decide +kernel
theorem dX3_dropOldest_28 : decode cX3_dropOldest 28 = .ok (.aload_n 0, 1) := by decide +kernel
theorem dX3_dropOldest_29 : decode cX3_dropOldest 29 = .ok (.getfield 30, 3) := by decide +kernel
theorem dX3_dropOldest_32 : decode cX3_dropOldest 32 = .ok (.iload_n 2, 1) := by decide +kernel
theorem dX3_dropOldest_33 : decode cX3_dropOldest 33 = .ok (.aaload, 1) := by decide +kernel
theorem dX3_dropOldest_34 : decode cX3_dropOldest 34 = .ok (.aastore, 1) := by decide +kernel
theorem dX3_dropOldest_35 : decode cX3_dropOldest 35 = .ok (.iinc 2 1, 3) := by decide +kernel
theorem dX3_dropOldest_38 : decode cX3_dropOldest 38 = .ok (.goto (-26), 3) := by decide +kernel
theorem dX3_dropOldest_41 : decode cX3_dropOldest 41 = .ok (.aload_n 0, 1) := by decide +kernel
theorem dX3_dropOldest_42 : decode cX3_dropOldest 42 = .ok (.getfield 30, 3) := by decide +kernel
theorem dX3_dropOldest_45 : decode cX3_dropOldest 45 = .ok (.arraylength, 1) := by decide +kernel
theorem dX3_dropOldest_46 : decode cX3_dropOldest 46 = .ok (.ifCond .le 16, 3) := by decide +kernel
theorem dX3_dropOldest_49 : decode cX3_dropOldest 49 = .ok (.aload_n 0, 1) := by decide +kernel
theorem dX3_dropOldest_50 : decode cX3_dropOldest 50 = .ok (.getfield 30, 3) := by decide +kernel
theorem dX3_dropOldest_53 : decode cX3_dropOldest 53 = .ok (.aload_n 0, 1) := by decide +kernel
theorem dX3_dropOldest_54 : decode cX3_dropOldest 54 = .ok (.getfield 30, 3) := by decide +kernel
theorem dX3_dropOldest_57 : decode cX3_dropOldest 57 = .ok (.arraylength, 1) := by decide +kernel
theorem dX3_dropOldest_58 : decode cX3_dropOldest 58 = .ok (.iconst 1, 1) := by decide +kernel
theorem dX3_dropOldest_59 : decode cX3_dropOldest 59 = .ok (.isub, 1) := by decide +kernel
theorem dX3_dropOldest_60 : decode cX3_dropOldest 60 = .ok (.aload_n 1, 1) := by decide +kernel
theorem dX3_dropOldest_61 : decode cX3_dropOldest 61 = .ok (.aastore, 1) := by decide +kernel
theorem dX3_dropOldest_62 : decode cX3_dropOldest 62 = .ok (.aload_n 0, 1) := by decide +kernel
theorem dX3_dropOldest_63 : decode cX3_dropOldest 63 = .ok (.dup, 1) := by decide +kernel
theorem dX3_dropOldest_64 : decode cX3_dropOldest 64 = .ok (.getfield 121, 3) := by decide +kernel
theorem dX3_dropOldest_67 : decode cX3_dropOldest 67 = .ok (.iconst 1, 1) := by decide +kernel
theorem dX3_dropOldest_68 : decode cX3_dropOldest 68 = .ok (.isub, 1) := by decide +kernel
theorem dX3_dropOldest_69 : decode cX3_dropOldest 69 = .ok (.putfield 121, 3) := by decide +kernel
theorem dX3_dropOldest_72 : decode cX3_dropOldest 72 = .ok (.return_, 1) := by decide +kernel
theorem dX3_stateAt_0 : decode cX3_stateAt 0 = .ok (.iload_n 2, 1) := by decide +kernel
theorem dX3_stateAt_1 : decode cX3_stateAt 1 = .ok (.ifCond .lt 19, 3) := by decide +kernel
theorem dX3_stateAt_4 : decode cX3_stateAt 4 = .ok (.iload_n 2, 1) := by decide +kernel
theorem dX3_stateAt_5 : decode cX3_stateAt 5 = .ok (.aload_n 1, 1) := by decide +kernel
theorem dX3_stateAt_6 : decode cX3_stateAt 6 = .ok (.arraylength, 1) := by decide +kernel
theorem dX3_stateAt_7 : decode cX3_stateAt 7 = .ok (.if_icmp .ge 13, 3) := by decide +kernel
theorem dX3_stateAt_10 : decode cX3_stateAt 10 = .ok (.aload_n 1, 1) := by decide +kernel
theorem dX3_stateAt_11 : decode cX3_stateAt 11 = .ok (.iload_n 2, 1) := by decide +kernel
theorem dX3_stateAt_12 : decode cX3_stateAt 12 = .ok (.aaload, 1) := by decide +kernel
theorem dX3_stateAt_13 : decode cX3_stateAt 13 = .ok (.ifnull 7, 3) := by decide +kernel
theorem dX3_stateAt_16 : decode cX3_stateAt 16 = .ok (.aload_n 1, 1) := by decide +kernel
theorem dX3_stateAt_17 : decode cX3_stateAt 17 = .ok (.iload_n 2, 1) := by decide +kernel
theorem dX3_stateAt_18 : decode cX3_stateAt 18 = .ok (.aaload, 1) := by decide +kernel
theorem dX3_stateAt_19 : decode cX3_stateAt 19 = .ok (.areturn, 1) := by decide +kernel
theorem dX3_stateAt_20 : decode cX3_stateAt 20 = .ok (.aload_n 0, 1) := by decide +kernel
theorem dX3_stateAt_21 : decode cX3_stateAt 21 = .ok (.getfield 27, 3) := by decide +kernel
theorem dX3_stateAt_24 : decode cX3_stateAt 24 = .ok (.areturn, 1) := by decide +kernel
theorem dX3_isSetting_0 : decode cX3_isSetting 0 = .ok (.iload_n 0, 1) := by decide +kernel
theorem dX3_isSetting_1 : decode cX3_isSetting 1 = .ok (.ifCond .lt 13, 3) := by decide +kernel
theorem dX3_isSetting_4 : decode cX3_isSetting 4 = .ok (.iload_n 0, 1) := by decide +kernel
theorem dX3_isSetting_5 : decode cX3_isSetting 5 = .ok (.bipush 9, 2) := by decide +kernel
theorem dX3_isSetting_7 : decode cX3_isSetting 7 = .ok (.if_icmp .ge 7, 3) := by decide +kernel
theorem dX3_isSetting_10 : decode cX3_isSetting 10 = .ok (.iconst 1, 1) := by decide +kernel
theorem dX3_isSetting_11 : decode cX3_isSetting 11 = .ok (.goto 4, 3) := by decide +kernel
theorem dX3_isSetting_14 : decode cX3_isSetting 14 = .ok (.iconst 0, 1) := by decide +kernel
theorem dX3_isSetting_15 : decode cX3_isSetting 15 = .ok (.ireturn, 1) := by decide +kernel
theorem dX3_isLetter_0 : decode cX3_isLetter 0 = .ok (.iload_n 0, 1) := by decide +kernel
theorem dX3_isLetter_1 : decode cX3_isLetter 1 = .ok (.bipush 97, 2) := by decide +kernel
theorem dX3_isLetter_3 : decode cX3_isLetter 3 = .ok (.if_icmp .lt 13, 3) := by decide +kernel
theorem dX3_isLetter_6 : decode cX3_isLetter 6 = .ok (.iload_n 0, 1) := by decide +kernel
theorem dX3_isLetter_7 : decode cX3_isLetter 7 = .ok (.bipush 122, 2) := by decide +kernel
theorem dX3_isLetter_9 : decode cX3_isLetter 9 = .ok (.if_icmp .gt 7, 3) := by decide +kernel
theorem dX3_isLetter_12 : decode cX3_isLetter 12 = .ok (.iconst 1, 1) := by decide +kernel
theorem dX3_isLetter_13 : decode cX3_isLetter 13 = .ok (.goto 4, 3) := by decide +kernel
theorem dX3_isLetter_16 : decode cX3_isLetter 16 = .ok (.iconst 0, 1) := by decide +kernel
theorem dX3_isLetter_17 : decode cX3_isLetter 17 = .ok (.ireturn, 1) := by decide +kernel
theorem dX3_at_0 : decode cX3_at 0 = .ok (.iload_n 1, 1) := by decide +kernel
theorem dX3_at_1 : decode cX3_at 1 = .ok (.ifCond .lt 15, 3) := by decide +kernel
theorem dX3_at_4 : decode cX3_at 4 = .ok (.iload_n 1, 1) := by decide +kernel
theorem dX3_at_5 : decode cX3_at 5 = .ok (.aload_n 0, 1) := by decide +kernel
theorem dX3_at_6 : decode cX3_at 6 = .ok (.arraylength, 1) := by decide +kernel
theorem dX3_at_7 : decode cX3_at 7 = .ok (.if_icmp .ge 9, 3) := by decide +kernel
theorem dX3_at_10 : decode cX3_at 10 = .ok (.aload_n 0, 1) := by decide +kernel
theorem dX3_at_11 : decode cX3_at 11 = .ok (.iload_n 1, 1) := by decide +kernel
theorem dX3_at_12 : decode cX3_at 12 = .ok (.iaload, 1) := by decide +kernel
theorem dX3_at_13 : decode cX3_at 13 = .ok (.goto 4, 3) := by decide +kernel
theorem dX3_at_16 : decode cX3_at 16 = .ok (.iconst 0, 1) := by decide +kernel
theorem dX3_at_17 : decode cX3_at 17 = .ok (.ireturn, 1) := by decide +kernel
theorem dX3_put_0 : decode cX3_put 0 = .ok (.iload_n 1, 1) := by decide +kernel
theorem dX3_put_1 : decode cX3_put 1 = .ok (.ifCond .lt 13, 3) := by decide +kernel
theorem dX3_put_4 : decode cX3_put 4 = .ok (.iload_n 1, 1) := by decide +kernel
theorem dX3_put_5 : decode cX3_put 5 = .ok (.aload_n 0, 1) := by decide +kernel
theorem dX3_put_6 : decode cX3_put 6 = .ok (.arraylength, 1) := by decide +kernel
theorem dX3_put_7 : decode cX3_put 7 = .ok (.if_icmp .ge 7, 3) := by decide +kernel
theorem dX3_put_10 : decode cX3_put 10 = .ok (.aload_n 0, 1) := by decide +kernel
theorem dX3_put_11 : decode cX3_put 11 = .ok (.iload_n 1, 1) := by decide +kernel
theorem dX3_put_12 : decode cX3_put 12 = .ok (.iload_n 2, 1) := by decide +kernel
theorem dX3_put_13 : decode cX3_put 13 = .ok (.iastore, 1) := by decide +kernel
theorem dX3_put_14 : decode cX3_put 14 = .ok (.return_, 1) := by decide +kernel
theorem dX3_copyRow_0 : decode cX3_copyRow 0 = .ok (.aload_n 0, 1) := by decide +kernel
theorem dX3_copyRow_1 : decode cX3_copyRow 1 = .ok (.iconst 0, 1) := by decide +kernel
theorem dX3_copyRow_2 : decode cX3_copyRow 2 = .ok (.aload_n 1, 1) := by decide +kernel
theorem dX3_copyRow_3 : decode cX3_copyRow 3 = .ok (.iconst 0, 1) := by decide +kernel
theorem dX3_copyRow_4 : decode cX3_copyRow 4 = .ok (.aload_n 0, 1) := by decide +kernel
theorem dX3_copyRow_5 : decode cX3_copyRow 5 = .ok (.arraylength, 1) := by decide +kernel
theorem dX3_copyRow_6 : decode cX3_copyRow 6 = .ok (.aload_n 1, 1) := by decide +kernel
theorem dX3_copyRow_7 : decode cX3_copyRow 7 = .ok (.arraylength, 1) := by decide +kernel
theorem dX3_copyRow_8 : decode cX3_copyRow 8 = .ok (.invokestatic 250, 3) := by decide +kernel
theorem dX3_copyRow_11 : decode cX3_copyRow 11 = .ok (.invokestatic 255, 3) := by decide +kernel
theorem dX3_copyRow_14 : decode cX3_copyRow 14 = .ok (.return_, 1) := by decide +kernel
theorem dX3_limited_0 : decode cX3_limited 0 = .ok (.iload_n 1, 1) := by decide +kernel
theorem dX3_limited_1 : decode cX3_limited 1 = .ok (.iload_n 0, 1) := by decide +kernel
theorem dX3_limited_2 : decode cX3_limited 2 = .ok (.iload_n 2, 1) := by decide +kernel
theorem dX3_limited_3 : decode cX3_limited 3 = .ok (.invokestatic 250, 3) := by decide +kernel
theorem dX3_limited_6 : decode cX3_limited 6 = .ok (.invokestatic 261, 3) := by decide +kernel
theorem dX3_limited_9 : decode cX3_limited 9 = .ok (.ireturn, 1) := by decide +kernel
set_option maxRecDepth 20000 in
theorem ggX4_init_X4_layRows : GoodIn wsX4_init wsX4_layRows := goodIn_r _ [20, 21, 5, 11, 22, 23, 24, 25, 26, 27, 28, 29, 30, 31, 32, 33, 34, 35, 36, 37, 38, 39, 40] (by decide +kernel) (by decide +kernel)
set_option maxRecDepth 20000 in
theorem gX4_init_X4_layRows : GoodIn wsX4_init (wsV RX4 44 RX4 yX4_layRows wsX4_layRows) := goodIn_app (goodIn_of _ (by decide +kernel)) ggX4_init_X4_layRows
theorem dX4_init_0 : decode cX4_init 0 = .ok (.aload_n 0, 1) := by decide +kernel
theorem dX4_init_1 : decode cX4_init 1 = .ok (.invokespecial 1, 3) := by decide +kernel
theorem dX4_init_4 : decode cX4_init 4 = .ok (.aload_n 0, 1) := by decide +kernel
theorem dX4_init_5 : decode cX4_init 5 = .ok (.sipush 510, 3) := by decide +kernel
theorem dX4_init_8 : decode cX4_init 8 = .ok (.newarray .int, 2) := by decide +kernel
theorem dX4_init_10 : decode cX4_init 10 = .ok (.putfield 7, 3) := by decide +kernel
theorem dX4_init_13 : decode cX4_init 13 = .ok (.aload_n 0, 1) := by decide +kernel
theorem dX4_init_14 : decode cX4_init 14 = .ok (.sipush 4080, 3) := by decide +kernel
theorem dX4_init_17 : decode cX4_init 17 = .ok (.newarray .int, 2) := by decide +kernel
theorem dX4_init_19 : decode cX4_init 19 = .ok (.putfield 13, 3) := by decide +kernel
theorem dX4_init_22 : decode cX4_init 22 = .ok (.aload_n 0, 1) := by decide +kernel
theorem dX4_init_23 : decode cX4_init 23 = .ok (.sipush 1020, 3) := by decide +kernel
theorem dX4_init_26 : decode cX4_init 26 = .ok (.newarray .int, 2) := by decide +kernel
theorem dX4_init_28 : decode cX4_init 28 = .ok (.putfield 16, 3) := by decide +kernel
theorem dX4_init_31 : decode cX4_init 31 = .ok (.aload_n 0, 1) := by decide +kernel
theorem dX4_init_32 : decode cX4_init 32 = .ok (.sipush 140, 3) := by decide +kernel
theorem dX4_init_35 : decode cX4_init 35 = .ok (.newarray .int, 2) := by decide +kernel
theorem dX4_init_37 : decode cX4_init 37 = .ok (.putfield 19, 3) := by decide +kernel
theorem dX4_init_40 : decode cX4_init 40 = .ok (.aload_n 0, 1) := by decide +kernel
theorem dX4_init_41 : decode cX4_init 41 = .ok (.bipush (-9), 2) := by decide +kernel
theorem dX4_init_43 : decode cX4_init 43 = .ok (.putfield 22, 3) := by decide +kernel
theorem dX4_init_46 : decode cX4_init 46 = .ok (.aload_n 0, 1) := by decide +kernel
theorem dX4_init_47 : decode cX4_init 47 = .ok (.bipush (-9), 2) := by decide +kernel
theorem dX4_init_49 : decode cX4_init 49 = .ok (.putfield 26, 3) := by decide +kernel
theorem dX4_init_52 : decode cX4_init 52 = .ok (.aload_n 0, 1) := by decide +kernel
theorem dX4_init_53 : decode cX4_init 53 = .ok (.bipush 120, 2) := by decide +kernel
theorem dX4_init_55 : decode cX4_init 55 = .ok (.newarray .int, 2) := by decide +kernel
theorem dX4_init_57 : decode cX4_init 57 = .ok (.putfield 29, 3) := by decide +kernel
theorem dX4_init_60 : decode cX4_init 60 = .ok (.aload_n 0, 1) := by decide +kernel
theorem dX4_init_61 : decode cX4_init 61 = .ok (.bipush 120, 2) := by decide +kernel
theorem dX4_init_63 : decode cX4_init 63 = .ok (.newarray .int, 2) := by decide +kernel
theorem dX4_init_65 : decode cX4_init 65 = .ok (.putfield 32, 3) := by decide +kernel
theorem dX4_init_68 : decode cX4_init 68 = .ok (.aload_n 0, 1) := by decide +kernel
theorem dX4_init_69 : decode cX4_init 69 = .ok (.bipush 120, 2) := by decide +kernel
theorem dX4_init_71 : decode cX4_init 71 = .ok (.newarray .int, 2) := by decide +kernel
theorem dX4_init_73 : decode cX4_init 73 = .ok (.putfield 35, 3) := by decide +kernel
theorem dX4_init_76 : decode cX4_init 76 = .ok (.aload_n 0, 1) := by decide +kernel
theorem dX4_init_77 : decode cX4_init 77 = .ok (.bipush 120, 2) := by decide +kernel
theorem dX4_init_79 : decode cX4_init 79 = .ok (.newarray .int, 2) := by decide +kernel
theorem dX4_init_81 : decode cX4_init 81 = .ok (.putfield 38, 3) := by decide +kernel
theorem dX4_init_84 : decode cX4_init 84 = .ok (.aload_n 0, 1) := by decide +kernel
theorem dX4_init_85 : decode cX4_init 85 = .ok (.sipush 510, 3) := by decide +kernel
theorem dX4_init_88 : decode cX4_init 88 = .ok (.newarray .int, 2) := by decide +kernel
theorem dX4_init_90 : decode cX4_init 90 = .ok (.putfield 41, 3) := by decide +kernel
theorem dX4_init_93 : decode cX4_init 93 = .ok (.aload_n 0, 1) := by decide +kernel
theorem dX4_init_94 : decode cX4_init 94 = .ok (.getfield 7, 3) := by decide +kernel
theorem dX4_init_97 : decode cX4_init 97 = .ok (.iconst 0, 1) := by decide +kernel
theorem dX4_init_98 : decode cX4_init 98 = .ok (.iconst 5, 1) := by decide +kernel
theorem dX4_init_99 : decode cX4_init 99 = .ok (.iastore, 1) := by decide +kernel
theorem dX4_init_100 : decode cX4_init 100 = .ok (.aload_n 0, 1) := by decide +kernel
theorem dX4_init_101 : decode cX4_init 101 = .ok (.getfield 7, 3) := by decide +kernel
theorem dX4_init_104 : decode cX4_init 104 = .ok (.iconst 1, 1) := by decide +kernel
theorem dX4_init_105 : decode cX4_init 105 = .ok (.iconst 3, 1) := by decide +kernel
theorem dX4_init_106 : decode cX4_init 106 = .ok (.iastore, 1) := by decide +kernel
theorem dX4_init_107 : decode cX4_init 107 = .ok (.aload_n 0, 1) := by decide +kernel
theorem dX4_init_108 : decode cX4_init 108 = .ok (.getfield 7, 3) := by decide +kernel
theorem dX4_init_111 : decode cX4_init 111 = .ok (.iconst 2, 1) := by decide +kernel
theorem dX4_init_112 : decode cX4_init 112 = .ok (.iconst 1, 1) := by decide +kernel
theorem dX4_init_113 : decode cX4_init 113 = .ok (.iastore, 1) := by decide +kernel
theorem dX4_init_114 : decode cX4_init 114 = .ok (.aload_n 0, 1) := by decide +kernel
theorem dX4_init_115 : decode cX4_init 115 = .ok (.getfield 7, 3) := by decide +kernel
theorem dX4_init_118 : decode cX4_init 118 = .ok (.iconst 3, 1) := by decide +kernel
theorem dX4_init_119 : decode cX4_init 119 = .ok (.bipush 8, 2) := by decide +kernel
theorem dX4_init_121 : decode cX4_init 121 = .ok (.iastore, 1) := by decide +kernel
theorem dX4_init_122 : decode cX4_init 122 = .ok (.aload_n 0, 1) := by decide +kernel
theorem dX4_init_123 : decode cX4_init 123 = .ok (.getfield 7, 3) := by decide +kernel
theorem dX4_init_126 : decode cX4_init 126 = .ok (.iconst 4, 1) := by decide +kernel
theorem dX4_init_127 : decode cX4_init 127 = .ok (.bipush 15, 2) := by decide +kernel
theorem dX4_init_129 : decode cX4_init 129 = .ok (.iastore, 1) := by decide +kernel
theorem dX4_init_130 : decode cX4_init 130 = .ok (.aload_n 0, 1) := by decide +kernel
theorem dX4_init_131 : decode cX4_init 131 = .ok (.getfield 7, 3) := by decide +kernel
theorem dX4_init_134 : decode cX4_init 134 = .ok (.iconst 5, 1) := by decide +kernel
theorem dX4_init_135 : decode cX4_init 135 = .ok (.iconst 2, 1) := by decide +kernel
theorem dX4_init_136 : decode cX4_init 136 = .ok (.iastore, 1) := by decide +kernel
theorem dX4_init_137 : decode cX4_init 137 = .ok (.aload_n 0, 1) := by decide +kernel
theorem dX4_init_138 : decode cX4_init 138 = .ok (.getfield 7, 3) := by decide +kernel
theorem dX4_init_141 : decode cX4_init 141 = .ok (.bipush 6, 2) := by decide +kernel
theorem dX4_init_143 : decode cX4_init 143 = .ok (.bipush 20, 2) := by decide +kernel
theorem dX4_init_145 : decode cX4_init 145 = .ok (.iastore, 1) := by decide +kernel
theorem dX4_init_146 : decode cX4_init 146 = .ok (.aload_n 0, 1) := by decide +kernel
theorem dX4_init_147 : decode cX4_init 147 = .ok (.getfield 7, 3) := by decide +kernel
theorem dX4_init_150 : decode cX4_init 150 = .ok (.bipush 7, 2) := by decide +kernel
theorem dX4_init_152 : decode cX4_init 152 = .ok (.bipush 25, 2) := by decide +kernel
theorem dX4_init_154 : decode cX4_init 154 = .ok (.iastore, 1) := by decide +kernel
theorem dX4_init_155 : decode cX4_init 155 = .ok (.aload_n 0, 1) := by decide +kernel
theorem dX4_init_156 : decode cX4_init 156 = .ok (.getfield 7, 3) := by decide +kernel
theorem dX4_init_159 : decode cX4_init 159 = .ok (.bipush 8, 2) := by decide +kernel
theorem dX4_init_161 : decode cX4_init 161 = .ok (.iconst 2, 1) := by decide +kernel
theorem dX4_init_162 : decode cX4_init 162 = .ok (.iastore, 1) := by decide +kernel
theorem dX4_init_163 : decode cX4_init 163 = .ok (.aload_n 0, 1) := by decide +kernel
theorem dX4_init_164 : decode cX4_init 164 = .ok (.getfield 7, 3) := by decide +kernel
theorem dX4_init_167 : decode cX4_init 167 = .ok (.bipush 9, 2) := by decide +kernel
theorem dX4_init_169 : decode cX4_init 169 = .ok (.iconst 1, 1) := by decide +kernel
theorem dX4_init_170 : decode cX4_init 170 = .ok (.iastore, 1) := by decide +kernel
theorem dX4_init_171 : decode cX4_init 171 = .ok (.aload_n 0, 1) := by decide +kernel
theorem dX4_init_172 : decode cX4_init 172 = .ok (.getfield 7, 3) := by decide +kernel
theorem dX4_init_175 : decode cX4_init 175 = .ok (.sipush 150, 3) := by decide +kernel
theorem dX4_init_178 : decode cX4_init 178 = .ok (.bipush 97, 2) := by decide +kernel
theorem dX4_init_180 : decode cX4_init 180 = .ok (.iastore, 1) := by decide +kernel
theorem dX4_init_181 : decode cX4_init 181 = .ok (.aload_n 0, 1) := by decide +kernel
theorem dX4_init_182 : decode cX4_init 182 = .ok (.invokevirtual 44, 3) := by decide +kernel
theorem dX4_init_185 : decode cX4_init 185 = .ok (.return_, 1) := by decide +kernel
theorem dX4_isIn_0 : decode cX4_isIn 0 = .ok (.iload_n 0, 1) := by decide +kernel
theorem dX4_isIn_1 : decode cX4_isIn 1 = .ok (.iload_n 1, 1) := by decide +kernel
theorem dX4_isIn_2 : decode cX4_isIn 2 = .ok (.if_icmp .lt 12, 3) := by decide +kernel
theorem dX4_isIn_5 : decode cX4_isIn 5 = .ok (.iload_n 0, 1) := by decide +kernel
theorem dX4_isIn_6 : decode cX4_isIn 6 = .ok (.iload_n 2, 1) := by decide +kernel
theorem dX4_isIn_7 : decode cX4_isIn 7 = .ok (.if_icmp .gt 7, 3) := by decide +kernel
theorem dX4_isIn_10 : decode cX4_isIn 10 = .ok (.iconst 1, 1) := by decide +kernel
theorem dX4_isIn_11 : decode cX4_isIn 11 = .ok (.goto 4, 3) := by decide +kernel
theorem dX4_isIn_14 : decode cX4_isIn 14 = .ok (.iconst 0, 1) := by decide +kernel
theorem dX4_isIn_15 : decode cX4_isIn 15 = .ok (.ireturn, 1) := by decide +kernel
theorem dX4_remember_0 : decode cX4_remember 0 = .ok (.aload_n 0, 1) := by decide +kernel
theorem dX4_remember_1 : decode cX4_remember 1 = .ok (.getfield 47, 3) := by decide +kernel
theorem dX4_remember_4 : decode cX4_remember 4 = .ok (.bipush 8, 2) := by decide +kernel
theorem dX4_remember_6 : decode cX4_remember 6 = .ok (.if_icmp .ne 44, 3) := by decide +kernel
theorem dX4_remember_9 : decode cX4_remember 9 = .ok (.iconst 0, 1) := by decide +kernel
theorem dX4_remember_10 : decode cX4_remember 10 = .ok (.istore_n 1, 1) := by decide +kernel
theorem dX4_remember_11 : decode cX4_remember 11 = .ok (.iload_n 1, 1) := by decide +kernel
theorem dX4_remember_12 : decode cX4_remember 12 = .ok (.sipush 3570, 3) := by decide +kernel
theorem dX4_remember_15 : decode cX4_remember 15 = .ok (.if_icmp .ge 25, 3) := by decide +kernel
theorem dX4_remember_18 : decode cX4_remember 18 = .ok (.aload_n 0, 1) := by decide +kernel
theorem dX4_remember_19 : decode cX4_remember 19 = .ok (.getfield 13, 3) := by decide +kernel
theorem dX4_remember_22 : decode cX4_remember 22 = .ok (.iload_n 1, 1) := by decide +kernel
theorem dX4_remember_23 : decode cX4_remember 23 = .ok (.aload_n 0, 1) := by decide +kernel
theorem dX4_remember_24 : decode cX4_remember 24 = .ok (.getfield 13, 3) := by decide +kernel
theorem dX4_remember_27 : decode cX4_remember 27 = .ok (.iload_n 1, 1) := by decide +kernel
theorem dX4_remember_28 : decode cX4_remember 28 = .ok (.sipush 510, 3) := by decide +kernel
theorem dX4_remember_31 : decode cX4_remember 31 = .ok (.iadd, 1) := by decide +kernel
theorem dX4_remember_32 : decode cX4_remember 32 = .ok (.iaload, 1) := by decide +kernel
theorem dX4_remember_33 : decode cX4_remember 33 = .ok (.iastore, 1) := by decide +kernel
theorem dX4_remember_34 : decode cX4_remember 34 = .ok (.iinc 1 1, 3) := by decide +kernel
theorem dX4_remember_37 : decode cX4_remember 37 = .ok (.goto (-26), 3) := by decide +kernel
theorem dX4_remember_40 : decode cX4_remember 40 = .ok (.aload_n 0, 1) := by decide +kernel
theorem dX4_remember_41 : decode cX4_remember 41 = .ok (.dup, 1) := by decide +kernel
theorem dX4_remember_42 : decode cX4_remember 42 = .ok (.getfield 47, 3) := by decide +kernel
theorem dX4_remember_45 : decode cX4_remember 45 = .ok (.iconst 1, 1) := by decide +kernel
theorem dX4_remember_46 : decode cX4_remember 46 = .ok (.isub, 1) := by decide +kernel
theorem dX4_remember_47 : decode cX4_remember 47 = .ok (.putfield 47, 3) := by decide +kernel
theorem dX4_remember_50 : decode cX4_remember 50 = .ok (.iconst 0, 1) := by decide +kernel
theorem dX4_remember_51 : decode cX4_remember 51 = .ok (.istore_n 1, 1) := by decide +kernel
theorem dX4_remember_52 : decode cX4_remember 52 = .ok (.iload_n 1, 1) := by decide +kernel
theorem dX4_remember_53 : decode cX4_remember 53 = .ok (.sipush 510, 3) := by decide +kernel
theorem dX4_remember_56 : decode cX4_remember 56 = .ok (.if_icmp .ge 30, 3) := by decide +kernel
theorem dX4_remember_59 : decode cX4_remember 59 = .ok (.aload_n 0, 1) := by decide +kernel
theorem dX4_remember_60 : decode cX4_remember 60 = .ok (.getfield 13, 3) := by decide +kernel
theorem dX4_remember_63 : decode cX4_remember 63 = .ok (.sipush 510, 3) := by decide +kernel
theorem dX4_remember_66 : decode cX4_remember 66 = .ok (.aload_n 0, 1) := by decide +kernel
theorem dX4_remember_67 : decode cX4_remember 67 = .ok (.getfield 47, 3) := by decide +kernel
theorem dX4_remember_70 : decode cX4_remember 70 = .ok (.imul, 1) := by decide +kernel
theorem dX4_remember_71 : decode cX4_remember 71 = .ok (.iload_n 1, 1) := by decide +kernel
theorem dX4_remember_72 : decode cX4_remember 72 = .ok (.iadd, 1) := by decide +kernel
theorem dX4_remember_73 : decode cX4_remember 73 = .ok (.aload_n 0, 1) := by decide +kernel
theorem dX4_remember_74 : decode cX4_remember 74 = .ok (.getfield 7, 3) := by decide +kernel
theorem dX4_remember_77 : decode cX4_remember 77 = .ok (.iload_n 1, 1) := by decide +kernel
theorem dX4_remember_78 : decode cX4_remember 78 = .ok (.iaload, 1) := by decide +kernel
theorem dX4_remember_79 : decode cX4_remember 79 = .ok (.iastore, 1) := by decide +kernel
theorem dX4_remember_80 : decode cX4_remember 80 = .ok (.iinc 1 1, 3) := by decide +kernel
theorem dX4_remember_83 : decode cX4_remember 83 = .ok (.goto (-31), 3) := by decide +kernel
theorem dX4_remember_86 : decode cX4_remember 86 = .ok (.aload_n 0, 1) := by decide +kernel
theorem dX4_remember_87 : decode cX4_remember 87 = .ok (.dup, 1) := by decide +kernel
theorem dX4_remember_88 : decode cX4_remember 88 = .ok (.getfield 47, 3) := by decide +kernel
theorem dX4_remember_91 : decode cX4_remember 91 = .ok (.iconst 1, 1) := by decide +kernel
theorem dX4_remember_92 : decode cX4_remember 92 = .ok (.iadd, 1) := by decide +kernel
theorem dX4_remember_93 : decode cX4_remember 93 = .ok (.putfield 47, 3) := by decide +kernel
theorem dX4_remember_96 : decode cX4_remember 96 = .ok (.return_, 1) := by decide +kernel
theorem dX4_layRows_0 : decode cX4_layRows 0 = .ok (.aload_n 0, 1) := by decide +kernel
theorem dX4_layRows_1 : decode cX4_layRows 1 = .ok (.iconst 0, 1) := by decide +kernel
theorem dX4_layRows_2 : decode cX4_layRows 2 = .ok (.putfield 50, 3) := by decide +kernel
theorem dX4_layRows_5 : decode cX4_layRows 5 = .ok (.iconst 0, 1) := by decide +kernel
theorem dX4_layRows_6 : decode cX4_layRows 6 = .ok (.istore_n 1, 1) := by decide +kernel
theorem dX4_layRows_7 : decode cX4_layRows 7 = .ok (.iconst 0, 1) := by decide +kernel
theorem dX4_layRows_8 : decode cX4_layRows 8 = .ok (.istore_n 2, 1) := by decide +kernel
theorem dX4_layRows_9 : decode cX4_layRows 9 = .ok (.iload_n 2, 1) := by decide +kernel
theorem dX4_layRows_10 : decode cX4_layRows 10 = .ok (.aload_n 0, 1) := by decide +kernel
theorem dX4_layRows_11 : decode cX4_layRows 11 = .ok (.getfield 7, 3) := by decide +kernel
theorem dX4_layRows_14 : decode cX4_layRows 14 = .ok (.bipush 9, 2) := by decide +kernel
theorem dX4_layRows_16 : decode cX4_layRows 16 = .ok (.iaload, 1) := by decide +kernel
theorem dX4_layRows_17 : decode cX4_layRows 17 = .ok (.if_icmp .ge 96, 3) := by decide +kernel
theorem dX4_layRows_20 : decode cX4_layRows 20 = .ok (.iload_n 2, 1) := by decide +kernel
theorem dX4_layRows_21 : decode cX4_layRows 21 = .ok (.ifCond .eq 38, 3) := by decide +kernel
theorem dX4_layRows_24 : decode cX4_layRows 24 = .ok (.aload_n 0, 1) := by decide +kernel
theorem dX4_layRows_25 : decode cX4_layRows 25 = .ok (.getfield 7, 3) := by decide +kernel
theorem dX4_layRows_28 : decode cX4_layRows 28 = .ok (.sipush 390, 3) := by decide +kernel
theorem dX4_layRows_31 : decode cX4_layRows 31 = .ok (.iload_n 2, 1) := by decide +kernel
theorem dX4_layRows_32 : decode cX4_layRows 32 = .ok (.iadd, 1) := by decide +kernel
theorem dX4_layRows_33 : decode cX4_layRows 33 = .ok (.iaload, 1) := by decide +kernel
theorem dX4_layRows_34 : decode cX4_layRows 34 = .ok (.aload_n 0, 1) := by decide +kernel
theorem dX4_layRows_35 : decode cX4_layRows 35 = .ok (.getfield 7, 3) := by decide +kernel
theorem dX4_layRows_38 : decode cX4_layRows 38 = .ok (.sipush 390, 3) := by decide +kernel
theorem dX4_layRows_41 : decode cX4_layRows 41 = .ok (.iload_n 2, 1) := by decide +kernel
theorem dX4_layRows_42 : decode cX4_layRows 42 = .ok (.iadd, 1) := by decide +kernel
theorem dX4_layRows_43 : decode cX4_layRows 43 = .ok (.iconst 1, 1) := by decide +kernel
theorem dX4_layRows_44 : decode cX4_layRows 44 = .ok (.isub, 1) := by decide +kernel
theorem dX4_layRows_45 : decode cX4_layRows 45 = .ok (.iaload, 1) := by decide +kernel
theorem dX4_layRows_46 : decode cX4_layRows 46 = .ok (.if_icmp .ne 13, 3) := by decide +kernel
theorem dX4_layRows_49 : decode cX4_layRows 49 = .ok (.iload_n 1, 1) := by decide +kernel
theorem dX4_layRows_50 : decode cX4_layRows 50 = .ok (.aload_n 0, 1) := by decide +kernel
theorem dX4_layRows_51 : decode cX4_layRows 51 = .ok (.getfield 7, 3) := by decide +kernel
theorem dX4_layRows_54 : decode cX4_layRows 54 = .ok (.iconst 0, 1) := by decide +kernel
theorem dX4_layRows_55 : decode cX4_layRows 55 = .ok (.iaload, 1) := by decide +kernel
theorem dX4_layRows_56 : decode cX4_layRows 56 = .ok (.if_icmp .ne 7, 3) := by decide +kernel
theorem dX4_layRows_59 : decode cX4_layRows 59 = .ok (.iconst 1, 1) := by decide +kernel
theorem dX4_layRows_60 : decode cX4_layRows 60 = .ok (.goto 4, 3) := by decide +kernel
theorem dX4_layRows_63 : decode cX4_layRows 63 = .ok (.iconst 0, 1) := by decide +kernel
theorem dX4_layRows_64 : decode cX4_layRows 64 = .ok (.istore_n 3, 1) := by decide +kernel
theorem dX4_layRows_65 : decode cX4_layRows 65 = .ok (.aload_n 0, 1) := by decide +kernel
theorem dX4_layRows_66 : decode cX4_layRows 66 = .ok (.dup, 1) := by decide +kernel
theorem dX4_layRows_67 : decode cX4_layRows 67 = .ok (.getfield 50, 3) := by decide +kernel
theorem dX4_layRows_70 : decode cX4_layRows 70 = .ok (.iload_n 3, 1) := by decide +kernel
theorem dX4_layRows_71 : decode cX4_layRows 71 = .ok (.ifCond .eq 7, 3) := by decide +kernel
theorem dX4_layRows_74 : decode cX4_layRows 74 = .ok (.iconst 1, 1) := by decide +kernel
theorem dX4_layRows_75 : decode cX4_layRows 75 = .ok (.goto 4, 3) := by decide +kernel
theorem dX4_layRows_78 : decode cX4_layRows 78 = .ok (.iconst 0, 1) := by decide +kernel
theorem dX4_layRows_79 : decode cX4_layRows 79 = .ok (.iadd, 1) := by decide +kernel
theorem dX4_layRows_80 : decode cX4_layRows 80 = .ok (.putfield 50, 3) := by decide +kernel
theorem dX4_layRows_83 : decode cX4_layRows 83 = .ok (.iload_n 3, 1) := by decide +kernel
theorem dX4_layRows_84 : decode cX4_layRows 84 = .ok (.ifCond .eq 7, 3) := by decide +kernel
theorem dX4_layRows_87 : decode cX4_layRows 87 = .ok (.iconst 1, 1) := by decide +kernel
theorem dX4_layRows_88 : decode cX4_layRows 88 = .ok (.goto 6, 3) := by decide +kernel
theorem dX4_layRows_91 : decode cX4_layRows 91 = .ok (.iload_n 1, 1) := by decide +kernel
theorem dX4_layRows_92 : decode cX4_layRows 92 = .ok (.iconst 1, 1) := by decide +kernel
theorem dX4_layRows_93 : decode cX4_layRows 93 = .ok (.iadd, 1) := by decide +kernel
theorem dX4_layRows_94 : decode cX4_layRows 94 = .ok (.istore_n 1, 1) := by decide +kernel
theorem dX4_layRows_95 : decode cX4_layRows 95 = .ok (.aload_n 0, 1) := by decide +kernel
theorem dX4_layRows_96 : decode cX4_layRows 96 = .ok (.getfield 29, 3) := by decide +kernel
theorem dX4_layRows_99 : decode cX4_layRows 99 = .ok (.iload_n 2, 1) := by decide +kernel
theorem dX4_layRows_100 : decode cX4_layRows 100 = .ok (.aload_n 0, 1) := by decide +kernel
theorem dX4_layRows_101 : decode cX4_layRows 101 = .ok (.getfield 50, 3) := by decide +kernel
theorem dX4_layRows_104 : decode cX4_layRows 104 = .ok (.iconst 1, 1) := by decide +kernel
theorem dX4_layRows_105 : decode cX4_layRows 105 = .ok (.isub, 1) := by decide +kernel
theorem dX4_layRows_106 : decode cX4_layRows 106 = .ok (.iastore, 1) := by decide +kernel
theorem dX4_layRows_107 : decode cX4_layRows 107 = .ok (.iinc 2 1, 3) := by decide +kernel
theorem dX4_layRows_110 : decode cX4_layRows 110 = .ok (.goto (-101), 3) := by decide +kernel
theorem dX4_layRows_113 : decode cX4_layRows 113 = .ok (.return_, 1) := by decide +kernel
theorem dX4_greatestTop_0 : decode cX4_greatestTop 0 = .ok (.aload_n 0, 1) := by decide +kernel
theorem dX4_greatestTop_1 : decode cX4_greatestTop 1 = .ok (.getfield 50, 3) := by decide +kernel
theorem dX4_greatestTop_4 : decode cX4_greatestTop 4 = .ok (.aload_n 0, 1) := by decide +kernel
theorem dX4_greatestTop_5 : decode cX4_greatestTop 5 = .ok (.getfield 7, 3) := by decide +kernel
theorem dX4_greatestTop_8 : decode cX4_greatestTop 8 = .ok (.iconst 1, 1) := by decide +kernel
theorem dX4_greatestTop_9 : decode cX4_greatestTop 9 = .ok (.iaload, 1) := by decide +kernel
theorem dX4_greatestTop_10 : decode cX4_greatestTop 10 = .ok (.if_icmp .ge 7, 3) := by decide +kernel
theorem dX4_greatestTop_13 : decode cX4_greatestTop 13 = .ok (.iconst 0, 1) := by decide +kernel
theorem dX4_greatestTop_14 : decode cX4_greatestTop 14 = .ok (.goto 17, 3) := by decide +kernel
theorem dX4_greatestTop_17 : decode cX4_greatestTop 17 = .ok (.bipush 100, 2) := by decide +kernel
theorem dX4_greatestTop_19 : decode cX4_greatestTop 19 = .ok (.aload_n 0, 1) := by decide +kernel
theorem dX4_greatestTop_20 : decode cX4_greatestTop 20 = .ok (.getfield 50, 3) := by decide +kernel
theorem dX4_greatestTop_23 : decode cX4_greatestTop 23 = .ok (.aload_n 0, 1) := by decide +kernel
theorem dX4_greatestTop_24 : decode cX4_greatestTop 24 = .ok (.getfield 7, 3) := by decide +kernel
theorem dX4_greatestTop_27 : decode cX4_greatestTop 27 = .ok (.iconst 1, 1) := by decide +kernel
theorem dX4_greatestTop_28 : decode cX4_greatestTop 28 = .ok (.iaload, 1) := by decide +kernel
theorem dX4_greatestTop_29 : decode cX4_greatestTop 29 = .ok (.isub, 1) := by decide +kernel
theorem dX4_greatestTop_30 : decode cX4_greatestTop 30 = .ok (.imul, 1) := by decide +kernel
theorem dX4_greatestTop_31 : decode cX4_greatestTop 31 = .ok (.ireturn, 1) := by decide +kernel
set_option maxRecDepth 20000 in
theorem ggX4_limited_X4_greatestTop : GoodIn wsX4_limited wsX4_greatestTop := goodIn_r _ [5, 6, 7, 8, 9, 10, 11, 12, 13, 14, 15, 16, 17, 18, 19, 20, 21, 22, 23, 24, 25, 26] (by decide +kernel) (by decide +kernel)
set_option maxRecDepth 20000 in
theorem gX4_limited_X4_greatestTop : GoodIn wsX4_limited (wsV RX4 53 RX4 yX4_greatestTop wsX4_greatestTop) := goodIn_app (goodIn_of _ (by decide +kernel)) ggX4_limited_X4_greatestTop
theorem dX4_limited_0 : decode cX4_limited 0 = .ok (.iload_n 1, 1) := by decide +kernel
theorem dX4_limited_1 : decode cX4_limited 1 = .ok (.ifCond .ge 7, 3) := by decide +kernel
theorem dX4_limited_4 : decode cX4_limited 4 = .ok (.iconst 0, 1) := by decide +kernel
theorem dX4_limited_5 : decode cX4_limited 5 = .ok (.goto 19, 3) := by decide +kernel
theorem dX4_limited_8 : decode cX4_limited 8 = .ok (.iload_n 1, 1) := by decide +kernel
theorem dX4_limited_9 : decode cX4_limited 9 = .ok (.aload_n 0, 1) := by decide +kernel
theorem dX4_limited_10 : decode cX4_limited 10 = .ok (.invokevirtual 53, 3) := by decide +kernel
theorem dX4_limited_13 : decode cX4_limited 13 = .ok (.if_icmp .le 10, 3) := by decide +kernel
theorem dX4_limited_16 : decode cX4_limited 16 = .ok (.aload_n 0, 1) := by decide +kernel
theorem dX4_limited_17 : decode cX4_limited 17 = .ok (.invokevirtual 53, 3) := by decide +kernel
theorem dX4_limited_20 : decode cX4_limited 20 = .ok (.goto 4, 3) := by decide +kernel
theorem dX4_limited_23 : decode cX4_limited 23 = .ok (.iload_n 1, 1) := by decide +kernel
theorem dX4_limited_24 : decode cX4_limited 24 = .ok (.ireturn, 1) := by decide +kernel
set_option maxRecDepth 20000 in
theorem ggX4_isWord_X4_isIn : GoodIn wsX4_isWord wsX4_isIn := goodIn_r _ [5] (by decide +kernel) (by decide +kernel)
set_option maxRecDepth 20000 in
theorem gX4_isWord_X4_isIn : GoodIn wsX4_isWord (va_wsS RX4 57 yX4_isIn wsX4_isIn) := goodIn_app (goodIn_of _ (by decide +kernel)) ggX4_isWord_X4_isIn
theorem dX4_isWord_0 : decode cX4_isWord 0 = .ok (.iload_n 1, 1) := by decide +kernel
theorem dX4_isWord_1 : decode cX4_isWord 1 = .ok (.iconst 0, 1) := by decide +kernel
theorem dX4_isWord_2 : decode cX4_isWord 2 = .ok (.aload_n 0, 1) := by decide +kernel
theorem dX4_isWord_3 : decode cX4_isWord 3 = .ok (.getfield 7, 3) := by decide +kernel
theorem dX4_isWord_6 : decode cX4_isWord 6 = .ok (.bipush 9, 2) := by decide +kernel
theorem dX4_isWord_8 : decode cX4_isWord 8 = .ok (.iaload, 1) := by decide +kernel
theorem dX4_isWord_9 : decode cX4_isWord 9 = .ok (.iconst 1, 1) := by decide +kernel
theorem dX4_isWord_10 : decode cX4_isWord 10 = .ok (.isub, 1) := by decide +kernel
theorem dX4_isWord_11 : decode cX4_isWord 11 = .ok (.invokestatic 57, 3) := by decide +kernel
theorem dX4_isWord_14 : decode cX4_isWord 14 = .ok (.ireturn, 1) := by decide +kernel
set_option maxRecDepth 20000 in
theorem ggX4_isLetter_X4_isIn : GoodIn wsX4_isLetter wsX4_isIn := goodIn_r _ [4] (by decide +kernel) (by decide +kernel)
set_option maxRecDepth 20000 in
theorem gX4_isLetter_X4_isIn : GoodIn wsX4_isLetter (va_wsS RX4 57 yX4_isIn wsX4_isIn) := goodIn_app (goodIn_of _ (by decide +kernel)) ggX4_isLetter_X4_isIn
theorem dX4_isLetter_0 : decode cX4_isLetter 0 = .ok (.iload_n 0, 1) := by decide +kernel
theorem dX4_isLetter_1 : decode cX4_isLetter 1 = .ok (.bipush 97, 2) := by decide +kernel
theorem dX4_isLetter_3 : decode cX4_isLetter 3 = .ok (.bipush 122, 2) := by decide +kernel
theorem dX4_isLetter_5 : decode cX4_isLetter 5 = .ok (.invokestatic 57, 3) := by decide +kernel
theorem dX4_isLetter_8 : decode cX4_isLetter 8 = .ok (.ireturn, 1) := by decide +kernel
theorem dX4_scoreOf_0 : decode cX4_scoreOf 0 = .ok (.iconst 1, 1) := by decide +kernel
theorem dX4_scoreOf_1 : decode cX4_scoreOf 1 = .ok (.istore_n 2, 1) := by decide +kernel
theorem dX4_scoreOf_2 : decode cX4_scoreOf 2 = .ok (.iload_n 2, 1) := by decide +kernel
theorem dX4_scoreOf_3 : decode cX4_scoreOf 3 = .ok (.iconst 3, 1) := by decide +kernel
theorem dX4_scoreOf_4 : decode cX4_scoreOf 4 = .ok (.if_icmp .gt 52, 3) := by decide +kernel
theorem dX4_scoreOf_7 : decode cX4_scoreOf 7 = .ok (.iload_n 2, 1) := by decide +kernel
theorem dX4_scoreOf_8 : decode cX4_scoreOf 8 = .ok (.aload_n 0, 1) := by decide +kernel
theorem dX4_scoreOf_9 : decode cX4_scoreOf 9 = .ok (.getfield 7, 3) := by decide +kernel
theorem dX4_scoreOf_12 : decode cX4_scoreOf 12 = .ok (.bipush 20, 2) := by decide +kernel
theorem dX4_scoreOf_14 : decode cX4_scoreOf 14 = .ok (.iaload, 1) := by decide +kernel
theorem dX4_scoreOf_15 : decode cX4_scoreOf 15 = .ok (.if_icmp .gt 41, 3) := by decide +kernel
theorem dX4_scoreOf_18 : decode cX4_scoreOf 18 = .ok (.iload_n 1, 1) := by decide +kernel
theorem dX4_scoreOf_19 : decode cX4_scoreOf 19 = .ok (.iload_n 2, 1) := by decide +kernel
theorem dX4_scoreOf_20 : decode cX4_scoreOf 20 = .ok (.isub, 1) := by decide +kernel
theorem dX4_scoreOf_21 : decode cX4_scoreOf 21 = .ok (.ifCond .lt 35, 3) := by decide +kernel
theorem dX4_scoreOf_24 : decode cX4_scoreOf 24 = .ok (.aload_n 0, 1) := by decide +kernel
theorem dX4_scoreOf_25 : decode cX4_scoreOf 25 = .ok (.getfield 7, 3) := by decide +kernel
theorem dX4_scoreOf_28 : decode cX4_scoreOf 28 = .ok (.sipush 150, 3) := by decide +kernel
theorem dX4_scoreOf_31 : decode cX4_scoreOf 31 = .ok (.iload_n 1, 1) := by decide +kernel
theorem dX4_scoreOf_32 : decode cX4_scoreOf 32 = .ok (.iadd, 1) := by decide +kernel
theorem dX4_scoreOf_33 : decode cX4_scoreOf 33 = .ok (.iload_n 2, 1) := by decide +kernel
theorem dX4_scoreOf_34 : decode cX4_scoreOf 34 = .ok (.isub, 1) := by decide +kernel
theorem dX4_scoreOf_35 : decode cX4_scoreOf 35 = .ok (.iaload, 1) := by decide +kernel
theorem dX4_scoreOf_36 : decode cX4_scoreOf 36 = .ok (.aload_n 0, 1) := by decide +kernel
theorem dX4_scoreOf_37 : decode cX4_scoreOf 37 = .ok (.getfield 7, 3) := by decide +kernel
theorem dX4_scoreOf_40 : decode cX4_scoreOf 40 = .ok (.bipush 21, 2) := by decide +kernel
theorem dX4_scoreOf_42 : decode cX4_scoreOf 42 = .ok (.iload_n 2, 1) := by decide +kernel
theorem dX4_scoreOf_43 : decode cX4_scoreOf 43 = .ok (.iadd, 1) := by decide +kernel
theorem dX4_scoreOf_44 : decode cX4_scoreOf 44 = .ok (.iconst 1, 1) := by decide +kernel
theorem dX4_scoreOf_45 : decode cX4_scoreOf 45 = .ok (.isub, 1) := by decide +kernel
theorem dX4_scoreOf_46 : decode cX4_scoreOf 46 = .ok (.iaload, 1) := by decide +kernel
theorem dX4_scoreOf_47 : decode cX4_scoreOf 47 = .ok (.if_icmp .ne 9, 3) := by decide +kernel
theorem dX4_scoreOf_50 : decode cX4_scoreOf 50 = .ok (.iinc 2 1, 3) := by decide +kernel
theorem dX4_scoreOf_53 : decode cX4_scoreOf 53 = .ok (.goto (-51), 3) := by decide +kernel
theorem dX4_scoreOf_56 : decode cX4_scoreOf 56 = .ok (.iload_n 2, 1) := by decide +kernel
theorem dX4_scoreOf_57 : decode cX4_scoreOf 57 = .ok (.ireturn, 1) := by decide +kernel
set_option maxRecDepth 20000 in
theorem ggX4_bestOf_X4_isIn : GoodIn wsX4_bestOf wsX4_isIn := goodIn_r _ [5] (by decide +kernel) (by decide +kernel)
set_option maxRecDepth 20000 in
theorem gX4_bestOf_X4_isIn : GoodIn wsX4_bestOf (va_wsS RX4 57 yX4_isIn wsX4_isIn) := goodIn_app (goodIn_of _ (by decide +kernel)) ggX4_bestOf_X4_isIn
set_option maxRecDepth 20000 in
theorem ggX4_bestOf_X4_scoreOf : GoodIn wsX4_bestOf wsX4_scoreOf := goodIn_r _ [9, 1, 14, 15, 16, 17, 18, 19, 20, 21, 22, 23, 24, 25, 26, 27, 28, 29, 30, 31, 32] (by decide +kernel) (by decide +kernel)
set_option maxRecDepth 20000 in
theorem gX4_bestOf_X4_scoreOf : GoodIn wsX4_bestOf (wsV RX4 61 RX4 yX4_scoreOf wsX4_scoreOf) := goodIn_app (goodIn_of _ (by decide +kernel)) ggX4_bestOf_X4_scoreOf
set_option maxRecDepth 20000 in
theorem ggX4_bestOf_X4_far : GoodIn wsX4_bestOf wsX4_far := goodIn_r _ [13, 1, 14, 15, 16, 17, 18, 19, 20, 21, 22, 23, 24, 25, 26, 27, 28, 29, 30, 31, 32] (by decide +kernel) (by decide +kernel)
set_option maxRecDepth 20000 in
theorem gX4_bestOf_X4_far : GoodIn wsX4_bestOf (wsV RX4 65 RX4 yX4_far wsX4_far) := goodIn_app (goodIn_of _ (by decide +kernel)) ggX4_bestOf_X4_far
theorem dX4_bestOf_0 : decode cX4_bestOf 0 = .ok (.bipush (-9), 2) := by decide +kernel
theorem dX4_bestOf_2 : decode cX4_bestOf 2 = .ok (.istore_n 2, 1) := by decide +kernel
theorem dX4_bestOf_3 : decode cX4_bestOf 3 = .ok (.iconst 0, 1) := by decide +kernel
theorem dX4_bestOf_4 : decode cX4_bestOf 4 = .ok (.istore_n 3, 1) := by decide +kernel
theorem dX4_bestOf_5 : decode cX4_bestOf 5 = .ok (.iload_n 3, 1) := by decide +kernel
theorem dX4_bestOf_6 : decode cX4_bestOf 6 = .ok (.aload_n 0, 1) := by decide +kernel
theorem dX4_bestOf_7 : decode cX4_bestOf 7 = .ok (.getfield 7, 3) := by decide +kernel
theorem dX4_bestOf_10 : decode cX4_bestOf 10 = .ok (.bipush 9, 2) := by decide +kernel
theorem dX4_bestOf_12 : decode cX4_bestOf 12 = .ok (.iaload, 1) := by decide +kernel
theorem dX4_bestOf_13 : decode cX4_bestOf 13 = .ok (.if_icmp .ge 114, 3) := by decide +kernel
theorem dX4_bestOf_16 : decode cX4_bestOf 16 = .ok (.aload_n 0, 1) := by decide +kernel
theorem dX4_bestOf_17 : decode cX4_bestOf 17 = .ok (.getfield 7, 3) := by decide +kernel
theorem dX4_bestOf_20 : decode cX4_bestOf 20 = .ok (.sipush 150, 3) := by decide +kernel
theorem dX4_bestOf_23 : decode cX4_bestOf 23 = .ok (.iload_n 3, 1) := by decide +kernel
theorem dX4_bestOf_24 : decode cX4_bestOf 24 = .ok (.iadd, 1) := by decide +kernel
theorem dX4_bestOf_25 : decode cX4_bestOf 25 = .ok (.iaload, 1) := by decide +kernel
theorem dX4_bestOf_26 : decode cX4_bestOf 26 = .ok (.iload_n 1, 1) := by decide +kernel
theorem dX4_bestOf_27 : decode cX4_bestOf 27 = .ok (.if_icmp .ne 94, 3) := by decide +kernel
theorem dX4_bestOf_30 : decode cX4_bestOf 30 = .ok (.iload_n 3, 1) := by decide +kernel
theorem dX4_bestOf_31 : decode cX4_bestOf 31 = .ok (.aload_n 0, 1) := by decide +kernel
theorem dX4_bestOf_32 : decode cX4_bestOf 32 = .ok (.getfield 7, 3) := by decide +kernel
theorem dX4_bestOf_35 : decode cX4_bestOf 35 = .ok (.bipush 11, 2) := by decide +kernel
theorem dX4_bestOf_37 : decode cX4_bestOf 37 = .ok (.iaload, 1) := by decide +kernel
theorem dX4_bestOf_38 : decode cX4_bestOf 38 = .ok (.isub, 1) := by decide +kernel
theorem dX4_bestOf_39 : decode cX4_bestOf 39 = .ok (.aload_n 0, 1) := by decide +kernel
theorem dX4_bestOf_40 : decode cX4_bestOf 40 = .ok (.getfield 7, 3) := by decide +kernel
theorem dX4_bestOf_43 : decode cX4_bestOf 43 = .ok (.iconst 3, 1) := by decide +kernel
theorem dX4_bestOf_44 : decode cX4_bestOf 44 = .ok (.iaload, 1) := by decide +kernel
theorem dX4_bestOf_45 : decode cX4_bestOf 45 = .ok (.ineg, 1) := by decide +kernel
theorem dX4_bestOf_46 : decode cX4_bestOf 46 = .ok (.aload_n 0, 1) := by decide +kernel
theorem dX4_bestOf_47 : decode cX4_bestOf 47 = .ok (.getfield 7, 3) := by decide +kernel
theorem dX4_bestOf_50 : decode cX4_bestOf 50 = .ok (.iconst 4, 1) := by decide +kernel
theorem dX4_bestOf_51 : decode cX4_bestOf 51 = .ok (.iaload, 1) := by decide +kernel
theorem dX4_bestOf_52 : decode cX4_bestOf 52 = .ok (.invokestatic 57, 3) := by decide +kernel
theorem dX4_bestOf_55 : decode cX4_bestOf 55 = .ok (.ifCond .eq 66, 3) := by decide +kernel
theorem dX4_bestOf_58 : decode cX4_bestOf 58 = .ok (.iload_n 2, 1) := by decide +kernel
theorem dX4_bestOf_59 : decode cX4_bestOf 59 = .ok (.bipush (-9), 2) := by decide +kernel
theorem dX4_bestOf_61 : decode cX4_bestOf 61 = .ok (.if_icmp .eq 42, 3) := by decide +kernel
theorem dX4_bestOf_64 : decode cX4_bestOf 64 = .ok (.aload_n 0, 1) := by decide +kernel
theorem dX4_bestOf_65 : decode cX4_bestOf 65 = .ok (.iload_n 3, 1) := by decide +kernel
theorem dX4_bestOf_66 : decode cX4_bestOf 66 = .ok (.invokevirtual 61, 3) := by decide +kernel
theorem dX4_bestOf_69 : decode cX4_bestOf 69 = .ok (.aload_n 0, 1) := by decide +kernel
theorem dX4_bestOf_70 : decode cX4_bestOf 70 = .ok (.iload_n 2, 1) := by decide +kernel
theorem dX4_bestOf_71 : decode cX4_bestOf 71 = .ok (.invokevirtual 61, 3) := by decide +kernel
theorem dX4_bestOf_74 : decode cX4_bestOf 74 = .ok (.if_icmp .gt 29, 3) := by decide +kernel
theorem dX4_bestOf_77 : decode cX4_bestOf 77 = .ok (.aload_n 0, 1) := by decide +kernel
theorem dX4_bestOf_78 : decode cX4_bestOf 78 = .ok (.iload_n 3, 1) := by decide +kernel
theorem dX4_bestOf_79 : decode cX4_bestOf 79 = .ok (.invokevirtual 61, 3) := by decide +kernel
theorem dX4_bestOf_82 : decode cX4_bestOf 82 = .ok (.aload_n 0, 1) := by decide +kernel
theorem dX4_bestOf_83 : decode cX4_bestOf 83 = .ok (.iload_n 2, 1) := by decide +kernel
theorem dX4_bestOf_84 : decode cX4_bestOf 84 = .ok (.invokevirtual 61, 3) := by decide +kernel
theorem dX4_bestOf_87 : decode cX4_bestOf 87 = .ok (.if_icmp .ne 20, 3) := by decide +kernel
theorem dX4_bestOf_90 : decode cX4_bestOf 90 = .ok (.aload_n 0, 1) := by decide +kernel
theorem dX4_bestOf_91 : decode cX4_bestOf 91 = .ok (.iload_n 3, 1) := by decide +kernel
theorem dX4_bestOf_92 : decode cX4_bestOf 92 = .ok (.invokevirtual 65, 3) := by decide +kernel
theorem dX4_bestOf_95 : decode cX4_bestOf 95 = .ok (.aload_n 0, 1) := by decide +kernel
theorem dX4_bestOf_96 : decode cX4_bestOf 96 = .ok (.iload_n 2, 1) := by decide +kernel
theorem dX4_bestOf_97 : decode cX4_bestOf 97 = .ok (.invokevirtual 65, 3) := by decide +kernel
theorem dX4_bestOf_100 : decode cX4_bestOf 100 = .ok (.if_icmp .ge 7, 3) := by decide +kernel
theorem dX4_bestOf_103 : decode cX4_bestOf 103 = .ok (.iconst 1, 1) := by decide +kernel
theorem dX4_bestOf_104 : decode cX4_bestOf 104 = .ok (.goto 4, 3) := by decide +kernel
theorem dX4_bestOf_107 : decode cX4_bestOf 107 = .ok (.iconst 0, 1) := by decide +kernel
theorem dX4_bestOf_108 : decode cX4_bestOf 108 = .ok (.istore 4, 2) := by decide +kernel
theorem dX4_bestOf_110 : decode cX4_bestOf 110 = .ok (.iload 4, 2) := by decide +kernel
theorem dX4_bestOf_112 : decode cX4_bestOf 112 = .ok (.ifCond .eq 7, 3) := by decide +kernel
theorem dX4_bestOf_115 : decode cX4_bestOf 115 = .ok (.iload_n 3, 1) := by decide +kernel
theorem dX4_bestOf_116 : decode cX4_bestOf 116 = .ok (.goto 4, 3) := by decide +kernel
theorem dX4_bestOf_119 : decode cX4_bestOf 119 = .ok (.iload_n 2, 1) := by decide +kernel
theorem dX4_bestOf_120 : decode cX4_bestOf 120 = .ok (.istore_n 2, 1) := by decide +kernel
theorem dX4_bestOf_121 : decode cX4_bestOf 121 = .ok (.iinc 3 1, 3) := by decide +kernel
theorem dX4_bestOf_124 : decode cX4_bestOf 124 = .ok (.goto (-119), 3) := by decide +kernel
theorem dX4_bestOf_127 : decode cX4_bestOf 127 = .ok (.iload_n 2, 1) := by decide +kernel
theorem dX4_bestOf_128 : decode cX4_bestOf 128 = .ok (.ireturn, 1) := by decide +kernel
theorem dX4_far_0 : decode cX4_far 0 = .ok (.iload_n 1, 1) := by decide +kernel
theorem dX4_far_1 : decode cX4_far 1 = .ok (.aload_n 0, 1) := by decide +kernel
theorem dX4_far_2 : decode cX4_far 2 = .ok (.getfield 7, 3) := by decide +kernel
theorem dX4_far_5 : decode cX4_far 5 = .ok (.bipush 11, 2) := by decide +kernel
theorem dX4_far_7 : decode cX4_far 7 = .ok (.iaload, 1) := by decide +kernel
theorem dX4_far_8 : decode cX4_far 8 = .ok (.if_icmp .le 15, 3) := by decide +kernel
theorem dX4_far_11 : decode cX4_far 11 = .ok (.iload_n 1, 1) := by decide +kernel
theorem dX4_far_12 : decode cX4_far 12 = .ok (.aload_n 0, 1) := by decide +kernel
theorem dX4_far_13 : decode cX4_far 13 = .ok (.getfield 7, 3) := by decide +kernel
theorem dX4_far_16 : decode cX4_far 16 = .ok (.bipush 11, 2) := by decide +kernel
theorem dX4_far_18 : decode cX4_far 18 = .ok (.iaload, 1) := by decide +kernel
theorem dX4_far_19 : decode cX4_far 19 = .ok (.isub, 1) := by decide +kernel
theorem dX4_far_20 : decode cX4_far 20 = .ok (.goto 12, 3) := by decide +kernel
theorem dX4_far_23 : decode cX4_far 23 = .ok (.aload_n 0, 1) := by decide +kernel
theorem dX4_far_24 : decode cX4_far 24 = .ok (.getfield 7, 3) := by decide +kernel
theorem dX4_far_27 : decode cX4_far 27 = .ok (.bipush 11, 2) := by decide +kernel
theorem dX4_far_29 : decode cX4_far 29 = .ok (.iaload, 1) := by decide +kernel
theorem dX4_far_30 : decode cX4_far 30 = .ok (.iload_n 1, 1) := by decide +kernel
theorem dX4_far_31 : decode cX4_far 31 = .ok (.isub, 1) := by decide +kernel
theorem dX4_far_32 : decode cX4_far 32 = .ok (.ireturn, 1) := by decide +kernel
set_option maxRecDepth 20000 in
theorem ggX4_isAccepted_X4_scoreOf : GoodIn wsX4_isAccepted wsX4_scoreOf := goodIn_r _ [6, 1, 7, 8, 9, 10, 11, 12, 13, 14, 15, 16, 17, 18, 19, 20, 21, 22, 23, 24, 25] (by decide +kernel) (by decide +kernel)
set_option maxRecDepth 20000 in
theorem gX4_isAccepted_X4_scoreOf : GoodIn wsX4_isAccepted (wsV RX4 61 RX4 yX4_scoreOf wsX4_scoreOf) := goodIn_app (goodIn_of _ (by decide +kernel)) ggX4_isAccepted_X4_scoreOf
theorem dX4_isAccepted_0 : decode cX4_isAccepted 0 = .ok (.iload_n 1, 1) := by decide +kernel
theorem dX4_isAccepted_1 : decode cX4_isAccepted 1 = .ok (.aload_n 0, 1) := by decide +kernel
theorem dX4_isAccepted_2 : decode cX4_isAccepted 2 = .ok (.getfield 7, 3) := by decide +kernel
theorem dX4_isAccepted_5 : decode cX4_isAccepted 5 = .ok (.bipush 11, 2) := by decide +kernel
theorem dX4_isAccepted_7 : decode cX4_isAccepted 7 = .ok (.iaload, 1) := by decide +kernel
theorem dX4_isAccepted_8 : decode cX4_isAccepted 8 = .ok (.if_icmp .eq 17, 3) := by decide +kernel
theorem dX4_isAccepted_11 : decode cX4_isAccepted 11 = .ok (.aload_n 0, 1) := by decide +kernel
theorem dX4_isAccepted_12 : decode cX4_isAccepted 12 = .ok (.iload_n 1, 1) := by decide +kernel
theorem dX4_isAccepted_13 : decode cX4_isAccepted 13 = .ok (.invokevirtual 61, 3) := by decide +kernel
theorem dX4_isAccepted_16 : decode cX4_isAccepted 16 = .ok (.aload_n 0, 1) := by decide +kernel
theorem dX4_isAccepted_17 : decode cX4_isAccepted 17 = .ok (.getfield 7, 3) := by decide +kernel
theorem dX4_isAccepted_20 : decode cX4_isAccepted 20 = .ok (.iconst 5, 1) := by decide +kernel
theorem dX4_isAccepted_21 : decode cX4_isAccepted 21 = .ok (.iaload, 1) := by decide +kernel
theorem dX4_isAccepted_22 : decode cX4_isAccepted 22 = .ok (.if_icmp .lt 7, 3) := by decide +kernel
theorem dX4_isAccepted_25 : decode cX4_isAccepted 25 = .ok (.iconst 1, 1) := by decide +kernel
theorem dX4_isAccepted_26 : decode cX4_isAccepted 26 = .ok (.goto 4, 3) := by decide +kernel
theorem dX4_isAccepted_29 : decode cX4_isAccepted 29 = .ok (.iconst 0, 1) := by decide +kernel
theorem dX4_isAccepted_30 : decode cX4_isAccepted 30 = .ok (.ireturn, 1) := by decide +kernel
theorem dX4_keepWord_0 : decode cX4_keepWord 0 = .ok (.iconst 3, 1) := by decide +kernel
theorem dX4_keepWord_1 : decode cX4_keepWord 1 = .ok (.istore_n 2, 1) := by decide +kernel
theorem dX4_keepWord_2 : decode cX4_keepWord 2 = .ok (.iload_n 2, 1) := by decide +kernel
theorem dX4_keepWord_3 : decode cX4_keepWord 3 = .ok (.ifCond .le 29, 3) := by decide +kernel
theorem dX4_keepWord_6 : decode cX4_keepWord 6 = .ok (.aload_n 0, 1) := by decide +kernel
theorem dX4_keepWord_7 : decode cX4_keepWord 7 = .ok (.getfield 7, 3) := by decide +kernel
theorem dX4_keepWord_10 : decode cX4_keepWord 10 = .ok (.bipush 21, 2) := by decide +kernel
theorem dX4_keepWord_12 : decode cX4_keepWord 12 = .ok (.iload_n 2, 1) := by decide +kernel
theorem dX4_keepWord_13 : decode cX4_keepWord 13 = .ok (.iadd, 1) := by decide +kernel
theorem dX4_keepWord_14 : decode cX4_keepWord 14 = .ok (.aload_n 0, 1) := by decide +kernel
theorem dX4_keepWord_15 : decode cX4_keepWord 15 = .ok (.getfield 7, 3) := by decide +kernel
theorem dX4_keepWord_18 : decode cX4_keepWord 18 = .ok (.bipush 21, 2) := by decide +kernel
theorem dX4_keepWord_20 : decode cX4_keepWord 20 = .ok (.iload_n 2, 1) := by decide +kernel
theorem dX4_keepWord_21 : decode cX4_keepWord 21 = .ok (.iadd, 1) := by decide +kernel
theorem dX4_keepWord_22 : decode cX4_keepWord 22 = .ok (.iconst 1, 1) := by decide +kernel
theorem dX4_keepWord_23 : decode cX4_keepWord 23 = .ok (.isub, 1) := by decide +kernel
theorem dX4_keepWord_24 : decode cX4_keepWord 24 = .ok (.iaload, 1) := by decide +kernel
theorem dX4_keepWord_25 : decode cX4_keepWord 25 = .ok (.iastore, 1) := by decide +kernel
theorem dX4_keepWord_26 : decode cX4_keepWord 26 = .ok (.iinc 2 (-1), 3) := by decide +kernel
theorem dX4_keepWord_29 : decode cX4_keepWord 29 = .ok (.goto (-27), 3) := by decide +kernel
theorem dX4_keepWord_32 : decode cX4_keepWord 32 = .ok (.aload_n 0, 1) := by decide +kernel
theorem dX4_keepWord_33 : decode cX4_keepWord 33 = .ok (.getfield 7, 3) := by decide +kernel
theorem dX4_keepWord_36 : decode cX4_keepWord 36 = .ok (.bipush 21, 2) := by decide +kernel
theorem dX4_keepWord_38 : decode cX4_keepWord 38 = .ok (.iload_n 1, 1) := by decide +kernel
theorem dX4_keepWord_39 : decode cX4_keepWord 39 = .ok (.iastore, 1) := by decide +kernel
theorem dX4_keepWord_40 : decode cX4_keepWord 40 = .ok (.aload_n 0, 1) := by decide +kernel
theorem dX4_keepWord_41 : decode cX4_keepWord 41 = .ok (.getfield 7, 3) := by decide +kernel
theorem dX4_keepWord_44 : decode cX4_keepWord 44 = .ok (.bipush 20, 2) := by decide +kernel
theorem dX4_keepWord_46 : decode cX4_keepWord 46 = .ok (.dup2, 1) := by decide +kernel
theorem dX4_keepWord_47 : decode cX4_keepWord 47 = .ok (.iaload, 1) := by decide +kernel
theorem dX4_keepWord_48 : decode cX4_keepWord 48 = .ok (.aload_n 0, 1) := by decide +kernel
theorem dX4_keepWord_49 : decode cX4_keepWord 49 = .ok (.getfield 7, 3) := by decide +kernel
theorem dX4_keepWord_52 : decode cX4_keepWord 52 = .ok (.bipush 20, 2) := by decide +kernel
theorem dX4_keepWord_54 : decode cX4_keepWord 54 = .ok (.iaload, 1) := by decide +kernel
theorem dX4_keepWord_55 : decode cX4_keepWord 55 = .ok (.iconst 4, 1) := by decide +kernel
theorem dX4_keepWord_56 : decode cX4_keepWord 56 = .ok (.if_icmp .ge 7, 3) := by decide +kernel
theorem dX4_keepWord_59 : decode cX4_keepWord 59 = .ok (.iconst 1, 1) := by decide +kernel
theorem dX4_keepWord_60 : decode cX4_keepWord 60 = .ok (.goto 4, 3) := by decide +kernel
theorem dX4_keepWord_63 : decode cX4_keepWord 63 = .ok (.iconst 0, 1) := by decide +kernel
theorem dX4_keepWord_64 : decode cX4_keepWord 64 = .ok (.iadd, 1) := by decide +kernel
theorem dX4_keepWord_65 : decode cX4_keepWord 65 = .ok (.iastore, 1) := by decide +kernel
theorem dX4_keepWord_66 : decode cX4_keepWord 66 = .ok (.return_, 1) := by decide +kernel
set_option maxRecDepth 20000 in
theorem ggX4_follow_X4_leaveTrail : GoodIn wsX4_follow wsX4_leaveTrail := goodIn_r _ [6, 1, 7, 8, 9, 10, 11, 12, 13, 14, 15, 16, 17, 18, 19, 20, 21, 22, 23, 24, 25] (by decide +kernel) (by decide +kernel)
set_option maxRecDepth 20000 in
theorem gX4_follow_X4_leaveTrail : GoodIn wsX4_follow (wsV RX4 68 RX4 yX4_leaveTrail wsX4_leaveTrail) := goodIn_app (goodIn_of _ (by decide +kernel)) ggX4_follow_X4_leaveTrail
theorem dX4_follow_0 : decode cX4_follow 0 = .ok (.iload_n 1, 1) := by decide +kernel
theorem dX4_follow_1 : decode cX4_follow 1 = .ok (.aload_n 0, 1) := by decide +kernel
theorem dX4_follow_2 : decode cX4_follow 2 = .ok (.getfield 7, 3) := by decide +kernel
theorem dX4_follow_5 : decode cX4_follow 5 = .ok (.bipush 11, 2) := by decide +kernel
theorem dX4_follow_7 : decode cX4_follow 7 = .ok (.iaload, 1) := by decide +kernel
theorem dX4_follow_8 : decode cX4_follow 8 = .ok (.if_icmp .eq 63, 3) := by decide +kernel
theorem dX4_follow_11 : decode cX4_follow 11 = .ok (.aload_n 0, 1) := by decide +kernel
theorem dX4_follow_12 : decode cX4_follow 12 = .ok (.getfield 7, 3) := by decide +kernel
theorem dX4_follow_15 : decode cX4_follow 15 = .ok (.bipush 15, 2) := by decide +kernel
theorem dX4_follow_17 : decode cX4_follow 17 = .ok (.dup2, 1) := by decide +kernel
theorem dX4_follow_18 : decode cX4_follow 18 = .ok (.iaload, 1) := by decide +kernel
theorem dX4_follow_19 : decode cX4_follow 19 = .ok (.iload_n 1, 1) := by decide +kernel
theorem dX4_follow_20 : decode cX4_follow 20 = .ok (.aload_n 0, 1) := by decide +kernel
theorem dX4_follow_21 : decode cX4_follow 21 = .ok (.getfield 7, 3) := by decide +kernel
theorem dX4_follow_24 : decode cX4_follow 24 = .ok (.bipush 11, 2) := by decide +kernel
theorem dX4_follow_26 : decode cX4_follow 26 = .ok (.iaload, 1) := by decide +kernel
theorem dX4_follow_27 : decode cX4_follow 27 = .ok (.if_icmp .le 7, 3) := by decide +kernel
theorem dX4_follow_30 : decode cX4_follow 30 = .ok (.iconst 1, 1) := by decide +kernel
theorem dX4_follow_31 : decode cX4_follow 31 = .ok (.goto 4, 3) := by decide +kernel
theorem dX4_follow_34 : decode cX4_follow 34 = .ok (.iconst 0, 1) := by decide +kernel
theorem dX4_follow_35 : decode cX4_follow 35 = .ok (.iadd, 1) := by decide +kernel
theorem dX4_follow_36 : decode cX4_follow 36 = .ok (.iastore, 1) := by decide +kernel
theorem dX4_follow_37 : decode cX4_follow 37 = .ok (.aload_n 0, 1) := by decide +kernel
theorem dX4_follow_38 : decode cX4_follow 38 = .ok (.getfield 7, 3) := by decide +kernel
theorem dX4_follow_41 : decode cX4_follow 41 = .ok (.bipush 16, 2) := by decide +kernel
theorem dX4_follow_43 : decode cX4_follow 43 = .ok (.dup2, 1) := by decide +kernel
theorem dX4_follow_44 : decode cX4_follow 44 = .ok (.iaload, 1) := by decide +kernel
theorem dX4_follow_45 : decode cX4_follow 45 = .ok (.iload_n 1, 1) := by decide +kernel
theorem dX4_follow_46 : decode cX4_follow 46 = .ok (.aload_n 0, 1) := by decide +kernel
theorem dX4_follow_47 : decode cX4_follow 47 = .ok (.getfield 7, 3) := by decide +kernel
theorem dX4_follow_50 : decode cX4_follow 50 = .ok (.bipush 11, 2) := by decide +kernel
theorem dX4_follow_52 : decode cX4_follow 52 = .ok (.iaload, 1) := by decide +kernel
theorem dX4_follow_53 : decode cX4_follow 53 = .ok (.if_icmp .ge 7, 3) := by decide +kernel
theorem dX4_follow_56 : decode cX4_follow 56 = .ok (.iconst 1, 1) := by decide +kernel
theorem dX4_follow_57 : decode cX4_follow 57 = .ok (.goto 4, 3) := by decide +kernel
theorem dX4_follow_60 : decode cX4_follow 60 = .ok (.iconst 0, 1) := by decide +kernel
theorem dX4_follow_61 : decode cX4_follow 61 = .ok (.iadd, 1) := by decide +kernel
theorem dX4_follow_62 : decode cX4_follow 62 = .ok (.iastore, 1) := by decide +kernel
theorem dX4_follow_63 : decode cX4_follow 63 = .ok (.aload_n 0, 1) := by decide +kernel
theorem dX4_follow_64 : decode cX4_follow 64 = .ok (.getfield 7, 3) := by decide +kernel
theorem dX4_follow_67 : decode cX4_follow 67 = .ok (.bipush 25, 2) := by decide +kernel
theorem dX4_follow_69 : decode cX4_follow 69 = .ok (.iconst 0, 1) := by decide +kernel
theorem dX4_follow_70 : decode cX4_follow 70 = .ok (.iastore, 1) := by decide +kernel
theorem dX4_follow_71 : decode cX4_follow 71 = .ok (.aload_n 0, 1) := by decide +kernel
theorem dX4_follow_72 : decode cX4_follow 72 = .ok (.getfield 7, 3) := by decide +kernel
theorem dX4_follow_75 : decode cX4_follow 75 = .ok (.bipush 11, 2) := by decide +kernel
theorem dX4_follow_77 : decode cX4_follow 77 = .ok (.iload_n 1, 1) := by decide +kernel
theorem dX4_follow_78 : decode cX4_follow 78 = .ok (.iconst 1, 1) := by decide +kernel
theorem dX4_follow_79 : decode cX4_follow 79 = .ok (.iadd, 1) := by decide +kernel
theorem dX4_follow_80 : decode cX4_follow 80 = .ok (.iastore, 1) := by decide +kernel
theorem dX4_follow_81 : decode cX4_follow 81 = .ok (.aload_n 0, 1) := by decide +kernel
theorem dX4_follow_82 : decode cX4_follow 82 = .ok (.getfield 7, 3) := by decide +kernel
theorem dX4_follow_85 : decode cX4_follow 85 = .ok (.bipush 13, 2) := by decide +kernel
theorem dX4_follow_87 : decode cX4_follow 87 = .ok (.aload_n 0, 1) := by decide +kernel
theorem dX4_follow_88 : decode cX4_follow 88 = .ok (.getfield 7, 3) := by decide +kernel
theorem dX4_follow_91 : decode cX4_follow 91 = .ok (.bipush 10, 2) := by decide +kernel
theorem dX4_follow_93 : decode cX4_follow 93 = .ok (.iaload, 1) := by decide +kernel
theorem dX4_follow_94 : decode cX4_follow 94 = .ok (.iastore, 1) := by decide +kernel
theorem dX4_follow_95 : decode cX4_follow 95 = .ok (.iconst 0, 1) := by decide +kernel
theorem dX4_follow_96 : decode cX4_follow 96 = .ok (.istore_n 2, 1) := by decide +kernel
theorem dX4_follow_97 : decode cX4_follow 97 = .ok (.iload_n 2, 1) := by decide +kernel
theorem dX4_follow_98 : decode cX4_follow 98 = .ok (.iload_n 1, 1) := by decide +kernel
theorem dX4_follow_99 : decode cX4_follow 99 = .ok (.if_icmp .ge 45, 3) := by decide +kernel
theorem dX4_follow_102 : decode cX4_follow 102 = .ok (.aload_n 0, 1) := by decide +kernel
theorem dX4_follow_103 : decode cX4_follow 103 = .ok (.getfield 7, 3) := by decide +kernel
theorem dX4_follow_106 : decode cX4_follow 106 = .ok (.sipush 270, 3) := by decide +kernel
theorem dX4_follow_109 : decode cX4_follow 109 = .ok (.iload_n 2, 1) := by decide +kernel
theorem dX4_follow_110 : decode cX4_follow 110 = .ok (.iadd, 1) := by decide +kernel
theorem dX4_follow_111 : decode cX4_follow 111 = .ok (.iaload, 1) := by decide +kernel
theorem dX4_follow_112 : decode cX4_follow 112 = .ok (.iconst 1, 1) := by decide +kernel
theorem dX4_follow_113 : decode cX4_follow 113 = .ok (.if_icmp .ne 25, 3) := by decide +kernel
theorem dX4_follow_116 : decode cX4_follow 116 = .ok (.aload_n 0, 1) := by decide +kernel
theorem dX4_follow_117 : decode cX4_follow 117 = .ok (.getfield 7, 3) := by decide +kernel
theorem dX4_follow_120 : decode cX4_follow 120 = .ok (.sipush 270, 3) := by decide +kernel
theorem dX4_follow_123 : decode cX4_follow 123 = .ok (.iload_n 2, 1) := by decide +kernel
theorem dX4_follow_124 : decode cX4_follow 124 = .ok (.iadd, 1) := by decide +kernel
theorem dX4_follow_125 : decode cX4_follow 125 = .ok (.iconst 3, 1) := by decide +kernel
theorem dX4_follow_126 : decode cX4_follow 126 = .ok (.iastore, 1) := by decide +kernel
theorem dX4_follow_127 : decode cX4_follow 127 = .ok (.aload_n 0, 1) := by decide +kernel
theorem dX4_follow_128 : decode cX4_follow 128 = .ok (.getfield 7, 3) := by decide +kernel
theorem dX4_follow_131 : decode cX4_follow 131 = .ok (.bipush 19, 2) := by decide +kernel
theorem dX4_follow_133 : decode cX4_follow 133 = .ok (.dup2, 1) := by decide +kernel
theorem dX4_follow_134 : decode cX4_follow 134 = .ok (.iaload, 1) := by decide +kernel
theorem dX4_follow_135 : decode cX4_follow 135 = .ok (.iconst 1, 1) := by decide +kernel
theorem dX4_follow_136 : decode cX4_follow 136 = .ok (.iadd, 1) := by decide +kernel
theorem dX4_follow_137 : decode cX4_follow 137 = .ok (.iastore, 1) := by decide +kernel
theorem dX4_follow_138 : decode cX4_follow 138 = .ok (.iinc 2 1, 3) := by decide +kernel
theorem dX4_follow_141 : decode cX4_follow 141 = .ok (.goto (-44), 3) := by decide +kernel
theorem dX4_follow_144 : decode cX4_follow 144 = .ok (.aload_n 0, 1) := by decide +kernel
theorem dX4_follow_145 : decode cX4_follow 145 = .ok (.invokevirtual 68, 3) := by decide +kernel
theorem dX4_follow_148 : decode cX4_follow 148 = .ok (.return_, 1) := by decide +kernel
theorem dX4_leaveTrail_0 : decode cX4_leaveTrail 0 = .ok (.aload_n 0, 1) := by decide +kernel
theorem dX4_leaveTrail_1 : decode cX4_leaveTrail 1 = .ok (.getfield 7, 3) := by decide +kernel
theorem dX4_leaveTrail_4 : decode cX4_leaveTrail 4 = .ok (.bipush 25, 2) := by decide +kernel
theorem dX4_leaveTrail_6 : decode cX4_leaveTrail 6 = .ok (.iaload, 1) := by decide +kernel
theorem dX4_leaveTrail_7 : decode cX4_leaveTrail 7 = .ok (.ifCond .le 36, 3) := by decide +kernel
theorem dX4_leaveTrail_10 : decode cX4_leaveTrail 10 = .ok (.aload_n 0, 1) := by decide +kernel
theorem dX4_leaveTrail_11 : decode cX4_leaveTrail 11 = .ok (.getfield 7, 3) := by decide +kernel
theorem dX4_leaveTrail_14 : decode cX4_leaveTrail 14 = .ok (.bipush 26, 2) := by decide +kernel
theorem dX4_leaveTrail_16 : decode cX4_leaveTrail 16 = .ok (.iconst 2, 1) := by decide +kernel
theorem dX4_leaveTrail_17 : decode cX4_leaveTrail 17 = .ok (.aload_n 0, 1) := by decide +kernel
theorem dX4_leaveTrail_18 : decode cX4_leaveTrail 18 = .ok (.getfield 7, 3) := by decide +kernel
theorem dX4_leaveTrail_21 : decode cX4_leaveTrail 21 = .ok (.bipush 25, 2) := by decide +kernel
theorem dX4_leaveTrail_23 : decode cX4_leaveTrail 23 = .ok (.iaload, 1) := by decide +kernel
theorem dX4_leaveTrail_24 : decode cX4_leaveTrail 24 = .ok (.imul, 1) := by decide +kernel
theorem dX4_leaveTrail_25 : decode cX4_leaveTrail 25 = .ok (.iadd, 1) := by decide +kernel
theorem dX4_leaveTrail_26 : decode cX4_leaveTrail 26 = .ok (.iconst 2, 1) := by decide +kernel
theorem dX4_leaveTrail_27 : decode cX4_leaveTrail 27 = .ok (.isub, 1) := by decide +kernel
theorem dX4_leaveTrail_28 : decode cX4_leaveTrail 28 = .ok (.iaload, 1) := by decide +kernel
theorem dX4_leaveTrail_29 : decode cX4_leaveTrail 29 = .ok (.aload_n 0, 1) := by decide +kernel
theorem dX4_leaveTrail_30 : decode cX4_leaveTrail 30 = .ok (.getfield 7, 3) := by decide +kernel
theorem dX4_leaveTrail_33 : decode cX4_leaveTrail 33 = .ok (.bipush 10, 2) := by decide +kernel
theorem dX4_leaveTrail_35 : decode cX4_leaveTrail 35 = .ok (.iaload, 1) := by decide +kernel
theorem dX4_leaveTrail_36 : decode cX4_leaveTrail 36 = .ok (.if_icmp .ne 7, 3) := by decide +kernel
theorem dX4_leaveTrail_39 : decode cX4_leaveTrail 39 = .ok (.iconst 1, 1) := by decide +kernel
theorem dX4_leaveTrail_40 : decode cX4_leaveTrail 40 = .ok (.goto 4, 3) := by decide +kernel
theorem dX4_leaveTrail_43 : decode cX4_leaveTrail 43 = .ok (.iconst 0, 1) := by decide +kernel
theorem dX4_leaveTrail_44 : decode cX4_leaveTrail 44 = .ok (.istore_n 1, 1) := by decide +kernel
theorem dX4_leaveTrail_45 : decode cX4_leaveTrail 45 = .ok (.aload_n 0, 1) := by decide +kernel
theorem dX4_leaveTrail_46 : decode cX4_leaveTrail 46 = .ok (.getfield 7, 3) := by decide +kernel
theorem dX4_leaveTrail_49 : decode cX4_leaveTrail 49 = .ok (.bipush 25, 2) := by decide +kernel
theorem dX4_leaveTrail_51 : decode cX4_leaveTrail 51 = .ok (.dup2, 1) := by decide +kernel
theorem dX4_leaveTrail_52 : decode cX4_leaveTrail 52 = .ok (.iaload, 1) := by decide +kernel
theorem dX4_leaveTrail_53 : decode cX4_leaveTrail 53 = .ok (.iload_n 1, 1) := by decide +kernel
theorem dX4_leaveTrail_54 : decode cX4_leaveTrail 54 = .ok (.ifCond .eq 7, 3) := by decide +kernel
theorem dX4_leaveTrail_57 : decode cX4_leaveTrail 57 = .ok (.iconst 0, 1) := by decide +kernel
theorem dX4_leaveTrail_58 : decode cX4_leaveTrail 58 = .ok (.goto 4, 3) := by decide +kernel
theorem dX4_leaveTrail_61 : decode cX4_leaveTrail 61 = .ok (.iconst 1, 1) := by decide +kernel
theorem dX4_leaveTrail_62 : decode cX4_leaveTrail 62 = .ok (.iadd, 1) := by decide +kernel
theorem dX4_leaveTrail_63 : decode cX4_leaveTrail 63 = .ok (.iastore, 1) := by decide +kernel
theorem dX4_leaveTrail_64 : decode cX4_leaveTrail 64 = .ok (.aload_n 0, 1) := by decide +kernel
theorem dX4_leaveTrail_65 : decode cX4_leaveTrail 65 = .ok (.getfield 7, 3) := by decide +kernel
theorem dX4_leaveTrail_68 : decode cX4_leaveTrail 68 = .ok (.bipush 26, 2) := by decide +kernel
theorem dX4_leaveTrail_70 : decode cX4_leaveTrail 70 = .ok (.iconst 2, 1) := by decide +kernel
theorem dX4_leaveTrail_71 : decode cX4_leaveTrail 71 = .ok (.aload_n 0, 1) := by decide +kernel
theorem dX4_leaveTrail_72 : decode cX4_leaveTrail 72 = .ok (.getfield 7, 3) := by decide +kernel
theorem dX4_leaveTrail_75 : decode cX4_leaveTrail 75 = .ok (.bipush 25, 2) := by decide +kernel
theorem dX4_leaveTrail_77 : decode cX4_leaveTrail 77 = .ok (.iaload, 1) := by decide +kernel
theorem dX4_leaveTrail_78 : decode cX4_leaveTrail 78 = .ok (.imul, 1) := by decide +kernel
theorem dX4_leaveTrail_79 : decode cX4_leaveTrail 79 = .ok (.iadd, 1) := by decide +kernel
theorem dX4_leaveTrail_80 : decode cX4_leaveTrail 80 = .ok (.iconst 2, 1) := by decide +kernel
theorem dX4_leaveTrail_81 : decode cX4_leaveTrail 81 = .ok (.isub, 1) := by decide +kernel
theorem dX4_leaveTrail_82 : decode cX4_leaveTrail 82 = .ok (.aload_n 0, 1) := by decide +kernel
theorem dX4_leaveTrail_83 : decode cX4_leaveTrail 83 = .ok (.getfield 7, 3) := by decide +kernel
theorem dX4_leaveTrail_86 : decode cX4_leaveTrail 86 = .ok (.bipush 10, 2) := by decide +kernel
theorem dX4_leaveTrail_88 : decode cX4_leaveTrail 88 = .ok (.iaload, 1) := by decide +kernel
theorem dX4_leaveTrail_89 : decode cX4_leaveTrail 89 = .ok (.iastore, 1) := by decide +kernel
theorem dX4_leaveTrail_90 : decode cX4_leaveTrail 90 = .ok (.aload_n 0, 1) := by decide +kernel
theorem dX4_leaveTrail_91 : decode cX4_leaveTrail 91 = .ok (.getfield 7, 3) := by decide +kernel
theorem dX4_leaveTrail_94 : decode cX4_leaveTrail 94 = .ok (.bipush 26, 2) := by decide +kernel
theorem dX4_leaveTrail_96 : decode cX4_leaveTrail 96 = .ok (.iconst 2, 1) := by decide +kernel
theorem dX4_leaveTrail_97 : decode cX4_leaveTrail 97 = .ok (.aload_n 0, 1) := by decide +kernel
theorem dX4_leaveTrail_98 : decode cX4_leaveTrail 98 = .ok (.getfield 7, 3) := by decide +kernel
theorem dX4_leaveTrail_101 : decode cX4_leaveTrail 101 = .ok (.bipush 25, 2) := by decide +kernel
theorem dX4_leaveTrail_103 : decode cX4_leaveTrail 103 = .ok (.iaload, 1) := by decide +kernel
theorem dX4_leaveTrail_104 : decode cX4_leaveTrail 104 = .ok (.imul, 1) := by decide +kernel
theorem dX4_leaveTrail_105 : decode cX4_leaveTrail 105 = .ok (.iadd, 1) := by decide +kernel
theorem dX4_leaveTrail_106 : decode cX4_leaveTrail 106 = .ok (.iconst 1, 1) := by decide +kernel
theorem dX4_leaveTrail_107 : decode cX4_leaveTrail 107 = .ok (.isub, 1) := by decide +kernel
theorem dX4_leaveTrail_108 : decode cX4_leaveTrail 108 = .ok (.aload_n 0, 1) := by decide +kernel
theorem dX4_leaveTrail_109 : decode cX4_leaveTrail 109 = .ok (.getfield 7, 3) := by decide +kernel
theorem dX4_leaveTrail_112 : decode cX4_leaveTrail 112 = .ok (.bipush 11, 2) := by decide +kernel
theorem dX4_leaveTrail_114 : decode cX4_leaveTrail 114 = .ok (.iaload, 1) := by decide +kernel
theorem dX4_leaveTrail_115 : decode cX4_leaveTrail 115 = .ok (.iastore, 1) := by decide +kernel
theorem dX4_leaveTrail_116 : decode cX4_leaveTrail 116 = .ok (.aload_n 0, 1) := by decide +kernel
theorem dX4_leaveTrail_117 : decode cX4_leaveTrail 117 = .ok (.getfield 7, 3) := by decide +kernel
theorem dX4_leaveTrail_120 : decode cX4_leaveTrail 120 = .ok (.bipush 26, 2) := by decide +kernel
theorem dX4_leaveTrail_122 : decode cX4_leaveTrail 122 = .ok (.iaload, 1) := by decide +kernel
theorem dX4_leaveTrail_123 : decode cX4_leaveTrail 123 = .ok (.aload_n 0, 1) := by decide +kernel
theorem dX4_leaveTrail_124 : decode cX4_leaveTrail 124 = .ok (.getfield 7, 3) := by decide +kernel
theorem dX4_leaveTrail_127 : decode cX4_leaveTrail 127 = .ok (.bipush 10, 2) := by decide +kernel
theorem dX4_leaveTrail_129 : decode cX4_leaveTrail 129 = .ok (.iaload, 1) := by decide +kernel
theorem dX4_leaveTrail_130 : decode cX4_leaveTrail 130 = .ok (.aload_n 0, 1) := by decide +kernel
theorem dX4_leaveTrail_131 : decode cX4_leaveTrail 131 = .ok (.getfield 7, 3) := by decide +kernel
theorem dX4_leaveTrail_134 : decode cX4_leaveTrail 134 = .ok (.bipush 6, 2) := by decide +kernel
theorem dX4_leaveTrail_136 : decode cX4_leaveTrail 136 = .ok (.iaload, 1) := by decide +kernel
theorem dX4_leaveTrail_137 : decode cX4_leaveTrail 137 = .ok (.isub, 1) := by decide +kernel
theorem dX4_leaveTrail_138 : decode cX4_leaveTrail 138 = .ok (.if_icmp .ge 58, 3) := by decide +kernel
theorem dX4_leaveTrail_141 : decode cX4_leaveTrail 141 = .ok (.bipush 26, 2) := by decide +kernel
theorem dX4_leaveTrail_143 : decode cX4_leaveTrail 143 = .ok (.istore_n 2, 1) := by decide +kernel
theorem dX4_leaveTrail_144 : decode cX4_leaveTrail 144 = .ok (.iload_n 2, 1) := by decide +kernel
theorem dX4_leaveTrail_145 : decode cX4_leaveTrail 145 = .ok (.bipush 26, 2) := by decide +kernel
theorem dX4_leaveTrail_147 : decode cX4_leaveTrail 147 = .ok (.iconst 2, 1) := by decide +kernel
theorem dX4_leaveTrail_148 : decode cX4_leaveTrail 148 = .ok (.aload_n 0, 1) := by decide +kernel
theorem dX4_leaveTrail_149 : decode cX4_leaveTrail 149 = .ok (.getfield 7, 3) := by decide +kernel
theorem dX4_leaveTrail_152 : decode cX4_leaveTrail 152 = .ok (.bipush 25, 2) := by decide +kernel
theorem dX4_leaveTrail_154 : decode cX4_leaveTrail 154 = .ok (.iaload, 1) := by decide +kernel
theorem dX4_leaveTrail_155 : decode cX4_leaveTrail 155 = .ok (.imul, 1) := by decide +kernel
theorem dX4_leaveTrail_156 : decode cX4_leaveTrail 156 = .ok (.iadd, 1) := by decide +kernel
theorem dX4_leaveTrail_157 : decode cX4_leaveTrail 157 = .ok (.iconst 2, 1) := by decide +kernel
theorem dX4_leaveTrail_158 : decode cX4_leaveTrail 158 = .ok (.isub, 1) := by decide +kernel
theorem dX4_leaveTrail_159 : decode cX4_leaveTrail 159 = .ok (.if_icmp .ge 23, 3) := by decide +kernel
theorem dX4_leaveTrail_162 : decode cX4_leaveTrail 162 = .ok (.aload_n 0, 1) := by decide +kernel
theorem dX4_leaveTrail_163 : decode cX4_leaveTrail 163 = .ok (.getfield 7, 3) := by decide +kernel
theorem dX4_leaveTrail_166 : decode cX4_leaveTrail 166 = .ok (.iload_n 2, 1) := by decide +kernel
theorem dX4_leaveTrail_167 : decode cX4_leaveTrail 167 = .ok (.aload_n 0, 1) := by decide +kernel
theorem dX4_leaveTrail_168 : decode cX4_leaveTrail 168 = .ok (.getfield 7, 3) := by decide +kernel
theorem dX4_leaveTrail_171 : decode cX4_leaveTrail 171 = .ok (.iload_n 2, 1) := by decide +kernel
theorem dX4_leaveTrail_172 : decode cX4_leaveTrail 172 = .ok (.iconst 2, 1) := by decide +kernel
theorem dX4_leaveTrail_173 : decode cX4_leaveTrail 173 = .ok (.iadd, 1) := by decide +kernel
theorem dX4_leaveTrail_174 : decode cX4_leaveTrail 174 = .ok (.iaload, 1) := by decide +kernel
theorem dX4_leaveTrail_175 : decode cX4_leaveTrail 175 = .ok (.iastore, 1) := by decide +kernel
theorem dX4_leaveTrail_176 : decode cX4_leaveTrail 176 = .ok (.iinc 2 1, 3) := by decide +kernel
theorem dX4_leaveTrail_179 : decode cX4_leaveTrail 179 = .ok (.goto (-35), 3) := by decide +kernel
theorem dX4_leaveTrail_182 : decode cX4_leaveTrail 182 = .ok (.aload_n 0, 1) := by decide +kernel
theorem dX4_leaveTrail_183 : decode cX4_leaveTrail 183 = .ok (.getfield 7, 3) := by decide +kernel
theorem dX4_leaveTrail_186 : decode cX4_leaveTrail 186 = .ok (.bipush 25, 2) := by decide +kernel
theorem dX4_leaveTrail_188 : decode cX4_leaveTrail 188 = .ok (.dup2, 1) := by decide +kernel
theorem dX4_leaveTrail_189 : decode cX4_leaveTrail 189 = .ok (.iaload, 1) := by decide +kernel
theorem dX4_leaveTrail_190 : decode cX4_leaveTrail 190 = .ok (.iconst 1, 1) := by decide +kernel
theorem dX4_leaveTrail_191 : decode cX4_leaveTrail 191 = .ok (.isub, 1) := by decide +kernel
theorem dX4_leaveTrail_192 : decode cX4_leaveTrail 192 = .ok (.iastore, 1) := by decide +kernel
theorem dX4_leaveTrail_193 : decode cX4_leaveTrail 193 = .ok (.goto (-77), 3) := by decide +kernel
theorem dX4_leaveTrail_196 : decode cX4_leaveTrail 196 = .ok (.bipush 26, 2) := by decide +kernel
theorem dX4_leaveTrail_198 : decode cX4_leaveTrail 198 = .ok (.iconst 2, 1) := by decide +kernel
theorem dX4_leaveTrail_199 : decode cX4_leaveTrail 199 = .ok (.aload_n 0, 1) := by decide +kernel
theorem dX4_leaveTrail_200 : decode cX4_leaveTrail 200 = .ok (.getfield 7, 3) := by decide +kernel
theorem dX4_leaveTrail_203 : decode cX4_leaveTrail 203 = .ok (.bipush 25, 2) := by decide +kernel
theorem dX4_leaveTrail_205 : decode cX4_leaveTrail 205 = .ok (.iaload, 1) := by decide +kernel
theorem dX4_leaveTrail_206 : decode cX4_leaveTrail 206 = .ok (.imul, 1) := by decide +kernel
theorem dX4_leaveTrail_207 : decode cX4_leaveTrail 207 = .ok (.iadd, 1) := by decide +kernel
theorem dX4_leaveTrail_208 : decode cX4_leaveTrail 208 = .ok (.iconst 2, 1) := by decide +kernel
theorem dX4_leaveTrail_209 : decode cX4_leaveTrail 209 = .ok (.isub, 1) := by decide +kernel
theorem dX4_leaveTrail_210 : decode cX4_leaveTrail 210 = .ok (.istore_n 2, 1) := by decide +kernel
theorem dX4_leaveTrail_211 : decode cX4_leaveTrail 211 = .ok (.aload_n 0, 1) := by decide +kernel
theorem dX4_leaveTrail_212 : decode cX4_leaveTrail 212 = .ok (.getfield 7, 3) := by decide +kernel
theorem dX4_leaveTrail_215 : decode cX4_leaveTrail 215 = .ok (.bipush 25, 2) := by decide +kernel
theorem dX4_leaveTrail_217 : decode cX4_leaveTrail 217 = .ok (.iaload, 1) := by decide +kernel
theorem dX4_leaveTrail_218 : decode cX4_leaveTrail 218 = .ok (.iconst 1, 1) := by decide +kernel
theorem dX4_leaveTrail_219 : decode cX4_leaveTrail 219 = .ok (.if_icmp .le 44, 3) := by decide +kernel
theorem dX4_leaveTrail_222 : decode cX4_leaveTrail 222 = .ok (.aload_n 0, 1) := by decide +kernel
theorem dX4_leaveTrail_223 : decode cX4_leaveTrail 223 = .ok (.getfield 7, 3) := by decide +kernel
theorem dX4_leaveTrail_226 : decode cX4_leaveTrail 226 = .ok (.bipush 12, 2) := by decide +kernel
theorem dX4_leaveTrail_228 : decode cX4_leaveTrail 228 = .ok (.bipush 100, 2) := by decide +kernel
theorem dX4_leaveTrail_230 : decode cX4_leaveTrail 230 = .ok (.aload_n 0, 1) := by decide +kernel
theorem dX4_leaveTrail_231 : decode cX4_leaveTrail 231 = .ok (.getfield 7, 3) := by decide +kernel
theorem dX4_leaveTrail_234 : decode cX4_leaveTrail 234 = .ok (.iload_n 2, 1) := by decide +kernel
theorem dX4_leaveTrail_235 : decode cX4_leaveTrail 235 = .ok (.iconst 1, 1) := by decide +kernel
theorem dX4_leaveTrail_236 : decode cX4_leaveTrail 236 = .ok (.iadd, 1) := by decide +kernel
theorem dX4_leaveTrail_237 : decode cX4_leaveTrail 237 = .ok (.iaload, 1) := by decide +kernel
theorem dX4_leaveTrail_238 : decode cX4_leaveTrail 238 = .ok (.aload_n 0, 1) := by decide +kernel
theorem dX4_leaveTrail_239 : decode cX4_leaveTrail 239 = .ok (.getfield 7, 3) := by decide +kernel
theorem dX4_leaveTrail_242 : decode cX4_leaveTrail 242 = .ok (.bipush 27, 2) := by decide +kernel
theorem dX4_leaveTrail_244 : decode cX4_leaveTrail 244 = .ok (.iaload, 1) := by decide +kernel
theorem dX4_leaveTrail_245 : decode cX4_leaveTrail 245 = .ok (.isub, 1) := by decide +kernel
theorem dX4_leaveTrail_246 : decode cX4_leaveTrail 246 = .ok (.imul, 1) := by decide +kernel
theorem dX4_leaveTrail_247 : decode cX4_leaveTrail 247 = .ok (.aload_n 0, 1) := by decide +kernel
theorem dX4_leaveTrail_248 : decode cX4_leaveTrail 248 = .ok (.getfield 7, 3) := by decide +kernel
theorem dX4_leaveTrail_251 : decode cX4_leaveTrail 251 = .ok (.iload_n 2, 1) := by decide +kernel
theorem dX4_leaveTrail_252 : decode cX4_leaveTrail 252 = .ok (.iaload, 1) := by decide +kernel
theorem dX4_leaveTrail_253 : decode cX4_leaveTrail 253 = .ok (.aload_n 0, 1) := by decide +kernel
theorem dX4_leaveTrail_254 : decode cX4_leaveTrail 254 = .ok (.getfield 7, 3) := by decide +kernel
theorem dX4_leaveTrail_257 : decode cX4_leaveTrail 257 = .ok (.bipush 26, 2) := by decide +kernel
theorem dX4_leaveTrail_259 : decode cX4_leaveTrail 259 = .ok (.iaload, 1) := by decide +kernel
theorem dX4_leaveTrail_260 : decode cX4_leaveTrail 260 = .ok (.isub, 1) := by decide +kernel
theorem dX4_leaveTrail_261 : decode cX4_leaveTrail 261 = .ok (.idiv, 1) := by decide +kernel
theorem dX4_leaveTrail_262 : decode cX4_leaveTrail 262 = .ok (.iastore, 1) := by decide +kernel
theorem dX4_leaveTrail_263 : decode cX4_leaveTrail 263 = .ok (.return_, 1) := by decide +kernel
set_option maxRecDepth 20000 in
theorem ggX4_hearNow_X4_bestOf : GoodIn wsX4_hearNow wsX4_bestOf := goodIn_r _ [6, 1, 7, 8, 5, 9, 10, 11, 12, 13, 14, 15, 16, 17, 34, 35, 36, 37, 38, 39, 40, 41, 42, 43, 44, 45, 46, 47, 48, 49, 50, 51, 52] (by decide +kernel) (by decide +kernel)
set_option maxRecDepth 20000 in
theorem gX4_hearNow_X4_bestOf : GoodIn wsX4_hearNow (wsV RX4 71 RX4 yX4_bestOf wsX4_bestOf) := goodIn_app (goodIn_of _ (by decide +kernel)) ggX4_hearNow_X4_bestOf
set_option maxRecDepth 20000 in
theorem ggX4_hearNow_X4_isAccepted : GoodIn wsX4_hearNow wsX4_isAccepted := goodIn_r _ [21, 1, 10, 11, 12, 5, 13, 34, 35, 36, 37, 38, 39, 40, 41, 42, 43, 44, 45, 46, 47, 48, 49, 50, 51, 52] (by decide +kernel) (by decide +kernel)
set_option maxRecDepth 20000 in
theorem gX4_hearNow_X4_isAccepted : GoodIn wsX4_hearNow (wsV RX4 74 RX4 yX4_isAccepted wsX4_isAccepted) := goodIn_app (goodIn_of _ (by decide +kernel)) ggX4_hearNow_X4_isAccepted
set_option maxRecDepth 20000 in
theorem ggX4_hearNow_X4_follow : GoodIn wsX4_hearNow wsX4_follow := goodIn_r _ [25, 1, 26, 27, 28, 5, 29, 34, 35, 36, 37, 38, 39, 40, 41, 42, 43, 44, 45, 46, 47, 48, 49, 50, 51, 52] (by decide +kernel) (by decide +kernel)
set_option maxRecDepth 20000 in
theorem gX4_hearNow_X4_follow : GoodIn wsX4_hearNow (wsV RX4 78 RX4 yX4_follow wsX4_follow) := goodIn_app (goodIn_of _ (by decide +kernel)) ggX4_hearNow_X4_follow
set_option maxRecDepth 20000 in
theorem ggX4_hearNow_X4_keepWord : GoodIn wsX4_hearNow wsX4_keepWord := goodIn_r _ [33, 1, 34, 35, 36, 37, 38, 39, 40, 41, 42, 43, 44, 45, 46, 47, 48, 49, 50, 51, 52] (by decide +kernel) (by decide +kernel)
set_option maxRecDepth 20000 in
theorem gX4_hearNow_X4_keepWord : GoodIn wsX4_hearNow (wsV RX4 82 RX4 yX4_keepWord wsX4_keepWord) := goodIn_app (goodIn_of _ (by decide +kernel)) ggX4_hearNow_X4_keepWord
theorem dX4_hearNow_0 : decode cX4_hearNow 0 = .ok (.aload_n 0, 1) := by decide +kernel
theorem dX4_hearNow_1 : decode cX4_hearNow 1 = .ok (.iload_n 1, 1) := by decide +kernel
theorem dX4_hearNow_2 : decode cX4_hearNow 2 = .ok (.invokevirtual 71, 3) := by decide +kernel
theorem dX4_hearNow_5 : decode cX4_hearNow 5 = .ok (.istore_n 2, 1) := by decide +kernel
theorem dX4_hearNow_6 : decode cX4_hearNow 6 = .ok (.iload_n 2, 1) := by decide +kernel
theorem dX4_hearNow_7 : decode cX4_hearNow 7 = .ok (.bipush (-9), 2) := by decide +kernel
theorem dX4_hearNow_9 : decode cX4_hearNow 9 = .ok (.if_icmp .eq 15, 3) := by decide +kernel
theorem dX4_hearNow_12 : decode cX4_hearNow 12 = .ok (.aload_n 0, 1) := by decide +kernel
theorem dX4_hearNow_13 : decode cX4_hearNow 13 = .ok (.iload_n 2, 1) := by decide +kernel
theorem dX4_hearNow_14 : decode cX4_hearNow 14 = .ok (.invokevirtual 74, 3) := by decide +kernel
theorem dX4_hearNow_17 : decode cX4_hearNow 17 = .ok (.ifCond .eq 7, 3) := by decide +kernel
theorem dX4_hearNow_20 : decode cX4_hearNow 20 = .ok (.iconst 1, 1) := by decide +kernel
theorem dX4_hearNow_21 : decode cX4_hearNow 21 = .ok (.goto 4, 3) := by decide +kernel
theorem dX4_hearNow_24 : decode cX4_hearNow 24 = .ok (.iconst 0, 1) := by decide +kernel
theorem dX4_hearNow_25 : decode cX4_hearNow 25 = .ok (.istore_n 3, 1) := by decide +kernel
theorem dX4_hearNow_26 : decode cX4_hearNow 26 = .ok (.iload_n 3, 1) := by decide +kernel
theorem dX4_hearNow_27 : decode cX4_hearNow 27 = .ok (.ifCond .eq 11, 3) := by decide +kernel
theorem dX4_hearNow_30 : decode cX4_hearNow 30 = .ok (.aload_n 0, 1) := by decide +kernel
theorem dX4_hearNow_31 : decode cX4_hearNow 31 = .ok (.iload_n 2, 1) := by decide +kernel
theorem dX4_hearNow_32 : decode cX4_hearNow 32 = .ok (.invokevirtual 78, 3) := by decide +kernel
theorem dX4_hearNow_35 : decode cX4_hearNow 35 = .ok (.goto 14, 3) := by decide +kernel
theorem dX4_hearNow_38 : decode cX4_hearNow 38 = .ok (.aload_n 0, 1) := by decide +kernel
theorem dX4_hearNow_39 : decode cX4_hearNow 39 = .ok (.getfield 7, 3) := by decide +kernel
theorem dX4_hearNow_42 : decode cX4_hearNow 42 = .ok (.bipush 17, 2) := by decide +kernel
theorem dX4_hearNow_44 : decode cX4_hearNow 44 = .ok (.dup2, 1) := by decide +kernel
theorem dX4_hearNow_45 : decode cX4_hearNow 45 = .ok (.iaload, 1) := by decide +kernel
theorem dX4_hearNow_46 : decode cX4_hearNow 46 = .ok (.iconst 1, 1) := by decide +kernel
theorem dX4_hearNow_47 : decode cX4_hearNow 47 = .ok (.iadd, 1) := by decide +kernel
theorem dX4_hearNow_48 : decode cX4_hearNow 48 = .ok (.iastore, 1) := by decide +kernel
theorem dX4_hearNow_49 : decode cX4_hearNow 49 = .ok (.aload_n 0, 1) := by decide +kernel
theorem dX4_hearNow_50 : decode cX4_hearNow 50 = .ok (.iload_n 1, 1) := by decide +kernel
theorem dX4_hearNow_51 : decode cX4_hearNow 51 = .ok (.invokevirtual 82, 3) := by decide +kernel
theorem dX4_hearNow_54 : decode cX4_hearNow 54 = .ok (.iload_n 3, 1) := by decide +kernel
theorem dX4_hearNow_55 : decode cX4_hearNow 55 = .ok (.ifCond .eq 13, 3) := by decide +kernel
theorem dX4_hearNow_58 : decode cX4_hearNow 58 = .ok (.aload_n 0, 1) := by decide +kernel
theorem dX4_hearNow_59 : decode cX4_hearNow 59 = .ok (.getfield 7, 3) := by decide +kernel
theorem dX4_hearNow_62 : decode cX4_hearNow 62 = .ok (.bipush 11, 2) := by decide +kernel
theorem dX4_hearNow_64 : decode cX4_hearNow 64 = .ok (.iaload, 1) := by decide +kernel
theorem dX4_hearNow_65 : decode cX4_hearNow 65 = .ok (.goto 5, 3) := by decide +kernel
theorem dX4_hearNow_68 : decode cX4_hearNow 68 = .ok (.bipush (-9), 2) := by decide +kernel
theorem dX4_hearNow_70 : decode cX4_hearNow 70 = .ok (.ireturn, 1) := by decide +kernel
theorem dX4_nextCue_0 : decode cX4_nextCue 0 = .ok (.iconst 0, 1) := by decide +kernel
theorem dX4_nextCue_1 : decode cX4_nextCue 1 = .ok (.istore_n 1, 1) := by decide +kernel
theorem dX4_nextCue_2 : decode cX4_nextCue 2 = .ok (.iload_n 1, 1) := by decide +kernel
theorem dX4_nextCue_3 : decode cX4_nextCue 3 = .ok (.aload_n 0, 1) := by decide +kernel
theorem dX4_nextCue_4 : decode cX4_nextCue 4 = .ok (.getfield 7, 3) := by decide +kernel
theorem dX4_nextCue_7 : decode cX4_nextCue 7 = .ok (.bipush 9, 2) := by decide +kernel
theorem dX4_nextCue_9 : decode cX4_nextCue 9 = .ok (.iaload, 1) := by decide +kernel
theorem dX4_nextCue_10 : decode cX4_nextCue 10 = .ok (.if_icmp .ge 25, 3) := by decide +kernel
theorem dX4_nextCue_13 : decode cX4_nextCue 13 = .ok (.aload_n 0, 1) := by decide +kernel
theorem dX4_nextCue_14 : decode cX4_nextCue 14 = .ok (.getfield 7, 3) := by decide +kernel
theorem dX4_nextCue_17 : decode cX4_nextCue 17 = .ok (.sipush 270, 3) := by decide +kernel
theorem dX4_nextCue_20 : decode cX4_nextCue 20 = .ok (.iload_n 1, 1) := by decide +kernel
theorem dX4_nextCue_21 : decode cX4_nextCue 21 = .ok (.iadd, 1) := by decide +kernel
theorem dX4_nextCue_22 : decode cX4_nextCue 22 = .ok (.iaload, 1) := by decide +kernel
theorem dX4_nextCue_23 : decode cX4_nextCue 23 = .ok (.iconst 1, 1) := by decide +kernel
theorem dX4_nextCue_24 : decode cX4_nextCue 24 = .ok (.if_icmp .ne 5, 3) := by decide +kernel
theorem dX4_nextCue_27 : decode cX4_nextCue 27 = .ok (.iload_n 1, 1) := by decide +kernel
theorem dX4_nextCue_28 : decode cX4_nextCue 28 = .ok (.ireturn, 1) := by decide +kernel
theorem dX4_nextCue_29 : decode cX4_nextCue 29 = .ok (.iinc 1 1, 3) := by decide +kernel
theorem dX4_nextCue_32 : decode cX4_nextCue 32 = .ok (.goto (-30), 3) := by decide +kernel
theorem dX4_nextCue_35 : decode cX4_nextCue 35 = .ok (.bipush (-9), 2) := by decide +kernel
theorem dX4_nextCue_37 : decode cX4_nextCue 37 = .ok (.ireturn, 1) := by decide +kernel
set_option maxRecDepth 20000 in
theorem ggX4_estimated_X4_nextCue : GoodIn wsX4_estimated wsX4_nextCue := goodIn_r _ [6, 1, 7, 8, 9, 10, 11, 12, 13, 14, 15, 16, 17, 18, 19, 20, 21, 22, 23, 24, 25] (by decide +kernel) (by decide +kernel)
set_option maxRecDepth 20000 in
theorem gX4_estimated_X4_nextCue : GoodIn wsX4_estimated (wsV RX4 85 RX4 yX4_nextCue wsX4_nextCue) := goodIn_app (goodIn_of _ (by decide +kernel)) ggX4_estimated_X4_nextCue
theorem dX4_estimated_0 : decode cX4_estimated 0 = .ok (.bipush 100, 2) := by decide +kernel
theorem dX4_estimated_2 : decode cX4_estimated 2 = .ok (.aload_n 0, 1) := by decide +kernel
theorem dX4_estimated_3 : decode cX4_estimated 3 = .ok (.getfield 7, 3) := by decide +kernel
theorem dX4_estimated_6 : decode cX4_estimated 6 = .ok (.bipush 11, 2) := by decide +kernel
theorem dX4_estimated_8 : decode cX4_estimated 8 = .ok (.iaload, 1) := by decide +kernel
theorem dX4_estimated_9 : decode cX4_estimated 9 = .ok (.imul, 1) := by decide +kernel
theorem dX4_estimated_10 : decode cX4_estimated 10 = .ok (.aload_n 0, 1) := by decide +kernel
theorem dX4_estimated_11 : decode cX4_estimated 11 = .ok (.getfield 7, 3) := by decide +kernel
end
section
theorem dX4_estimated_14 : decode cX4_estimated 14 = .ok (.bipush 12, 2) := by decide +kernel
theorem dX4_estimated_16 : decode cX4_estimated 16 = .ok (.iaload, 1) := by decide +kernel
theorem dX4_estimated_17 : decode cX4_estimated 17 = .ok (.aload_n 0, 1) := by decide +kernel
theorem dX4_estimated_18 : decode cX4_estimated 18 = .ok (.getfield 7, 3) := by decide +kernel
theorem dX4_estimated_21 : decode cX4_estimated 21 = .ok (.bipush 10, 2) := by decide +kernel
theorem dX4_estimated_23 : decode cX4_estimated 23 = .ok (.iaload, 1) := by decide +kernel
theorem dX4_estimated_24 : decode cX4_estimated 24 = .ok (.aload_n 0, 1) := by decide +kernel
theorem dX4_estimated_25 : decode cX4_estimated 25 = .ok (.getfield 7, 3) := by decide +kernel
theorem dX4_estimated_28 : decode cX4_estimated 28 = .ok (.bipush 13, 2) := by decide +kernel
theorem dX4_estimated_30 : decode cX4_estimated 30 = .ok (.iaload, 1) := by decide +kernel
theorem dX4_estimated_31 : decode cX4_estimated 31 = .ok (.isub, 1) := by decide +kernel
theorem dX4_estimated_32 : decode cX4_estimated 32 = .ok (.aload_n 0, 1) := by decide +kernel
theorem dX4_estimated_33 : decode cX4_estimated 33 = .ok (.getfield 7, 3) := by decide +kernel
theorem dX4_estimated_36 : decode cX4_estimated 36 = .ok (.bipush 8, 2) := by decide +kernel
theorem dX4_estimated_38 : decode cX4_estimated 38 = .ok (.iaload, 1) := by decide +kernel
theorem dX4_estimated_39 : decode cX4_estimated 39 = .ok (.iadd, 1) := by decide +kernel
theorem dX4_estimated_40 : decode cX4_estimated 40 = .ok (.imul, 1) := by decide +kernel
theorem dX4_estimated_41 : decode cX4_estimated 41 = .ok (.iadd, 1) := by decide +kernel
theorem dX4_estimated_42 : decode cX4_estimated 42 = .ok (.bipush 100, 2) := by decide +kernel
theorem dX4_estimated_44 : decode cX4_estimated 44 = .ok (.idiv, 1) := by decide +kernel
theorem dX4_estimated_45 : decode cX4_estimated 45 = .ok (.istore_n 1, 1) := by decide +kernel
theorem dX4_estimated_46 : decode cX4_estimated 46 = .ok (.aload_n 0, 1) := by decide +kernel
theorem dX4_estimated_47 : decode cX4_estimated 47 = .ok (.invokevirtual 85, 3) := by decide +kernel
theorem dX4_estimated_50 : decode cX4_estimated 50 = .ok (.istore_n 2, 1) := by decide +kernel
theorem dX4_estimated_51 : decode cX4_estimated 51 = .ok (.iload_n 2, 1) := by decide +kernel
theorem dX4_estimated_52 : decode cX4_estimated 52 = .ok (.bipush (-9), 2) := by decide +kernel
theorem dX4_estimated_54 : decode cX4_estimated 54 = .ok (.if_icmp .eq 12, 3) := by decide +kernel
theorem dX4_estimated_57 : decode cX4_estimated 57 = .ok (.iload_n 2, 1) := by decide +kernel
theorem dX4_estimated_58 : decode cX4_estimated 58 = .ok (.iload_n 1, 1) := by decide +kernel
theorem dX4_estimated_59 : decode cX4_estimated 59 = .ok (.if_icmp .ge 7, 3) := by decide +kernel
theorem dX4_estimated_62 : decode cX4_estimated 62 = .ok (.iload_n 2, 1) := by decide +kernel
theorem dX4_estimated_63 : decode cX4_estimated 63 = .ok (.goto 4, 3) := by decide +kernel
theorem dX4_estimated_66 : decode cX4_estimated 66 = .ok (.iload_n 1, 1) := by decide +kernel
theorem dX4_estimated_67 : decode cX4_estimated 67 = .ok (.istore_n 1, 1) := by decide +kernel
theorem dX4_estimated_68 : decode cX4_estimated 68 = .ok (.iload_n 1, 1) := by decide +kernel
theorem dX4_estimated_69 : decode cX4_estimated 69 = .ok (.aload_n 0, 1) := by decide +kernel
theorem dX4_estimated_70 : decode cX4_estimated 70 = .ok (.getfield 7, 3) := by decide +kernel
theorem dX4_estimated_73 : decode cX4_estimated 73 = .ok (.bipush 9, 2) := by decide +kernel
theorem dX4_estimated_75 : decode cX4_estimated 75 = .ok (.iaload, 1) := by decide +kernel
theorem dX4_estimated_76 : decode cX4_estimated 76 = .ok (.iconst 1, 1) := by decide +kernel
theorem dX4_estimated_77 : decode cX4_estimated 77 = .ok (.isub, 1) := by decide +kernel
theorem dX4_estimated_78 : decode cX4_estimated 78 = .ok (.if_icmp .ge 7, 3) := by decide +kernel
theorem dX4_estimated_81 : decode cX4_estimated 81 = .ok (.iload_n 1, 1) := by decide +kernel
theorem dX4_estimated_82 : decode cX4_estimated 82 = .ok (.goto 12, 3) := by decide +kernel
theorem dX4_estimated_85 : decode cX4_estimated 85 = .ok (.aload_n 0, 1) := by decide +kernel
theorem dX4_estimated_86 : decode cX4_estimated 86 = .ok (.getfield 7, 3) := by decide +kernel
theorem dX4_estimated_89 : decode cX4_estimated 89 = .ok (.bipush 9, 2) := by decide +kernel
theorem dX4_estimated_91 : decode cX4_estimated 91 = .ok (.iaload, 1) := by decide +kernel
theorem dX4_estimated_92 : decode cX4_estimated 92 = .ok (.iconst 1, 1) := by decide +kernel
theorem dX4_estimated_93 : decode cX4_estimated 93 = .ok (.isub, 1) := by decide +kernel
theorem dX4_estimated_94 : decode cX4_estimated 94 = .ok (.ireturn, 1) := by decide +kernel
set_option maxRecDepth 20000 in
theorem ggX4_desired_X4_estimated : GoodIn wsX4_desired wsX4_estimated := goodIn_r _ [7, 1, 8, 9, 10, 6, 11, 21, 22, 23, 24, 25, 26, 27, 28, 29, 30, 31, 32, 33, 34, 35, 36, 37, 38, 39] (by decide +kernel) (by decide +kernel)
set_option maxRecDepth 20000 in
theorem gX4_desired_X4_estimated : GoodIn wsX4_desired (wsV RX4 88 RX4 yX4_estimated wsX4_estimated) := goodIn_app (goodIn_of _ (by decide +kernel)) ggX4_desired_X4_estimated
set_option maxRecDepth 20000 in
theorem ggX4_desired_X4_limited : GoodIn wsX4_desired wsX4_limited := goodIn_r _ [15, 16, 17, 18, 6, 19, 20, 1, 21, 22, 23, 24, 25, 26, 27, 28, 29, 30, 31, 32, 33, 34, 35, 36, 37, 38, 39] (by decide +kernel) (by decide +kernel)
set_option maxRecDepth 20000 in
theorem gX4_desired_X4_limited : GoodIn wsX4_desired (wsV RX4 91 RX4 yX4_limited wsX4_limited) := goodIn_app (goodIn_of _ (by decide +kernel)) ggX4_desired_X4_limited
theorem dX4_desired_0 : decode cX4_desired 0 = .ok (.aload_n 0, 1) := by decide +kernel
theorem dX4_desired_1 : decode cX4_desired 1 = .ok (.getfield 7, 3) := by decide +kernel
theorem dX4_desired_4 : decode cX4_desired 4 = .ok (.iconst 2, 1) := by decide +kernel
theorem dX4_desired_5 : decode cX4_desired 5 = .ok (.iaload, 1) := by decide +kernel
theorem dX4_desired_6 : decode cX4_desired 6 = .ok (.aload_n 0, 1) := by decide +kernel
theorem dX4_desired_7 : decode cX4_desired 7 = .ok (.getfield 7, 3) := by decide +kernel
theorem dX4_desired_10 : decode cX4_desired 10 = .ok (.iconst 1, 1) := by decide +kernel
theorem dX4_desired_11 : decode cX4_desired 11 = .ok (.iaload, 1) := by decide +kernel
theorem dX4_desired_12 : decode cX4_desired 12 = .ok (.iconst 1, 1) := by decide +kernel
theorem dX4_desired_13 : decode cX4_desired 13 = .ok (.isub, 1) := by decide +kernel
theorem dX4_desired_14 : decode cX4_desired 14 = .ok (.if_icmp .ge 12, 3) := by decide +kernel
theorem dX4_desired_17 : decode cX4_desired 17 = .ok (.aload_n 0, 1) := by decide +kernel
theorem dX4_desired_18 : decode cX4_desired 18 = .ok (.getfield 7, 3) := by decide +kernel
theorem dX4_desired_21 : decode cX4_desired 21 = .ok (.iconst 2, 1) := by decide +kernel
theorem dX4_desired_22 : decode cX4_desired 22 = .ok (.iaload, 1) := by decide +kernel
theorem dX4_desired_23 : decode cX4_desired 23 = .ok (.goto 11, 3) := by decide +kernel
theorem dX4_desired_26 : decode cX4_desired 26 = .ok (.aload_n 0, 1) := by decide +kernel
theorem dX4_desired_27 : decode cX4_desired 27 = .ok (.getfield 7, 3) := by decide +kernel
theorem dX4_desired_30 : decode cX4_desired 30 = .ok (.iconst 1, 1) := by decide +kernel
theorem dX4_desired_31 : decode cX4_desired 31 = .ok (.iaload, 1) := by decide +kernel
theorem dX4_desired_32 : decode cX4_desired 32 = .ok (.iconst 1, 1) := by decide +kernel
theorem dX4_desired_33 : decode cX4_desired 33 = .ok (.isub, 1) := by decide +kernel
theorem dX4_desired_34 : decode cX4_desired 34 = .ok (.istore_n 1, 1) := by decide +kernel
theorem dX4_desired_35 : decode cX4_desired 35 = .ok (.aload_n 0, 1) := by decide +kernel
theorem dX4_desired_36 : decode cX4_desired 36 = .ok (.bipush 100, 2) := by decide +kernel
theorem dX4_desired_38 : decode cX4_desired 38 = .ok (.aload_n 0, 1) := by decide +kernel
theorem dX4_desired_39 : decode cX4_desired 39 = .ok (.getfield 29, 3) := by decide +kernel
theorem dX4_desired_42 : decode cX4_desired 42 = .ok (.aload_n 0, 1) := by decide +kernel
theorem dX4_desired_43 : decode cX4_desired 43 = .ok (.invokevirtual 88, 3) := by decide +kernel
theorem dX4_desired_46 : decode cX4_desired 46 = .ok (.iaload, 1) := by decide +kernel
theorem dX4_desired_47 : decode cX4_desired 47 = .ok (.iload_n 1, 1) := by decide +kernel
theorem dX4_desired_48 : decode cX4_desired 48 = .ok (.isub, 1) := by decide +kernel
theorem dX4_desired_49 : decode cX4_desired 49 = .ok (.imul, 1) := by decide +kernel
theorem dX4_desired_50 : decode cX4_desired 50 = .ok (.invokevirtual 91, 3) := by decide +kernel
theorem dX4_desired_53 : decode cX4_desired 53 = .ok (.ireturn, 1) := by decide +kernel
theorem dX4_isShown_0 : decode cX4_isShown 0 = .ok (.bipush 100, 2) := by decide +kernel
theorem dX4_isShown_2 : decode cX4_isShown 2 = .ok (.iload_n 1, 1) := by decide +kernel
theorem dX4_isShown_3 : decode cX4_isShown 3 = .ok (.imul, 1) := by decide +kernel
theorem dX4_isShown_4 : decode cX4_isShown 4 = .ok (.aload_n 0, 1) := by decide +kernel
theorem dX4_isShown_5 : decode cX4_isShown 5 = .ok (.getfield 7, 3) := by decide +kernel
theorem dX4_isShown_8 : decode cX4_isShown 8 = .ok (.bipush 14, 2) := by decide +kernel
theorem dX4_isShown_10 : decode cX4_isShown 10 = .ok (.iaload, 1) := by decide +kernel
theorem dX4_isShown_11 : decode cX4_isShown 11 = .ok (.if_icmp .lt 33, 3) := by decide +kernel
theorem dX4_isShown_14 : decode cX4_isShown 14 = .ok (.bipush 100, 2) := by decide +kernel
theorem dX4_isShown_16 : decode cX4_isShown 16 = .ok (.iload_n 1, 1) := by decide +kernel
theorem dX4_isShown_17 : decode cX4_isShown 17 = .ok (.imul, 1) := by decide +kernel
theorem dX4_isShown_18 : decode cX4_isShown 18 = .ok (.aload_n 0, 1) := by decide +kernel
theorem dX4_isShown_19 : decode cX4_isShown 19 = .ok (.getfield 7, 3) := by decide +kernel
theorem dX4_isShown_22 : decode cX4_isShown 22 = .ok (.bipush 14, 2) := by decide +kernel
theorem dX4_isShown_24 : decode cX4_isShown 24 = .ok (.iaload, 1) := by decide +kernel
theorem dX4_isShown_25 : decode cX4_isShown 25 = .ok (.bipush 100, 2) := by decide +kernel
theorem dX4_isShown_27 : decode cX4_isShown 27 = .ok (.aload_n 0, 1) := by decide +kernel
theorem dX4_isShown_28 : decode cX4_isShown 28 = .ok (.getfield 7, 3) := by decide +kernel
theorem dX4_isShown_31 : decode cX4_isShown 31 = .ok (.iconst 1, 1) := by decide +kernel
theorem dX4_isShown_32 : decode cX4_isShown 32 = .ok (.iaload, 1) := by decide +kernel
theorem dX4_isShown_33 : decode cX4_isShown 33 = .ok (.iconst 1, 1) := by decide +kernel
theorem dX4_isShown_34 : decode cX4_isShown 34 = .ok (.isub, 1) := by decide +kernel
theorem dX4_isShown_35 : decode cX4_isShown 35 = .ok (.imul, 1) := by decide +kernel
theorem dX4_isShown_36 : decode cX4_isShown 36 = .ok (.iadd, 1) := by decide +kernel
theorem dX4_isShown_37 : decode cX4_isShown 37 = .ok (.if_icmp .gt 7, 3) := by decide +kernel
theorem dX4_isShown_40 : decode cX4_isShown 40 = .ok (.iconst 1, 1) := by decide +kernel
theorem dX4_isShown_41 : decode cX4_isShown 41 = .ok (.goto 4, 3) := by decide +kernel
theorem dX4_isShown_44 : decode cX4_isShown 44 = .ok (.iconst 0, 1) := by decide +kernel
theorem dX4_isShown_45 : decode cX4_isShown 45 = .ok (.ireturn, 1) := by decide +kernel
set_option maxRecDepth 20000 in
theorem ggX4_tickOnce_X4_desired : GoodIn wsX4_tickOnce wsX4_desired := goodIn_r _ [7, 1, 2, 8, 9, 10, 6, 11, 12, 13, 14, 15, 16, 17, 18, 19, 20, 21, 22, 23, 24, 29, 30, 31, 32, 33, 34, 35, 36, 37, 38, 39, 40, 41, 42, 43, 44, 45, 46, 47] (by decide +kernel) (by decide +kernel)
set_option maxRecDepth 20000 in
theorem gX4_tickOnce_X4_desired : GoodIn wsX4_tickOnce (wsV RX4 94 RX4 yX4_desired wsX4_desired) := goodIn_app (goodIn_of _ (by decide +kernel)) ggX4_tickOnce_X4_desired
set_option maxRecDepth 20000 in
theorem ggX4_tickOnce_X4_estimated : GoodIn wsX4_tickOnce wsX4_estimated := goodIn_r _ [11, 1, 12, 13, 14, 6, 15, 29, 30, 31, 32, 33, 34, 35, 36, 37, 38, 39, 40, 41, 42, 43, 44, 45, 46, 47] (by decide +kernel) (by decide +kernel)
set_option maxRecDepth 20000 in
theorem gX4_tickOnce_X4_estimated : GoodIn wsX4_tickOnce (wsV RX4 88 RX4 yX4_estimated wsX4_estimated) := goodIn_app (goodIn_of _ (by decide +kernel)) ggX4_tickOnce_X4_estimated
set_option maxRecDepth 20000 in
theorem ggX4_tickOnce_X4_isShown : GoodIn wsX4_tickOnce wsX4_isShown := goodIn_r _ [28, 1, 29, 30, 31, 32, 33, 34, 35, 36, 37, 38, 39, 40, 41, 42, 43, 44, 45, 46, 47] (by decide +kernel) (by decide +kernel)
set_option maxRecDepth 20000 in
theorem gX4_tickOnce_X4_isShown : GoodIn wsX4_tickOnce (wsV RX4 97 RX4 yX4_isShown wsX4_isShown) := goodIn_app (goodIn_of _ (by decide +kernel)) ggX4_tickOnce_X4_isShown
theorem dX4_tickOnce_0 : decode cX4_tickOnce 0 = .ok (.aload_n 0, 1) := by decide +kernel
theorem dX4_tickOnce_1 : decode cX4_tickOnce 1 = .ok (.getfield 7, 3) := by decide +kernel
theorem dX4_tickOnce_4 : decode cX4_tickOnce 4 = .ok (.bipush 10, 2) := by decide +kernel
theorem dX4_tickOnce_6 : decode cX4_tickOnce 6 = .ok (.dup2, 1) := by decide +kernel
theorem dX4_tickOnce_7 : decode cX4_tickOnce 7 = .ok (.iaload, 1) := by decide +kernel
theorem dX4_tickOnce_8 : decode cX4_tickOnce 8 = .ok (.iconst 1, 1) := by decide +kernel
theorem dX4_tickOnce_9 : decode cX4_tickOnce 9 = .ok (.iadd, 1) := by decide +kernel
theorem dX4_tickOnce_10 : decode cX4_tickOnce 10 = .ok (.iastore, 1) := by decide +kernel
theorem dX4_tickOnce_11 : decode cX4_tickOnce 11 = .ok (.aload_n 0, 1) := by decide +kernel
theorem dX4_tickOnce_12 : decode cX4_tickOnce 12 = .ok (.invokevirtual 94, 3) := by decide +kernel
theorem dX4_tickOnce_15 : decode cX4_tickOnce 15 = .ok (.aload_n 0, 1) := by decide +kernel
theorem dX4_tickOnce_16 : decode cX4_tickOnce 16 = .ok (.getfield 7, 3) := by decide +kernel
theorem dX4_tickOnce_19 : decode cX4_tickOnce 19 = .ok (.bipush 14, 2) := by decide +kernel
theorem dX4_tickOnce_21 : decode cX4_tickOnce 21 = .ok (.iaload, 1) := by decide +kernel
theorem dX4_tickOnce_22 : decode cX4_tickOnce 22 = .ok (.isub, 1) := by decide +kernel
theorem dX4_tickOnce_23 : decode cX4_tickOnce 23 = .ok (.istore_n 1, 1) := by decide +kernel
theorem dX4_tickOnce_24 : decode cX4_tickOnce 24 = .ok (.aload_n 0, 1) := by decide +kernel
theorem dX4_tickOnce_25 : decode cX4_tickOnce 25 = .ok (.getfield 7, 3) := by decide +kernel
theorem dX4_tickOnce_28 : decode cX4_tickOnce 28 = .ok (.bipush 14, 2) := by decide +kernel
theorem dX4_tickOnce_30 : decode cX4_tickOnce 30 = .ok (.dup2, 1) := by decide +kernel
theorem dX4_tickOnce_31 : decode cX4_tickOnce 31 = .ok (.iaload, 1) := by decide +kernel
theorem dX4_tickOnce_32 : decode cX4_tickOnce 32 = .ok (.iload_n 1, 1) := by decide +kernel
theorem dX4_tickOnce_33 : decode cX4_tickOnce 33 = .ok (.aload_n 0, 1) := by decide +kernel
theorem dX4_tickOnce_34 : decode cX4_tickOnce 34 = .ok (.getfield 7, 3) := by decide +kernel
theorem dX4_tickOnce_37 : decode cX4_tickOnce 37 = .ok (.bipush 7, 2) := by decide +kernel
theorem dX4_tickOnce_39 : decode cX4_tickOnce 39 = .ok (.iaload, 1) := by decide +kernel
theorem dX4_tickOnce_40 : decode cX4_tickOnce 40 = .ok (.if_icmp .le 13, 3) := by decide +kernel
theorem dX4_tickOnce_43 : decode cX4_tickOnce 43 = .ok (.aload_n 0, 1) := by decide +kernel
theorem dX4_tickOnce_44 : decode cX4_tickOnce 44 = .ok (.getfield 7, 3) := by decide +kernel
theorem dX4_tickOnce_47 : decode cX4_tickOnce 47 = .ok (.bipush 7, 2) := by decide +kernel
theorem dX4_tickOnce_49 : decode cX4_tickOnce 49 = .ok (.iaload, 1) := by decide +kernel
theorem dX4_tickOnce_50 : decode cX4_tickOnce 50 = .ok (.goto 27, 3) := by decide +kernel
theorem dX4_tickOnce_53 : decode cX4_tickOnce 53 = .ok (.iload_n 1, 1) := by decide +kernel
theorem dX4_tickOnce_54 : decode cX4_tickOnce 54 = .ok (.aload_n 0, 1) := by decide +kernel
theorem dX4_tickOnce_55 : decode cX4_tickOnce 55 = .ok (.getfield 7, 3) := by decide +kernel
theorem dX4_tickOnce_58 : decode cX4_tickOnce 58 = .ok (.bipush 7, 2) := by decide +kernel
theorem dX4_tickOnce_60 : decode cX4_tickOnce 60 = .ok (.iaload, 1) := by decide +kernel
theorem dX4_tickOnce_61 : decode cX4_tickOnce 61 = .ok (.ineg, 1) := by decide +kernel
theorem dX4_tickOnce_62 : decode cX4_tickOnce 62 = .ok (.if_icmp .ge 14, 3) := by decide +kernel
theorem dX4_tickOnce_65 : decode cX4_tickOnce 65 = .ok (.aload_n 0, 1) := by decide +kernel
theorem dX4_tickOnce_66 : decode cX4_tickOnce 66 = .ok (.getfield 7, 3) := by decide +kernel
theorem dX4_tickOnce_69 : decode cX4_tickOnce 69 = .ok (.bipush 7, 2) := by decide +kernel
theorem dX4_tickOnce_71 : decode cX4_tickOnce 71 = .ok (.iaload, 1) := by decide +kernel
theorem dX4_tickOnce_72 : decode cX4_tickOnce 72 = .ok (.ineg, 1) := by decide +kernel
theorem dX4_tickOnce_73 : decode cX4_tickOnce 73 = .ok (.goto 4, 3) := by decide +kernel
theorem dX4_tickOnce_76 : decode cX4_tickOnce 76 = .ok (.iload_n 1, 1) := by decide +kernel
theorem dX4_tickOnce_77 : decode cX4_tickOnce 77 = .ok (.iadd, 1) := by decide +kernel
theorem dX4_tickOnce_78 : decode cX4_tickOnce 78 = .ok (.iastore, 1) := by decide +kernel
theorem dX4_tickOnce_79 : decode cX4_tickOnce 79 = .ok (.aload_n 0, 1) := by decide +kernel
theorem dX4_tickOnce_80 : decode cX4_tickOnce 80 = .ok (.getfield 29, 3) := by decide +kernel
theorem dX4_tickOnce_83 : decode cX4_tickOnce 83 = .ok (.aload_n 0, 1) := by decide +kernel
theorem dX4_tickOnce_84 : decode cX4_tickOnce 84 = .ok (.invokevirtual 88, 3) := by decide +kernel
theorem dX4_tickOnce_87 : decode cX4_tickOnce 87 = .ok (.iaload, 1) := by decide +kernel
theorem dX4_tickOnce_88 : decode cX4_tickOnce 88 = .ok (.istore_n 2, 1) := by decide +kernel
theorem dX4_tickOnce_89 : decode cX4_tickOnce 89 = .ok (.aload_n 0, 1) := by decide +kernel
theorem dX4_tickOnce_90 : decode cX4_tickOnce 90 = .ok (.iload_n 2, 1) := by decide +kernel
theorem dX4_tickOnce_91 : decode cX4_tickOnce 91 = .ok (.invokevirtual 97, 3) := by decide +kernel
theorem dX4_tickOnce_94 : decode cX4_tickOnce 94 = .ok (.ifCond .ne 58, 3) := by decide +kernel
theorem dX4_tickOnce_97 : decode cX4_tickOnce 97 = .ok (.aload_n 0, 1) := by decide +kernel
theorem dX4_tickOnce_98 : decode cX4_tickOnce 98 = .ok (.getfield 7, 3) := by decide +kernel
theorem dX4_tickOnce_101 : decode cX4_tickOnce 101 = .ok (.bipush 14, 2) := by decide +kernel
theorem dX4_tickOnce_103 : decode cX4_tickOnce 103 = .ok (.bipush 100, 2) := by decide +kernel
theorem dX4_tickOnce_105 : decode cX4_tickOnce 105 = .ok (.iload_n 2, 1) := by decide +kernel
theorem dX4_tickOnce_106 : decode cX4_tickOnce 106 = .ok (.imul, 1) := by decide +kernel
theorem dX4_tickOnce_107 : decode cX4_tickOnce 107 = .ok (.aload_n 0, 1) := by decide +kernel
theorem dX4_tickOnce_108 : decode cX4_tickOnce 108 = .ok (.getfield 7, 3) := by decide +kernel
theorem dX4_tickOnce_111 : decode cX4_tickOnce 111 = .ok (.bipush 14, 2) := by decide +kernel
theorem dX4_tickOnce_113 : decode cX4_tickOnce 113 = .ok (.iaload, 1) := by decide +kernel
theorem dX4_tickOnce_114 : decode cX4_tickOnce 114 = .ok (.if_icmp .ge 10, 3) := by decide +kernel
theorem dX4_tickOnce_117 : decode cX4_tickOnce 117 = .ok (.bipush 100, 2) := by decide +kernel
theorem dX4_tickOnce_119 : decode cX4_tickOnce 119 = .ok (.iload_n 2, 1) := by decide +kernel
theorem dX4_tickOnce_120 : decode cX4_tickOnce 120 = .ok (.imul, 1) := by decide +kernel
theorem dX4_tickOnce_121 : decode cX4_tickOnce 121 = .ok (.goto 19, 3) := by decide +kernel
theorem dX4_tickOnce_124 : decode cX4_tickOnce 124 = .ok (.bipush 100, 2) := by decide +kernel
theorem dX4_tickOnce_126 : decode cX4_tickOnce 126 = .ok (.iload_n 2, 1) := by decide +kernel
theorem dX4_tickOnce_127 : decode cX4_tickOnce 127 = .ok (.imul, 1) := by decide +kernel
theorem dX4_tickOnce_128 : decode cX4_tickOnce 128 = .ok (.bipush 100, 2) := by decide +kernel
theorem dX4_tickOnce_130 : decode cX4_tickOnce 130 = .ok (.aload_n 0, 1) := by decide +kernel
theorem dX4_tickOnce_131 : decode cX4_tickOnce 131 = .ok (.getfield 7, 3) := by decide +kernel
theorem dX4_tickOnce_134 : decode cX4_tickOnce 134 = .ok (.iconst 1, 1) := by decide +kernel
theorem dX4_tickOnce_135 : decode cX4_tickOnce 135 = .ok (.iaload, 1) := by decide +kernel
theorem dX4_tickOnce_136 : decode cX4_tickOnce 136 = .ok (.iconst 1, 1) := by decide +kernel
theorem dX4_tickOnce_137 : decode cX4_tickOnce 137 = .ok (.isub, 1) := by decide +kernel
theorem dX4_tickOnce_138 : decode cX4_tickOnce 138 = .ok (.imul, 1) := by decide +kernel
theorem dX4_tickOnce_139 : decode cX4_tickOnce 139 = .ok (.isub, 1) := by decide +kernel
theorem dX4_tickOnce_140 : decode cX4_tickOnce 140 = .ok (.iastore, 1) := by decide +kernel
theorem dX4_tickOnce_141 : decode cX4_tickOnce 141 = .ok (.aload_n 0, 1) := by decide +kernel
theorem dX4_tickOnce_142 : decode cX4_tickOnce 142 = .ok (.getfield 7, 3) := by decide +kernel
theorem dX4_tickOnce_145 : decode cX4_tickOnce 145 = .ok (.bipush 18, 2) := by decide +kernel
theorem dX4_tickOnce_147 : decode cX4_tickOnce 147 = .ok (.dup2, 1) := by decide +kernel
theorem dX4_tickOnce_148 : decode cX4_tickOnce 148 = .ok (.iaload, 1) := by decide +kernel
theorem dX4_tickOnce_149 : decode cX4_tickOnce 149 = .ok (.iconst 1, 1) := by decide +kernel
theorem dX4_tickOnce_150 : decode cX4_tickOnce 150 = .ok (.iadd, 1) := by decide +kernel
theorem dX4_tickOnce_151 : decode cX4_tickOnce 151 = .ok (.iastore, 1) := by decide +kernel
theorem dX4_tickOnce_152 : decode cX4_tickOnce 152 = .ok (.return_, 1) := by decide +kernel
set_option maxRecDepth 20000 in
theorem ggX4_releaseNext_X4_nextCue : GoodIn wsX4_releaseNext wsX4_nextCue := goodIn_r _ [6, 1, 7, 8, 9, 10, 11, 12, 13, 14, 15, 16, 17, 18, 19, 20, 21, 22, 23, 24, 25] (by decide +kernel) (by decide +kernel)
set_option maxRecDepth 20000 in
theorem gX4_releaseNext_X4_nextCue : GoodIn wsX4_releaseNext (wsV RX4 85 RX4 yX4_nextCue wsX4_nextCue) := goodIn_app (goodIn_of _ (by decide +kernel)) ggX4_releaseNext_X4_nextCue
theorem dX4_releaseNext_0 : decode cX4_releaseNext 0 = .ok (.aload_n 0, 1) := by decide +kernel
theorem dX4_releaseNext_1 : decode cX4_releaseNext 1 = .ok (.invokevirtual 85, 3) := by decide +kernel
theorem dX4_releaseNext_4 : decode cX4_releaseNext 4 = .ok (.istore_n 1, 1) := by decide +kernel
theorem dX4_releaseNext_5 : decode cX4_releaseNext 5 = .ok (.aload_n 0, 1) := by decide +kernel
theorem dX4_releaseNext_6 : decode cX4_releaseNext 6 = .ok (.getfield 7, 3) := by decide +kernel
theorem dX4_releaseNext_9 : decode cX4_releaseNext 9 = .ok (.sipush 270, 3) := by decide +kernel
theorem dX4_releaseNext_12 : decode cX4_releaseNext 12 = .ok (.iload_n 1, 1) := by decide +kernel
theorem dX4_releaseNext_13 : decode cX4_releaseNext 13 = .ok (.iadd, 1) := by decide +kernel
theorem dX4_releaseNext_14 : decode cX4_releaseNext 14 = .ok (.iconst 2, 1) := by decide +kernel
theorem dX4_releaseNext_15 : decode cX4_releaseNext 15 = .ok (.iastore, 1) := by decide +kernel
theorem dX4_releaseNext_16 : decode cX4_releaseNext 16 = .ok (.iload_n 1, 1) := by decide +kernel
theorem dX4_releaseNext_17 : decode cX4_releaseNext 17 = .ok (.ireturn, 1) := by decide +kernel
theorem dX4_fails_0 : decode cX4_fails 0 = .ok (.aload_n 0, 1) := by decide +kernel
theorem dX4_fails_1 : decode cX4_fails 1 = .ok (.iload_n 1, 1) := by decide +kernel
theorem dX4_fails_2 : decode cX4_fails 2 = .ok (.putfield 100, 3) := by decide +kernel
theorem dX4_fails_5 : decode cX4_fails 5 = .ok (.aload_n 0, 1) := by decide +kernel
theorem dX4_fails_6 : decode cX4_fails 6 = .ok (.iload_n 2, 1) := by decide +kernel
theorem dX4_fails_7 : decode cX4_fails 7 = .ok (.putfield 103, 3) := by decide +kernel
theorem dX4_fails_10 : decode cX4_fails 10 = .ok (.return_, 1) := by decide +kernel
set_option maxRecDepth 20000 in
theorem ggX4_readWord_X4_fails : GoodIn wsX4_readWord wsX4_fails := goodIn_r _ [11, 12, 13, 14, 15, 16, 17, 18, 19, 20, 21, 22, 23, 24, 25, 26, 27, 28, 29, 30, 31, 32] (by decide +kernel) (by decide +kernel)
set_option maxRecDepth 20000 in
theorem gX4_readWord_X4_fails : GoodIn wsX4_readWord (wsV RX4 109 RX4 yX4_fails wsX4_fails) := goodIn_app (goodIn_of _ (by decide +kernel)) ggX4_readWord_X4_fails
theorem dX4_readWord_0 : decode cX4_readWord 0 = .ok (.aload_n 0, 1) := by decide +kernel
theorem dX4_readWord_1 : decode cX4_readWord 1 = .ok (.getfield 106, 3) := by decide +kernel
theorem dX4_readWord_4 : decode cX4_readWord 4 = .ok (.bipush 120, 2) := by decide +kernel
theorem dX4_readWord_6 : decode cX4_readWord 6 = .ok (.if_icmp .ne 10, 3) := by decide +kernel
theorem dX4_readWord_9 : decode cX4_readWord 9 = .ok (.aload_n 0, 1) := by decide +kernel
theorem dX4_readWord_10 : decode cX4_readWord 10 = .ok (.iconst 4, 1) := by decide +kernel
theorem dX4_readWord_11 : decode cX4_readWord 11 = .ok (.iload_n 1, 1) := by decide +kernel
theorem dX4_readWord_12 : decode cX4_readWord 12 = .ok (.invokevirtual 109, 3) := by decide +kernel
theorem dX4_readWord_15 : decode cX4_readWord 15 = .ok (.return_, 1) := by decide +kernel
theorem dX4_readWord_16 : decode cX4_readWord 16 = .ok (.aload_n 0, 1) := by decide +kernel
theorem dX4_readWord_17 : decode cX4_readWord 17 = .ok (.getfield 32, 3) := by decide +kernel
theorem dX4_readWord_20 : decode cX4_readWord 20 = .ok (.aload_n 0, 1) := by decide +kernel
theorem dX4_readWord_21 : decode cX4_readWord 21 = .ok (.getfield 106, 3) := by decide +kernel
theorem dX4_readWord_24 : decode cX4_readWord 24 = .ok (.aload_n 0, 1) := by decide +kernel
theorem dX4_readWord_25 : decode cX4_readWord 25 = .ok (.getfield 19, 3) := by decide +kernel
theorem dX4_readWord_28 : decode cX4_readWord 28 = .ok (.iload_n 1, 1) := by decide +kernel
theorem dX4_readWord_29 : decode cX4_readWord 29 = .ok (.iaload, 1) := by decide +kernel
theorem dX4_readWord_30 : decode cX4_readWord 30 = .ok (.iastore, 1) := by decide +kernel
theorem dX4_readWord_31 : decode cX4_readWord 31 = .ok (.aload_n 0, 1) := by decide +kernel
theorem dX4_readWord_32 : decode cX4_readWord 32 = .ok (.getfield 35, 3) := by decide +kernel
theorem dX4_readWord_35 : decode cX4_readWord 35 = .ok (.aload_n 0, 1) := by decide +kernel
theorem dX4_readWord_36 : decode cX4_readWord 36 = .ok (.getfield 106, 3) := by decide +kernel
theorem dX4_readWord_39 : decode cX4_readWord 39 = .ok (.iconst 0, 1) := by decide +kernel
theorem dX4_readWord_40 : decode cX4_readWord 40 = .ok (.iastore, 1) := by decide +kernel
theorem dX4_readWord_41 : decode cX4_readWord 41 = .ok (.aload_n 0, 1) := by decide +kernel
theorem dX4_readWord_42 : decode cX4_readWord 42 = .ok (.getfield 38, 3) := by decide +kernel
theorem dX4_readWord_45 : decode cX4_readWord 45 = .ok (.aload_n 0, 1) := by decide +kernel
theorem dX4_readWord_46 : decode cX4_readWord 46 = .ok (.getfield 106, 3) := by decide +kernel
theorem dX4_readWord_49 : decode cX4_readWord 49 = .ok (.aload_n 0, 1) := by decide +kernel
theorem dX4_readWord_50 : decode cX4_readWord 50 = .ok (.getfield 113, 3) := by decide +kernel
theorem dX4_readWord_53 : decode cX4_readWord 53 = .ok (.iastore, 1) := by decide +kernel
theorem dX4_readWord_54 : decode cX4_readWord 54 = .ok (.aload_n 0, 1) := by decide +kernel
theorem dX4_readWord_55 : decode cX4_readWord 55 = .ok (.dup, 1) := by decide +kernel
theorem dX4_readWord_56 : decode cX4_readWord 56 = .ok (.getfield 106, 3) := by decide +kernel
theorem dX4_readWord_59 : decode cX4_readWord 59 = .ok (.iconst 1, 1) := by decide +kernel
theorem dX4_readWord_60 : decode cX4_readWord 60 = .ok (.iadd, 1) := by decide +kernel
theorem dX4_readWord_61 : decode cX4_readWord 61 = .ok (.putfield 106, 3) := by decide +kernel
theorem dX4_readWord_64 : decode cX4_readWord 64 = .ok (.return_, 1) := by decide +kernel
theorem dX4_hasWord_0 : decode cX4_hasWord 0 = .ok (.aload_n 0, 1) := by decide +kernel
theorem dX4_hasWord_1 : decode cX4_hasWord 1 = .ok (.getfield 106, 3) := by decide +kernel
theorem dX4_hasWord_4 : decode cX4_hasWord 4 = .ok (.ifCond .le 25, 3) := by decide +kernel
theorem dX4_hasWord_7 : decode cX4_hasWord 7 = .ok (.aload_n 0, 1) := by decide +kernel
theorem dX4_hasWord_8 : decode cX4_hasWord 8 = .ok (.getfield 38, 3) := by decide +kernel
theorem dX4_hasWord_11 : decode cX4_hasWord 11 = .ok (.aload_n 0, 1) := by decide +kernel
theorem dX4_hasWord_12 : decode cX4_hasWord 12 = .ok (.getfield 106, 3) := by decide +kernel
theorem dX4_hasWord_15 : decode cX4_hasWord 15 = .ok (.iconst 1, 1) := by decide +kernel
theorem dX4_hasWord_16 : decode cX4_hasWord 16 = .ok (.isub, 1) := by decide +kernel
theorem dX4_hasWord_17 : decode cX4_hasWord 17 = .ok (.iaload, 1) := by decide +kernel
theorem dX4_hasWord_18 : decode cX4_hasWord 18 = .ok (.aload_n 0, 1) := by decide +kernel
theorem dX4_hasWord_19 : decode cX4_hasWord 19 = .ok (.getfield 113, 3) := by decide +kernel
theorem dX4_hasWord_22 : decode cX4_hasWord 22 = .ok (.if_icmp .ne 7, 3) := by decide +kernel
theorem dX4_hasWord_25 : decode cX4_hasWord 25 = .ok (.iconst 1, 1) := by decide +kernel
theorem dX4_hasWord_26 : decode cX4_hasWord 26 = .ok (.goto 4, 3) := by decide +kernel
theorem dX4_hasWord_29 : decode cX4_hasWord 29 = .ok (.iconst 0, 1) := by decide +kernel
theorem dX4_hasWord_30 : decode cX4_hasWord 30 = .ok (.ireturn, 1) := by decide +kernel
set_option maxRecDepth 20000 in
theorem ggX4_readByte_X4_isLetter : GoodIn wsX4_readByte wsX4_isLetter := goodIn_r _ [8, 9, 10, 7, 11] (by decide +kernel) (by decide +kernel)
set_option maxRecDepth 20000 in
theorem gX4_readByte_X4_isLetter : GoodIn wsX4_readByte (va_wsS RX4 116 yX4_isLetter wsX4_isLetter) := goodIn_app (goodIn_of _ (by decide +kernel)) ggX4_readByte_X4_isLetter
set_option maxRecDepth 20000 in
theorem ggX4_readByte_X4_readWord : GoodIn wsX4_readByte wsX4_readWord := goodIn_r _ [15, 3, 16, 1, 2, 17, 4, 18, 19, 20, 7, 21, 22, 23, 28, 29, 30, 31, 32, 33, 34, 35, 36, 37, 38, 39, 40, 41, 42, 43, 44, 45, 46] (by decide +kernel) (by decide +kernel)
set_option maxRecDepth 20000 in
theorem gX4_readByte_X4_readWord : GoodIn wsX4_readByte (wsV RX4 119 RX4 yX4_readWord wsX4_readWord) := goodIn_app (goodIn_of _ (by decide +kernel)) ggX4_readByte_X4_readWord
set_option maxRecDepth 20000 in
theorem ggX4_readByte_X4_fails : GoodIn wsX4_readByte wsX4_fails := goodIn_r _ [21, 22, 23, 28, 29, 30, 31, 32, 33, 34, 35, 36, 37, 38, 39, 40, 41, 42, 43, 44, 45, 46] (by decide +kernel) (by decide +kernel)
set_option maxRecDepth 20000 in
theorem gX4_readByte_X4_fails : GoodIn wsX4_readByte (wsV RX4 109 RX4 yX4_fails wsX4_fails) := goodIn_app (goodIn_of _ (by decide +kernel)) ggX4_readByte_X4_fails
set_option maxRecDepth 20000 in
theorem ggX4_readByte_X4_hasWord : GoodIn wsX4_readByte wsX4_hasWord := goodIn_r _ [27, 3, 17, 4, 28, 29, 30, 31, 32, 33, 34, 35, 36, 37, 38, 39, 40, 41, 42, 43, 44, 45, 46] (by decide +kernel) (by decide +kernel)
set_option maxRecDepth 20000 in
theorem gX4_readByte_X4_hasWord : GoodIn wsX4_readByte (wsV RX4 122 RX4 yX4_hasWord wsX4_hasWord) := goodIn_app (goodIn_of _ (by decide +kernel)) ggX4_readByte_X4_hasWord
theorem dX4_readByte_0 : decode cX4_readByte 0 = .ok (.aload_n 0, 1) := by decide +kernel
theorem dX4_readByte_1 : decode cX4_readByte 1 = .ok (.getfield 19, 3) := by decide +kernel
theorem dX4_readByte_4 : decode cX4_readByte 4 = .ok (.iload_n 1, 1) := by decide +kernel
theorem dX4_readByte_5 : decode cX4_readByte 5 = .ok (.iaload, 1) := by decide +kernel
theorem dX4_readByte_6 : decode cX4_readByte 6 = .ok (.istore_n 2, 1) := by decide +kernel
theorem dX4_readByte_7 : decode cX4_readByte 7 = .ok (.iload_n 2, 1) := by decide +kernel
theorem dX4_readByte_8 : decode cX4_readByte 8 = .ok (.invokestatic 116, 3) := by decide +kernel
theorem dX4_readByte_11 : decode cX4_readByte 11 = .ok (.ifCond .eq 11, 3) := by decide +kernel
theorem dX4_readByte_14 : decode cX4_readByte 14 = .ok (.aload_n 0, 1) := by decide +kernel
theorem dX4_readByte_15 : decode cX4_readByte 15 = .ok (.iload_n 1, 1) := by decide +kernel
theorem dX4_readByte_16 : decode cX4_readByte 16 = .ok (.invokevirtual 119, 3) := by decide +kernel
theorem dX4_readByte_19 : decode cX4_readByte 19 = .ok (.goto 98, 3) := by decide +kernel
theorem dX4_readByte_22 : decode cX4_readByte 22 = .ok (.iload_n 2, 1) := by decide +kernel
theorem dX4_readByte_23 : decode cX4_readByte 23 = .ok (.bipush 47, 2) := by decide +kernel
theorem dX4_readByte_25 : decode cX4_readByte 25 = .ok (.if_icmp .ne 45, 3) := by decide +kernel
theorem dX4_readByte_28 : decode cX4_readByte 28 = .ok (.iload_n 1, 1) := by decide +kernel
theorem dX4_readByte_29 : decode cX4_readByte 29 = .ok (.ifCond .le 32, 3) := by decide +kernel
theorem dX4_readByte_32 : decode cX4_readByte 32 = .ok (.aload_n 0, 1) := by decide +kernel
theorem dX4_readByte_33 : decode cX4_readByte 33 = .ok (.getfield 19, 3) := by decide +kernel
theorem dX4_readByte_36 : decode cX4_readByte 36 = .ok (.iload_n 1, 1) := by decide +kernel
theorem dX4_readByte_37 : decode cX4_readByte 37 = .ok (.iconst 1, 1) := by decide +kernel
theorem dX4_readByte_38 : decode cX4_readByte 38 = .ok (.isub, 1) := by decide +kernel
theorem dX4_readByte_39 : decode cX4_readByte 39 = .ok (.iaload, 1) := by decide +kernel
theorem dX4_readByte_40 : decode cX4_readByte 40 = .ok (.invokestatic 116, 3) := by decide +kernel
theorem dX4_readByte_43 : decode cX4_readByte 43 = .ok (.ifCond .eq 18, 3) := by decide +kernel
theorem dX4_readByte_46 : decode cX4_readByte 46 = .ok (.aload_n 0, 1) := by decide +kernel
theorem dX4_readByte_47 : decode cX4_readByte 47 = .ok (.getfield 35, 3) := by decide +kernel
theorem dX4_readByte_50 : decode cX4_readByte 50 = .ok (.aload_n 0, 1) := by decide +kernel
theorem dX4_readByte_51 : decode cX4_readByte 51 = .ok (.getfield 106, 3) := by decide +kernel
theorem dX4_readByte_54 : decode cX4_readByte 54 = .ok (.iconst 1, 1) := by decide +kernel
theorem dX4_readByte_55 : decode cX4_readByte 55 = .ok (.isub, 1) := by decide +kernel
theorem dX4_readByte_56 : decode cX4_readByte 56 = .ok (.iconst 1, 1) := by decide +kernel
theorem dX4_readByte_57 : decode cX4_readByte 57 = .ok (.iastore, 1) := by decide +kernel
theorem dX4_readByte_58 : decode cX4_readByte 58 = .ok (.goto 59, 3) := by decide +kernel
theorem dX4_readByte_61 : decode cX4_readByte 61 = .ok (.aload_n 0, 1) := by decide +kernel
theorem dX4_readByte_62 : decode cX4_readByte 62 = .ok (.iconst 2, 1) := by decide +kernel
theorem dX4_readByte_63 : decode cX4_readByte 63 = .ok (.iload_n 1, 1) := by decide +kernel
theorem dX4_readByte_64 : decode cX4_readByte 64 = .ok (.invokevirtual 109, 3) := by decide +kernel
theorem dX4_readByte_67 : decode cX4_readByte 67 = .ok (.goto 50, 3) := by decide +kernel
theorem dX4_readByte_70 : decode cX4_readByte 70 = .ok (.iload_n 2, 1) := by decide +kernel
theorem dX4_readByte_71 : decode cX4_readByte 71 = .ok (.bipush 124, 2) := by decide +kernel
theorem dX4_readByte_73 : decode cX4_readByte 73 = .ok (.if_icmp .ne 32, 3) := by decide +kernel
theorem dX4_readByte_76 : decode cX4_readByte 76 = .ok (.aload_n 0, 1) := by decide +kernel
theorem dX4_readByte_77 : decode cX4_readByte 77 = .ok (.invokevirtual 122, 3) := by decide +kernel
theorem dX4_readByte_80 : decode cX4_readByte 80 = .ok (.ifCond .eq 16, 3) := by decide +kernel
theorem dX4_readByte_83 : decode cX4_readByte 83 = .ok (.aload_n 0, 1) := by decide +kernel
theorem dX4_readByte_84 : decode cX4_readByte 84 = .ok (.dup, 1) := by decide +kernel
theorem dX4_readByte_85 : decode cX4_readByte 85 = .ok (.getfield 113, 3) := by decide +kernel
theorem dX4_readByte_88 : decode cX4_readByte 88 = .ok (.iconst 1, 1) := by decide +kernel
theorem dX4_readByte_89 : decode cX4_readByte 89 = .ok (.iadd, 1) := by decide +kernel
theorem dX4_readByte_90 : decode cX4_readByte 90 = .ok (.putfield 113, 3) := by decide +kernel
theorem dX4_readByte_93 : decode cX4_readByte 93 = .ok (.goto 24, 3) := by decide +kernel
theorem dX4_readByte_96 : decode cX4_readByte 96 = .ok (.aload_n 0, 1) := by decide +kernel
theorem dX4_readByte_97 : decode cX4_readByte 97 = .ok (.iconst 3, 1) := by decide +kernel
theorem dX4_readByte_98 : decode cX4_readByte 98 = .ok (.iload_n 1, 1) := by decide +kernel
theorem dX4_readByte_99 : decode cX4_readByte 99 = .ok (.invokevirtual 109, 3) := by decide +kernel
theorem dX4_readByte_102 : decode cX4_readByte 102 = .ok (.goto 15, 3) := by decide +kernel
theorem dX4_readByte_105 : decode cX4_readByte 105 = .ok (.iload_n 2, 1) := by decide +kernel
theorem dX4_readByte_106 : decode cX4_readByte 106 = .ok (.bipush 32, 2) := by decide +kernel
theorem dX4_readByte_108 : decode cX4_readByte 108 = .ok (.if_icmp .eq 9, 3) := by decide +kernel
theorem dX4_readByte_111 : decode cX4_readByte 111 = .ok (.aload_n 0, 1) := by decide +kernel
theorem dX4_readByte_112 : decode cX4_readByte 112 = .ok (.iconst 1, 1) := by decide +kernel
theorem dX4_readByte_113 : decode cX4_readByte 113 = .ok (.iload_n 1, 1) := by decide +kernel
theorem dX4_readByte_114 : decode cX4_readByte 114 = .ok (.invokevirtual 109, 3) := by decide +kernel
theorem dX4_readByte_117 : decode cX4_readByte 117 = .ok (.return_, 1) := by decide +kernel
set_option maxRecDepth 20000 in
theorem ggX4_readText_X4_fails : GoodIn wsX4_readText wsX4_fails := goodIn_r _ [9, 4, 10, 33, 34, 35, 36, 37, 38, 39, 40, 41, 42, 43, 44, 45, 46, 47, 48, 49, 50, 51] (by decide +kernel) (by decide +kernel)
set_option maxRecDepth 20000 in
theorem gX4_readText_X4_fails : GoodIn wsX4_readText (wsV RX4 109 RX4 yX4_fails wsX4_fails) := goodIn_app (goodIn_of _ (by decide +kernel)) ggX4_readText_X4_fails
set_option maxRecDepth 20000 in
theorem ggX4_readText_X4_readByte : GoodIn wsX4_readText wsX4_readByte := goodIn_r _ [14, 15, 16, 1, 2, 17, 18, 8, 19, 20, 21, 22, 23, 24, 25, 26, 27, 28, 5, 6, 7, 9, 4, 10, 29, 30, 31, 32, 33, 34, 35, 36, 37, 38, 39, 40, 41, 42, 43, 44, 45, 46, 47, 48, 49, 50, 51] (by decide +kernel) (by decide +kernel)
set_option maxRecDepth 20000 in
theorem gX4_readText_X4_readByte : GoodIn wsX4_readText (wsV RX4 129 RX4 yX4_readByte wsX4_readByte) := goodIn_app (goodIn_of _ (by decide +kernel)) ggX4_readText_X4_readByte
set_option maxRecDepth 20000 in
theorem ggX4_readText_X4_hasWord : GoodIn wsX4_readText wsX4_hasWord := goodIn_r _ [32, 1, 28, 2, 33, 34, 35, 36, 37, 38, 39, 40, 41, 42, 43, 44, 45, 46, 47, 48, 49, 50, 51] (by decide +kernel) (by decide +kernel)
set_option maxRecDepth 20000 in
theorem gX4_readText_X4_hasWord : GoodIn wsX4_readText (wsV RX4 122 RX4 yX4_hasWord wsX4_hasWord) := goodIn_app (goodIn_of _ (by decide +kernel)) ggX4_readText_X4_hasWord
theorem dX4_readText_0 : decode cX4_readText 0 = .ok (.aload_n 0, 1) := by decide +kernel
theorem dX4_readText_1 : decode cX4_readText 1 = .ok (.iconst 0, 1) := by decide +kernel
theorem dX4_readText_2 : decode cX4_readText 2 = .ok (.putfield 106, 3) := by decide +kernel
theorem dX4_readText_5 : decode cX4_readText 5 = .ok (.aload_n 0, 1) := by decide +kernel
theorem dX4_readText_6 : decode cX4_readText 6 = .ok (.iconst 0, 1) := by decide +kernel
theorem dX4_readText_7 : decode cX4_readText 7 = .ok (.putfield 113, 3) := by decide +kernel
theorem dX4_readText_10 : decode cX4_readText 10 = .ok (.aload_n 0, 1) := by decide +kernel
theorem dX4_readText_11 : decode cX4_readText 11 = .ok (.bipush (-9), 2) := by decide +kernel
theorem dX4_readText_13 : decode cX4_readText 13 = .ok (.bipush (-9), 2) := by decide +kernel
theorem dX4_readText_15 : decode cX4_readText 15 = .ok (.invokevirtual 109, 3) := by decide +kernel
theorem dX4_readText_18 : decode cX4_readText 18 = .ok (.iconst 0, 1) := by decide +kernel
theorem dX4_readText_19 : decode cX4_readText 19 = .ok (.istore_n 1, 1) := by decide +kernel
theorem dX4_readText_20 : decode cX4_readText 20 = .ok (.iload_n 1, 1) := by decide +kernel
theorem dX4_readText_21 : decode cX4_readText 21 = .ok (.aload_n 0, 1) := by decide +kernel
theorem dX4_readText_22 : decode cX4_readText 22 = .ok (.getfield 126, 3) := by decide +kernel
theorem dX4_readText_25 : decode cX4_readText 25 = .ok (.if_icmp .ge 23, 3) := by decide +kernel
theorem dX4_readText_28 : decode cX4_readText 28 = .ok (.aload_n 0, 1) := by decide +kernel
theorem dX4_readText_29 : decode cX4_readText 29 = .ok (.getfield 100, 3) := by decide +kernel
theorem dX4_readText_32 : decode cX4_readText 32 = .ok (.bipush (-9), 2) := by decide +kernel
theorem dX4_readText_34 : decode cX4_readText 34 = .ok (.if_icmp .ne 14, 3) := by decide +kernel
theorem dX4_readText_37 : decode cX4_readText 37 = .ok (.aload_n 0, 1) := by decide +kernel
theorem dX4_readText_38 : decode cX4_readText 38 = .ok (.iload_n 1, 1) := by decide +kernel
theorem dX4_readText_39 : decode cX4_readText 39 = .ok (.invokevirtual 129, 3) := by decide +kernel
theorem dX4_readText_42 : decode cX4_readText 42 = .ok (.iinc 1 1, 3) := by decide +kernel
theorem dX4_readText_45 : decode cX4_readText 45 = .ok (.goto (-25), 3) := by decide +kernel
theorem dX4_readText_48 : decode cX4_readText 48 = .ok (.aload_n 0, 1) := by decide +kernel
theorem dX4_readText_49 : decode cX4_readText 49 = .ok (.getfield 100, 3) := by decide +kernel
theorem dX4_readText_52 : decode cX4_readText 52 = .ok (.bipush (-9), 2) := by decide +kernel
theorem dX4_readText_54 : decode cX4_readText 54 = .ok (.if_icmp .ne 19, 3) := by decide +kernel
theorem dX4_readText_57 : decode cX4_readText 57 = .ok (.aload_n 0, 1) := by decide +kernel
theorem dX4_readText_58 : decode cX4_readText 58 = .ok (.invokevirtual 122, 3) := by decide +kernel
theorem dX4_readText_61 : decode cX4_readText 61 = .ok (.ifCond .ne 12, 3) := by decide +kernel
theorem dX4_readText_64 : decode cX4_readText 64 = .ok (.aload_n 0, 1) := by decide +kernel
theorem dX4_readText_65 : decode cX4_readText 65 = .ok (.iconst 5, 1) := by decide +kernel
theorem dX4_readText_66 : decode cX4_readText 66 = .ok (.aload_n 0, 1) := by decide +kernel
theorem dX4_readText_67 : decode cX4_readText 67 = .ok (.getfield 126, 3) := by decide +kernel
theorem dX4_readText_70 : decode cX4_readText 70 = .ok (.invokevirtual 109, 3) := by decide +kernel
theorem dX4_readText_73 : decode cX4_readText 73 = .ok (.return_, 1) := by decide +kernel
set_option maxRecDepth 20000 in
theorem ggX4_load_X4_readText : GoodIn wsX4_load wsX4_readText := goodIn_r _ [14, 6, 15, 16, 1, 17, 18, 19, 13, 20, 3, 21, 22, 23, 24, 25, 8, 26, 27, 28, 29, 30, 31, 32, 33, 34, 35, 7, 9, 36, 37, 38, 39, 52, 53, 54, 55, 56, 57, 58, 59, 60, 61, 62, 63, 64, 65, 66, 67, 68, 69, 70] (by decide +kernel) (by decide +kernel)
set_option maxRecDepth 20000 in
theorem gX4_load_X4_readText : GoodIn wsX4_load (wsV RX4 132 RX4 yX4_readText wsX4_readText) := goodIn_app (goodIn_of _ (by decide +kernel)) ggX4_load_X4_readText
set_option maxRecDepth 20000 in
theorem ggX4_load_X4_remember : GoodIn wsX4_load wsX4_remember := goodIn_r _ [43, 44, 45, 5, 52, 53, 54, 55, 56, 57, 58, 59, 60, 61, 62, 63, 64, 65, 66, 67, 68, 69, 70] (by decide +kernel) (by decide +kernel)
set_option maxRecDepth 20000 in
theorem gX4_load_X4_remember : GoodIn wsX4_load (wsV RX4 135 RX4 yX4_remember wsX4_remember) := goodIn_app (goodIn_of _ (by decide +kernel)) ggX4_load_X4_remember
set_option maxRecDepth 20000 in
theorem ggX4_load_X4_layRows : GoodIn wsX4_load wsX4_layRows := goodIn_r _ [49, 50, 5, 51, 52, 53, 54, 55, 56, 57, 58, 59, 60, 61, 62, 63, 64, 65, 66, 67, 68, 69, 70] (by decide +kernel) (by decide +kernel)
set_option maxRecDepth 20000 in
theorem gX4_load_X4_layRows : GoodIn wsX4_load (wsV RX4 44 RX4 yX4_layRows wsX4_layRows) := goodIn_app (goodIn_of _ (by decide +kernel)) ggX4_load_X4_layRows
theorem dX4_load_0 : decode cX4_load 0 = .ok (.aload_n 0, 1) := by decide +kernel
theorem dX4_load_1 : decode cX4_load 1 = .ok (.invokevirtual 132, 3) := by decide +kernel
theorem dX4_load_4 : decode cX4_load 4 = .ok (.aload_n 0, 1) := by decide +kernel
theorem dX4_load_5 : decode cX4_load 5 = .ok (.getfield 100, 3) := by decide +kernel
theorem dX4_load_8 : decode cX4_load 8 = .ok (.bipush (-9), 2) := by decide +kernel
theorem dX4_load_10 : decode cX4_load 10 = .ok (.if_icmp .eq 22, 3) := by decide +kernel
theorem dX4_load_13 : decode cX4_load 13 = .ok (.aload_n 0, 1) := by decide +kernel
theorem dX4_load_14 : decode cX4_load 14 = .ok (.aload_n 0, 1) := by decide +kernel
theorem dX4_load_15 : decode cX4_load 15 = .ok (.getfield 100, 3) := by decide +kernel
theorem dX4_load_18 : decode cX4_load 18 = .ok (.putfield 22, 3) := by decide +kernel
theorem dX4_load_21 : decode cX4_load 21 = .ok (.aload_n 0, 1) := by decide +kernel
theorem dX4_load_22 : decode cX4_load 22 = .ok (.aload_n 0, 1) := by decide +kernel
theorem dX4_load_23 : decode cX4_load 23 = .ok (.getfield 103, 3) := by decide +kernel
theorem dX4_load_26 : decode cX4_load 26 = .ok (.putfield 26, 3) := by decide +kernel
theorem dX4_load_29 : decode cX4_load 29 = .ok (.bipush (-2), 2) := by decide +kernel
theorem dX4_load_31 : decode cX4_load 31 = .ok (.ireturn, 1) := by decide +kernel
theorem dX4_load_32 : decode cX4_load 32 = .ok (.aload_n 0, 1) := by decide +kernel
theorem dX4_load_33 : decode cX4_load 33 = .ok (.invokevirtual 135, 3) := by decide +kernel
theorem dX4_load_36 : decode cX4_load 36 = .ok (.bipush 10, 2) := by decide +kernel
theorem dX4_load_38 : decode cX4_load 38 = .ok (.istore_n 1, 1) := by decide +kernel
theorem dX4_load_39 : decode cX4_load 39 = .ok (.iload_n 1, 1) := by decide +kernel
theorem dX4_load_40 : decode cX4_load 40 = .ok (.sipush 510, 3) := by decide +kernel
theorem dX4_load_43 : decode cX4_load 43 = .ok (.if_icmp .ge 16, 3) := by decide +kernel
theorem dX4_load_46 : decode cX4_load 46 = .ok (.aload_n 0, 1) := by decide +kernel
theorem dX4_load_47 : decode cX4_load 47 = .ok (.getfield 7, 3) := by decide +kernel
theorem dX4_load_50 : decode cX4_load 50 = .ok (.iload_n 1, 1) := by decide +kernel
theorem dX4_load_51 : decode cX4_load 51 = .ok (.iconst 0, 1) := by decide +kernel
theorem dX4_load_52 : decode cX4_load 52 = .ok (.iastore, 1) := by decide +kernel
theorem dX4_load_53 : decode cX4_load 53 = .ok (.iinc 1 1, 3) := by decide +kernel
theorem dX4_load_56 : decode cX4_load 56 = .ok (.goto (-17), 3) := by decide +kernel
theorem dX4_load_59 : decode cX4_load 59 = .ok (.aload_n 0, 1) := by decide +kernel
theorem dX4_load_60 : decode cX4_load 60 = .ok (.getfield 7, 3) := by decide +kernel
theorem dX4_load_63 : decode cX4_load 63 = .ok (.bipush 9, 2) := by decide +kernel
theorem dX4_load_65 : decode cX4_load 65 = .ok (.aload_n 0, 1) := by decide +kernel
theorem dX4_load_66 : decode cX4_load 66 = .ok (.getfield 106, 3) := by decide +kernel
theorem dX4_load_69 : decode cX4_load 69 = .ok (.iastore, 1) := by decide +kernel
theorem dX4_load_70 : decode cX4_load 70 = .ok (.iconst 0, 1) := by decide +kernel
theorem dX4_load_71 : decode cX4_load 71 = .ok (.istore_n 1, 1) := by decide +kernel
theorem dX4_load_72 : decode cX4_load 72 = .ok (.iload_n 1, 1) := by decide +kernel
theorem dX4_load_73 : decode cX4_load 73 = .ok (.aload_n 0, 1) := by decide +kernel
theorem dX4_load_74 : decode cX4_load 74 = .ok (.getfield 106, 3) := by decide +kernel
theorem dX4_load_77 : decode cX4_load 77 = .ok (.if_icmp .ge 57, 3) := by decide +kernel
theorem dX4_load_80 : decode cX4_load 80 = .ok (.aload_n 0, 1) := by decide +kernel
theorem dX4_load_81 : decode cX4_load 81 = .ok (.getfield 7, 3) := by decide +kernel
theorem dX4_load_84 : decode cX4_load 84 = .ok (.sipush 150, 3) := by decide +kernel
theorem dX4_load_87 : decode cX4_load 87 = .ok (.iload_n 1, 1) := by decide +kernel
theorem dX4_load_88 : decode cX4_load 88 = .ok (.iadd, 1) := by decide +kernel
theorem dX4_load_89 : decode cX4_load 89 = .ok (.aload_n 0, 1) := by decide +kernel
theorem dX4_load_90 : decode cX4_load 90 = .ok (.getfield 32, 3) := by decide +kernel
theorem dX4_load_93 : decode cX4_load 93 = .ok (.iload_n 1, 1) := by decide +kernel
theorem dX4_load_94 : decode cX4_load 94 = .ok (.iaload, 1) := by decide +kernel
theorem dX4_load_95 : decode cX4_load 95 = .ok (.iastore, 1) := by decide +kernel
theorem dX4_load_96 : decode cX4_load 96 = .ok (.aload_n 0, 1) := by decide +kernel
theorem dX4_load_97 : decode cX4_load 97 = .ok (.getfield 7, 3) := by decide +kernel
theorem dX4_load_100 : decode cX4_load 100 = .ok (.sipush 270, 3) := by decide +kernel
theorem dX4_load_103 : decode cX4_load 103 = .ok (.iload_n 1, 1) := by decide +kernel
theorem dX4_load_104 : decode cX4_load 104 = .ok (.iadd, 1) := by decide +kernel
theorem dX4_load_105 : decode cX4_load 105 = .ok (.aload_n 0, 1) := by decide +kernel
theorem dX4_load_106 : decode cX4_load 106 = .ok (.getfield 35, 3) := by decide +kernel
theorem dX4_load_109 : decode cX4_load 109 = .ok (.iload_n 1, 1) := by decide +kernel
theorem dX4_load_110 : decode cX4_load 110 = .ok (.iaload, 1) := by decide +kernel
theorem dX4_load_111 : decode cX4_load 111 = .ok (.iastore, 1) := by decide +kernel
theorem dX4_load_112 : decode cX4_load 112 = .ok (.aload_n 0, 1) := by decide +kernel
theorem dX4_load_113 : decode cX4_load 113 = .ok (.getfield 7, 3) := by decide +kernel
theorem dX4_load_116 : decode cX4_load 116 = .ok (.sipush 390, 3) := by decide +kernel
theorem dX4_load_119 : decode cX4_load 119 = .ok (.iload_n 1, 1) := by decide +kernel
theorem dX4_load_120 : decode cX4_load 120 = .ok (.iadd, 1) := by decide +kernel
theorem dX4_load_121 : decode cX4_load 121 = .ok (.aload_n 0, 1) := by decide +kernel
theorem dX4_load_122 : decode cX4_load 122 = .ok (.getfield 38, 3) := by decide +kernel
theorem dX4_load_125 : decode cX4_load 125 = .ok (.iload_n 1, 1) := by decide +kernel
theorem dX4_load_126 : decode cX4_load 126 = .ok (.iaload, 1) := by decide +kernel
theorem dX4_load_127 : decode cX4_load 127 = .ok (.iastore, 1) := by decide +kernel
theorem dX4_load_128 : decode cX4_load 128 = .ok (.iinc 1 1, 3) := by decide +kernel
theorem dX4_load_131 : decode cX4_load 131 = .ok (.goto (-59), 3) := by decide +kernel
theorem dX4_load_134 : decode cX4_load 134 = .ok (.aload_n 0, 1) := by decide +kernel
theorem dX4_load_135 : decode cX4_load 135 = .ok (.invokevirtual 44, 3) := by decide +kernel
theorem dX4_load_138 : decode cX4_load 138 = .ok (.aload_n 0, 1) := by decide +kernel
theorem dX4_load_139 : decode cX4_load 139 = .ok (.getfield 106, 3) := by decide +kernel
theorem dX4_load_142 : decode cX4_load 142 = .ok (.ireturn, 1) := by decide +kernel
set_option maxRecDepth 20000 in
theorem ggX4_write_X4_isIn : GoodIn wsX4_write wsX4_isIn := goodIn_r _ [6] (by decide +kernel) (by decide +kernel)
set_option maxRecDepth 20000 in
theorem gX4_write_X4_isIn : GoodIn wsX4_write (va_wsS RX4 57 yX4_isIn wsX4_isIn) := goodIn_app (goodIn_of _ (by decide +kernel)) ggX4_write_X4_isIn
theorem dX4_write_0 : decode cX4_write 0 = .ok (.iload_n 1, 1) := by decide +kernel
theorem dX4_write_1 : decode cX4_write 1 = .ok (.bipush 32, 2) := by decide +kernel
theorem dX4_write_3 : decode cX4_write 3 = .ok (.bipush 126, 2) := by decide +kernel
theorem dX4_write_5 : decode cX4_write 5 = .ok (.invokestatic 57, 3) := by decide +kernel
theorem dX4_write_8 : decode cX4_write 8 = .ok (.ifCond .ne 5, 3) := by decide +kernel
theorem dX4_write_11 : decode cX4_write 11 = .ok (.iconst (-1), 1) := by decide +kernel
theorem dX4_write_12 : decode cX4_write 12 = .ok (.ireturn, 1) := by decide +kernel
theorem dX4_write_13 : decode cX4_write 13 = .ok (.aload_n 0, 1) := by decide +kernel
theorem dX4_write_14 : decode cX4_write 14 = .ok (.getfield 126, 3) := by decide +kernel
theorem dX4_write_17 : decode cX4_write 17 = .ok (.sipush 140, 3) := by decide +kernel
theorem dX4_write_20 : decode cX4_write 20 = .ok (.if_icmp .ne 6, 3) := by decide +kernel
theorem dX4_write_23 : decode cX4_write 23 = .ok (.bipush (-3), 2) := by decide +kernel
theorem dX4_write_25 : decode cX4_write 25 = .ok (.ireturn, 1) := by decide +kernel
theorem dX4_write_26 : decode cX4_write 26 = .ok (.aload_n 0, 1) := by decide +kernel
theorem dX4_write_27 : decode cX4_write 27 = .ok (.getfield 19, 3) := by decide +kernel
theorem dX4_write_30 : decode cX4_write 30 = .ok (.aload_n 0, 1) := by decide +kernel
theorem dX4_write_31 : decode cX4_write 31 = .ok (.getfield 126, 3) := by decide +kernel
theorem dX4_write_34 : decode cX4_write 34 = .ok (.iload_n 1, 1) := by decide +kernel
theorem dX4_write_35 : decode cX4_write 35 = .ok (.iastore, 1) := by decide +kernel
theorem dX4_write_36 : decode cX4_write 36 = .ok (.aload_n 0, 1) := by decide +kernel
theorem dX4_write_37 : decode cX4_write 37 = .ok (.dup, 1) := by decide +kernel
theorem dX4_write_38 : decode cX4_write 38 = .ok (.getfield 126, 3) := by decide +kernel
theorem dX4_write_41 : decode cX4_write 41 = .ok (.iconst 1, 1) := by decide +kernel
theorem dX4_write_42 : decode cX4_write 42 = .ok (.iadd, 1) := by decide +kernel
theorem dX4_write_43 : decode cX4_write 43 = .ok (.putfield 126, 3) := by decide +kernel
theorem dX4_write_46 : decode cX4_write 46 = .ok (.aload_n 0, 1) := by decide +kernel
theorem dX4_write_47 : decode cX4_write 47 = .ok (.getfield 126, 3) := by decide +kernel
theorem dX4_write_50 : decode cX4_write 50 = .ok (.ireturn, 1) := by decide +kernel
theorem dX4_wipe_0 : decode cX4_wipe 0 = .ok (.aload_n 0, 1) := by decide +kernel
theorem dX4_wipe_1 : decode cX4_wipe 1 = .ok (.getfield 126, 3) := by decide +kernel
theorem dX4_wipe_4 : decode cX4_wipe 4 = .ok (.istore_n 1, 1) := by decide +kernel
theorem dX4_wipe_5 : decode cX4_wipe 5 = .ok (.aload_n 0, 1) := by decide +kernel
theorem dX4_wipe_6 : decode cX4_wipe 6 = .ok (.iconst 0, 1) := by decide +kernel
theorem dX4_wipe_7 : decode cX4_wipe 7 = .ok (.putfield 126, 3) := by decide +kernel
theorem dX4_wipe_10 : decode cX4_wipe 10 = .ok (.iload_n 1, 1) := by decide +kernel
theorem dX4_wipe_11 : decode cX4_wipe 11 = .ok (.ireturn, 1) := by decide +kernel
theorem dX4_fault_0 : decode cX4_fault 0 = .ok (.iload_n 1, 1) := by decide +kernel
theorem dX4_fault_1 : decode cX4_fault 1 = .ok (.ifCond .ne 10, 3) := by decide +kernel
theorem dX4_fault_4 : decode cX4_fault 4 = .ok (.aload_n 0, 1) := by decide +kernel
theorem dX4_fault_5 : decode cX4_fault 5 = .ok (.getfield 22, 3) := by decide +kernel
theorem dX4_fault_8 : decode cX4_fault 8 = .ok (.goto 16, 3) := by decide +kernel
theorem dX4_fault_11 : decode cX4_fault 11 = .ok (.iload_n 1, 1) := by decide +kernel
theorem dX4_fault_12 : decode cX4_fault 12 = .ok (.iconst 1, 1) := by decide +kernel
theorem dX4_fault_13 : decode cX4_fault 13 = .ok (.if_icmp .ne 10, 3) := by decide +kernel
theorem dX4_fault_16 : decode cX4_fault 16 = .ok (.aload_n 0, 1) := by decide +kernel
theorem dX4_fault_17 : decode cX4_fault 17 = .ok (.getfield 26, 3) := by decide +kernel
theorem dX4_fault_20 : decode cX4_fault 20 = .ok (.goto 4, 3) := by decide +kernel
theorem dX4_fault_23 : decode cX4_fault 23 = .ok (.iconst (-1), 1) := by decide +kernel
theorem dX4_fault_24 : decode cX4_fault 24 = .ok (.ireturn, 1) := by decide +kernel
set_option maxRecDepth 20000 in
theorem ggX4_isOf_X4_isIn : GoodIn wsX4_isOf wsX4_isIn := goodIn_r _ [4] (by decide +kernel) (by decide +kernel)
set_option maxRecDepth 20000 in
theorem gX4_isOf_X4_isIn : GoodIn wsX4_isOf (va_wsS RX4 57 yX4_isIn wsX4_isIn) := goodIn_app (goodIn_of _ (by decide +kernel)) ggX4_isOf_X4_isIn
theorem dX4_isOf_0 : decode cX4_isOf 0 = .ok (.iload_n 0, 1) := by decide +kernel
theorem dX4_isOf_1 : decode cX4_isOf 1 = .ok (.tableswitch 102 0 7 #[47, 55, 63, 71, 79, 87, 79, 94], 47) := by decide +kernel
theorem dX4_isOf_48 : decode cX4_isOf 48 = .ok (.iload_n 1, 1) := by decide +kernel
theorem dX4_isOf_49 : decode cX4_isOf 49 = .ok (.iconst 1, 1) := by decide +kernel
theorem dX4_isOf_50 : decode cX4_isOf 50 = .ok (.bipush 12, 2) := by decide +kernel
theorem dX4_isOf_52 : decode cX4_isOf 52 = .ok (.invokestatic 57, 3) := by decide +kernel
theorem dX4_isOf_55 : decode cX4_isOf 55 = .ok (.ireturn, 1) := by decide +kernel
theorem dX4_isOf_56 : decode cX4_isOf 56 = .ok (.iload_n 1, 1) := by decide +kernel
theorem dX4_isOf_57 : decode cX4_isOf 57 = .ok (.iconst 1, 1) := by decide +kernel
theorem dX4_isOf_58 : decode cX4_isOf 58 = .ok (.bipush 8, 2) := by decide +kernel
theorem dX4_isOf_60 : decode cX4_isOf 60 = .ok (.invokestatic 57, 3) := by decide +kernel
theorem dX4_isOf_63 : decode cX4_isOf 63 = .ok (.ireturn, 1) := by decide +kernel
theorem dX4_isOf_64 : decode cX4_isOf 64 = .ok (.iload_n 1, 1) := by decide +kernel
theorem dX4_isOf_65 : decode cX4_isOf 65 = .ok (.iconst 0, 1) := by decide +kernel
theorem dX4_isOf_66 : decode cX4_isOf 66 = .ok (.bipush 7, 2) := by decide +kernel
theorem dX4_isOf_68 : decode cX4_isOf 68 = .ok (.invokestatic 57, 3) := by decide +kernel
theorem dX4_isOf_71 : decode cX4_isOf 71 = .ok (.ireturn, 1) := by decide +kernel
theorem dX4_isOf_72 : decode cX4_isOf 72 = .ok (.iload_n 1, 1) := by decide +kernel
theorem dX4_isOf_73 : decode cX4_isOf 73 = .ok (.iconst 0, 1) := by decide +kernel
theorem dX4_isOf_74 : decode cX4_isOf 74 = .ok (.bipush 30, 2) := by decide +kernel
theorem dX4_isOf_76 : decode cX4_isOf 76 = .ok (.invokestatic 57, 3) := by decide +kernel
theorem dX4_isOf_79 : decode cX4_isOf 79 = .ok (.ireturn, 1) := by decide +kernel
theorem dX4_isOf_80 : decode cX4_isOf 80 = .ok (.iload_n 1, 1) := by decide +kernel
theorem dX4_isOf_81 : decode cX4_isOf 81 = .ok (.iconst 1, 1) := by decide +kernel
theorem dX4_isOf_82 : decode cX4_isOf 82 = .ok (.bipush 60, 2) := by decide +kernel
theorem dX4_isOf_84 : decode cX4_isOf 84 = .ok (.invokestatic 57, 3) := by decide +kernel
theorem dX4_isOf_87 : decode cX4_isOf 87 = .ok (.ireturn, 1) := by decide +kernel
theorem dX4_isOf_88 : decode cX4_isOf 88 = .ok (.iload_n 1, 1) := by decide +kernel
theorem dX4_isOf_89 : decode cX4_isOf 89 = .ok (.iconst 1, 1) := by decide +kernel
theorem dX4_isOf_90 : decode cX4_isOf 90 = .ok (.iconst 4, 1) := by decide +kernel
theorem dX4_isOf_91 : decode cX4_isOf 91 = .ok (.invokestatic 57, 3) := by decide +kernel
theorem dX4_isOf_94 : decode cX4_isOf 94 = .ok (.ireturn, 1) := by decide +kernel
theorem dX4_isOf_95 : decode cX4_isOf 95 = .ok (.iload_n 1, 1) := by decide +kernel
theorem dX4_isOf_96 : decode cX4_isOf 96 = .ok (.iconst 1, 1) := by decide +kernel
theorem dX4_isOf_97 : decode cX4_isOf 97 = .ok (.bipush 100, 2) := by decide +kernel
theorem dX4_isOf_99 : decode cX4_isOf 99 = .ok (.invokestatic 57, 3) := by decide +kernel
theorem dX4_isOf_102 : decode cX4_isOf 102 = .ok (.ireturn, 1) := by decide +kernel
theorem dX4_isOf_103 : decode cX4_isOf 103 = .ok (.iload_n 0, 1) := by decide +kernel
theorem dX4_isOf_104 : decode cX4_isOf 104 = .ok (.bipush 8, 2) := by decide +kernel
theorem dX4_isOf_106 : decode cX4_isOf 106 = .ok (.if_icmp .ne 17, 3) := by decide +kernel
theorem dX4_isOf_109 : decode cX4_isOf 109 = .ok (.iload_n 1, 1) := by decide +kernel
theorem dX4_isOf_110 : decode cX4_isOf 110 = .ok (.iconst 0, 1) := by decide +kernel
theorem dX4_isOf_111 : decode cX4_isOf 111 = .ok (.bipush 10, 2) := by decide +kernel
theorem dX4_isOf_113 : decode cX4_isOf 113 = .ok (.invokestatic 57, 3) := by decide +kernel
theorem dX4_isOf_116 : decode cX4_isOf 116 = .ok (.ifCond .eq 7, 3) := by decide +kernel
theorem dX4_isOf_119 : decode cX4_isOf 119 = .ok (.iconst 1, 1) := by decide +kernel
theorem dX4_isOf_120 : decode cX4_isOf 120 = .ok (.goto 4, 3) := by decide +kernel
theorem dX4_isOf_123 : decode cX4_isOf 123 = .ok (.iconst 0, 1) := by decide +kernel
theorem dX4_isOf_124 : decode cX4_isOf 124 = .ok (.ireturn, 1) := by decide +kernel
set_option maxRecDepth 20000 in
theorem ggX4_set_X4_isOf : GoodIn wsX4_set wsX4_isOf := goodIn_r _ [5, 6, 7, 4, 8] (by decide +kernel) (by decide +kernel)
set_option maxRecDepth 20000 in
theorem gX4_set_X4_isOf : GoodIn wsX4_set (va_wsS RX4 138 yX4_isOf wsX4_isOf) := goodIn_app (goodIn_of _ (by decide +kernel)) ggX4_set_X4_isOf
set_option maxRecDepth 20000 in
theorem ggX4_set_X4_remember : GoodIn wsX4_set wsX4_remember := goodIn_r _ [12, 13, 14, 1, 29, 30, 31, 32, 33, 34, 35, 36, 37, 38, 39, 40, 41, 42, 43, 44, 45, 46, 47] (by decide +kernel) (by decide +kernel)
set_option maxRecDepth 20000 in
theorem gX4_set_X4_remember : GoodIn wsX4_set (wsV RX4 135 RX4 yX4_remember wsX4_remember) := goodIn_app (goodIn_of _ (by decide +kernel)) ggX4_set_X4_remember
set_option maxRecDepth 20000 in
theorem ggX4_set_X4_layRows : GoodIn wsX4_set wsX4_layRows := goodIn_r _ [18, 19, 1, 20, 29, 30, 31, 32, 33, 34, 35, 36, 37, 38, 39, 40, 41, 42, 43, 44, 45, 46, 47] (by decide +kernel) (by decide +kernel)
set_option maxRecDepth 20000 in
theorem gX4_set_X4_layRows : GoodIn wsX4_set (wsV RX4 44 RX4 yX4_layRows wsX4_layRows) := goodIn_app (goodIn_of _ (by decide +kernel)) ggX4_set_X4_layRows
set_option maxRecDepth 20000 in
theorem ggX4_set_X4_limited : GoodIn wsX4_set wsX4_limited := goodIn_r _ [24, 25, 26, 27, 4, 28, 19, 1, 29, 30, 31, 32, 33, 34, 35, 36, 37, 38, 39, 40, 41, 42, 43, 44, 45, 46, 47] (by decide +kernel) (by decide +kernel)
set_option maxRecDepth 20000 in
theorem gX4_set_X4_limited : GoodIn wsX4_set (wsV RX4 91 RX4 yX4_limited wsX4_limited) := goodIn_app (goodIn_of _ (by decide +kernel)) ggX4_set_X4_limited
theorem dX4_set_0 : decode cX4_set 0 = .ok (.iload_n 1, 1) := by decide +kernel
theorem dX4_set_1 : decode cX4_set 1 = .ok (.iload_n 2, 1) := by decide +kernel
theorem dX4_set_2 : decode cX4_set 2 = .ok (.invokestatic 138, 3) := by decide +kernel
theorem dX4_set_5 : decode cX4_set 5 = .ok (.ifCond .ne 5, 3) := by decide +kernel
theorem dX4_set_8 : decode cX4_set 8 = .ok (.iconst (-1), 1) := by decide +kernel
theorem dX4_set_9 : decode cX4_set 9 = .ok (.ireturn, 1) := by decide +kernel
theorem dX4_set_10 : decode cX4_set 10 = .ok (.aload_n 0, 1) := by decide +kernel
theorem dX4_set_11 : decode cX4_set 11 = .ok (.invokevirtual 135, 3) := by decide +kernel
theorem dX4_set_14 : decode cX4_set 14 = .ok (.aload_n 0, 1) := by decide +kernel
theorem dX4_set_15 : decode cX4_set 15 = .ok (.getfield 7, 3) := by decide +kernel
theorem dX4_set_18 : decode cX4_set 18 = .ok (.iload_n 1, 1) := by decide +kernel
theorem dX4_set_19 : decode cX4_set 19 = .ok (.iaload, 1) := by decide +kernel
theorem dX4_set_20 : decode cX4_set 20 = .ok (.istore_n 3, 1) := by decide +kernel
theorem dX4_set_21 : decode cX4_set 21 = .ok (.aload_n 0, 1) := by decide +kernel
theorem dX4_set_22 : decode cX4_set 22 = .ok (.getfield 7, 3) := by decide +kernel
theorem dX4_set_25 : decode cX4_set 25 = .ok (.iload_n 1, 1) := by decide +kernel
theorem dX4_set_26 : decode cX4_set 26 = .ok (.iload_n 2, 1) := by decide +kernel
theorem dX4_set_27 : decode cX4_set 27 = .ok (.iastore, 1) := by decide +kernel
theorem dX4_set_28 : decode cX4_set 28 = .ok (.aload_n 0, 1) := by decide +kernel
theorem dX4_set_29 : decode cX4_set 29 = .ok (.invokevirtual 44, 3) := by decide +kernel
theorem dX4_set_32 : decode cX4_set 32 = .ok (.aload_n 0, 1) := by decide +kernel
theorem dX4_set_33 : decode cX4_set 33 = .ok (.getfield 7, 3) := by decide +kernel
theorem dX4_set_36 : decode cX4_set 36 = .ok (.bipush 14, 2) := by decide +kernel
theorem dX4_set_38 : decode cX4_set 38 = .ok (.aload_n 0, 1) := by decide +kernel
theorem dX4_set_39 : decode cX4_set 39 = .ok (.aload_n 0, 1) := by decide +kernel
theorem dX4_set_40 : decode cX4_set 40 = .ok (.getfield 7, 3) := by decide +kernel
theorem dX4_set_43 : decode cX4_set 43 = .ok (.bipush 14, 2) := by decide +kernel
theorem dX4_set_45 : decode cX4_set 45 = .ok (.iaload, 1) := by decide +kernel
theorem dX4_set_46 : decode cX4_set 46 = .ok (.invokevirtual 91, 3) := by decide +kernel
theorem dX4_set_49 : decode cX4_set 49 = .ok (.iastore, 1) := by decide +kernel
theorem dX4_set_50 : decode cX4_set 50 = .ok (.iload_n 3, 1) := by decide +kernel
theorem dX4_set_51 : decode cX4_set 51 = .ok (.ireturn, 1) := by decide +kernel
set_option maxRecDepth 20000 in
theorem ggX4_hear_X4_isLetter : GoodIn wsX4_hear wsX4_isLetter := goodIn_r _ [4, 5, 6, 3, 7] (by decide +kernel) (by decide +kernel)
set_option maxRecDepth 20000 in
theorem gX4_hear_X4_isLetter : GoodIn wsX4_hear (va_wsS RX4 116 yX4_isLetter wsX4_isLetter) := goodIn_app (goodIn_of _ (by decide +kernel)) ggX4_hear_X4_isLetter
set_option maxRecDepth 20000 in
theorem ggX4_hear_X4_remember : GoodIn wsX4_hear wsX4_remember := goodIn_r _ [11, 12, 13, 14, 47, 48, 49, 50, 51, 52, 53, 54, 55, 56, 57, 58, 59, 60, 61, 62, 63, 64, 65] (by decide +kernel) (by decide +kernel)
set_option maxRecDepth 20000 in
theorem gX4_hear_X4_remember : GoodIn wsX4_hear (wsV RX4 135 RX4 yX4_remember wsX4_remember) := goodIn_app (goodIn_of _ (by decide +kernel)) ggX4_hear_X4_remember
set_option maxRecDepth 20000 in
theorem ggX4_hear_X4_hearNow : GoodIn wsX4_hear wsX4_hearNow := goodIn_r _ [18, 14, 19, 20, 21, 3, 22, 5, 6, 7, 23, 24, 25, 26, 27, 28, 29, 30, 31, 32, 33, 34, 35, 36, 37, 38, 39, 40, 41, 42, 43, 44, 45, 46, 47, 48, 49, 50, 51, 52, 53, 54, 55, 56, 57, 58, 59, 60, 61, 62, 63, 64, 65] (by decide +kernel) (by decide +kernel)
set_option maxRecDepth 20000 in
theorem gX4_hear_X4_hearNow : GoodIn wsX4_hear (wsV RX4 142 RX4 yX4_hearNow wsX4_hearNow) := goodIn_app (goodIn_of _ (by decide +kernel)) ggX4_hear_X4_hearNow
theorem dX4_hear_0 : decode cX4_hear 0 = .ok (.iload_n 1, 1) := by decide +kernel
theorem dX4_hear_1 : decode cX4_hear 1 = .ok (.invokestatic 116, 3) := by decide +kernel
theorem dX4_hear_4 : decode cX4_hear 4 = .ok (.ifCond .ne 5, 3) := by decide +kernel
theorem dX4_hear_7 : decode cX4_hear 7 = .ok (.iconst (-1), 1) := by decide +kernel
theorem dX4_hear_8 : decode cX4_hear 8 = .ok (.ireturn, 1) := by decide +kernel
theorem dX4_hear_9 : decode cX4_hear 9 = .ok (.aload_n 0, 1) := by decide +kernel
theorem dX4_hear_10 : decode cX4_hear 10 = .ok (.invokevirtual 135, 3) := by decide +kernel
theorem dX4_hear_13 : decode cX4_hear 13 = .ok (.aload_n 0, 1) := by decide +kernel
theorem dX4_hear_14 : decode cX4_hear 14 = .ok (.iload_n 1, 1) := by decide +kernel
theorem dX4_hear_15 : decode cX4_hear 15 = .ok (.invokevirtual 142, 3) := by decide +kernel
theorem dX4_hear_18 : decode cX4_hear 18 = .ok (.ireturn, 1) := by decide +kernel
set_option maxRecDepth 20000 in
theorem ggX4_tick_X4_isIn : GoodIn wsX4_tick wsX4_isIn := goodIn_r _ [5] (by decide +kernel) (by decide +kernel)
set_option maxRecDepth 20000 in
theorem gX4_tick_X4_isIn : GoodIn wsX4_tick (va_wsS RX4 57 yX4_isIn wsX4_isIn) := goodIn_app (goodIn_of _ (by decide +kernel)) ggX4_tick_X4_isIn
set_option maxRecDepth 20000 in
theorem ggX4_tick_X4_remember : GoodIn wsX4_tick wsX4_remember := goodIn_r _ [9, 10, 11, 1, 42, 43, 44, 45, 46, 47, 48, 49, 50, 51, 52, 53, 54, 55, 56, 57, 58, 59, 60] (by decide +kernel) (by decide +kernel)
set_option maxRecDepth 20000 in
theorem gX4_tick_X4_remember : GoodIn wsX4_tick (wsV RX4 135 RX4 yX4_remember wsX4_remember) := goodIn_app (goodIn_of _ (by decide +kernel)) ggX4_tick_X4_remember
set_option maxRecDepth 20000 in
theorem ggX4_tick_X4_tickOnce : GoodIn wsX4_tick wsX4_tickOnce := goodIn_r _ [15, 1, 16, 17, 18, 19, 4, 20, 21, 22, 23, 24, 25, 26, 27, 28, 29, 30, 31, 32, 33, 34, 35, 36, 37, 38, 39, 40, 41, 42, 43, 44, 45, 46, 47, 48, 49, 50, 51, 52, 53, 54, 55, 56, 57, 58, 59, 60] (by decide +kernel) (by decide +kernel)
set_option maxRecDepth 20000 in
theorem gX4_tick_X4_tickOnce : GoodIn wsX4_tick (wsV RX4 145 RX4 yX4_tickOnce wsX4_tickOnce) := goodIn_app (goodIn_of _ (by decide +kernel)) ggX4_tick_X4_tickOnce
theorem dX4_tick_0 : decode cX4_tick 0 = .ok (.iload_n 1, 1) := by decide +kernel
theorem dX4_tick_1 : decode cX4_tick 1 = .ok (.iconst 1, 1) := by decide +kernel
theorem dX4_tick_2 : decode cX4_tick 2 = .ok (.bipush 100, 2) := by decide +kernel
theorem dX4_tick_4 : decode cX4_tick 4 = .ok (.invokestatic 57, 3) := by decide +kernel
theorem dX4_tick_7 : decode cX4_tick 7 = .ok (.ifCond .ne 5, 3) := by decide +kernel
theorem dX4_tick_10 : decode cX4_tick 10 = .ok (.iconst (-1), 1) := by decide +kernel
theorem dX4_tick_11 : decode cX4_tick 11 = .ok (.ireturn, 1) := by decide +kernel
theorem dX4_tick_12 : decode cX4_tick 12 = .ok (.aload_n 0, 1) := by decide +kernel
theorem dX4_tick_13 : decode cX4_tick 13 = .ok (.invokevirtual 135, 3) := by decide +kernel
theorem dX4_tick_16 : decode cX4_tick 16 = .ok (.aload_n 0, 1) := by decide +kernel
theorem dX4_tick_17 : decode cX4_tick 17 = .ok (.getfield 7, 3) := by decide +kernel
theorem dX4_tick_20 : decode cX4_tick 20 = .ok (.bipush 18, 2) := by decide +kernel
theorem dX4_tick_22 : decode cX4_tick 22 = .ok (.iaload, 1) := by decide +kernel
theorem dX4_tick_23 : decode cX4_tick 23 = .ok (.istore_n 2, 1) := by decide +kernel
theorem dX4_tick_24 : decode cX4_tick 24 = .ok (.iconst 0, 1) := by decide +kernel
theorem dX4_tick_25 : decode cX4_tick 25 = .ok (.istore_n 3, 1) := by decide +kernel
theorem dX4_tick_26 : decode cX4_tick 26 = .ok (.iload_n 3, 1) := by decide +kernel
theorem dX4_tick_27 : decode cX4_tick 27 = .ok (.iload_n 1, 1) := by decide +kernel
theorem dX4_tick_28 : decode cX4_tick 28 = .ok (.if_icmp .ge 13, 3) := by decide +kernel
theorem dX4_tick_31 : decode cX4_tick 31 = .ok (.aload_n 0, 1) := by decide +kernel
theorem dX4_tick_32 : decode cX4_tick 32 = .ok (.invokevirtual 145, 3) := by decide +kernel
theorem dX4_tick_35 : decode cX4_tick 35 = .ok (.iinc 3 1, 3) := by decide +kernel
theorem dX4_tick_38 : decode cX4_tick 38 = .ok (.goto (-12), 3) := by decide +kernel
theorem dX4_tick_41 : decode cX4_tick 41 = .ok (.aload_n 0, 1) := by decide +kernel
theorem dX4_tick_42 : decode cX4_tick 42 = .ok (.getfield 7, 3) := by decide +kernel
theorem dX4_tick_45 : decode cX4_tick 45 = .ok (.bipush 18, 2) := by decide +kernel
theorem dX4_tick_47 : decode cX4_tick 47 = .ok (.iaload, 1) := by decide +kernel
theorem dX4_tick_48 : decode cX4_tick 48 = .ok (.iload_n 2, 1) := by decide +kernel
theorem dX4_tick_49 : decode cX4_tick 49 = .ok (.isub, 1) := by decide +kernel
theorem dX4_tick_50 : decode cX4_tick 50 = .ok (.ireturn, 1) := by decide +kernel
set_option maxRecDepth 20000 in
theorem ggX4_release_X4_nextCue : GoodIn wsX4_release wsX4_nextCue := goodIn_r _ [5, 6, 17, 18, 19, 20, 21, 22, 23, 24, 25, 26, 27, 28, 29, 30, 31, 32, 33, 34, 35] (by decide +kernel) (by decide +kernel)
set_option maxRecDepth 20000 in
theorem gX4_release_X4_nextCue : GoodIn wsX4_release (wsV RX4 85 RX4 yX4_nextCue wsX4_nextCue) := goodIn_app (goodIn_of _ (by decide +kernel)) ggX4_release_X4_nextCue
set_option maxRecDepth 20000 in
theorem ggX4_release_X4_remember : GoodIn wsX4_release wsX4_remember := goodIn_r _ [10, 11, 12, 6, 17, 18, 19, 20, 21, 22, 23, 24, 25, 26, 27, 28, 29, 30, 31, 32, 33, 34, 35] (by decide +kernel) (by decide +kernel)
set_option maxRecDepth 20000 in
theorem gX4_release_X4_remember : GoodIn wsX4_release (wsV RX4 135 RX4 yX4_remember wsX4_remember) := goodIn_app (goodIn_of _ (by decide +kernel)) ggX4_release_X4_remember
set_option maxRecDepth 20000 in
theorem ggX4_release_X4_releaseNext : GoodIn wsX4_release wsX4_releaseNext := goodIn_r _ [16, 6, 1, 2, 3, 4, 5, 17, 18, 19, 20, 21, 22, 23, 24, 25, 26, 27, 28, 29, 30, 31, 32, 33, 34, 35] (by decide +kernel) (by decide +kernel)
set_option maxRecDepth 20000 in
theorem gX4_release_X4_releaseNext : GoodIn wsX4_release (wsV RX4 148 RX4 yX4_releaseNext wsX4_releaseNext) := goodIn_app (goodIn_of _ (by decide +kernel)) ggX4_release_X4_releaseNext
theorem dX4_release_0 : decode cX4_release 0 = .ok (.aload_n 0, 1) := by decide +kernel
theorem dX4_release_1 : decode cX4_release 1 = .ok (.invokevirtual 85, 3) := by decide +kernel
theorem dX4_release_4 : decode cX4_release 4 = .ok (.bipush (-9), 2) := by decide +kernel
theorem dX4_release_6 : decode cX4_release 6 = .ok (.if_icmp .ne 6, 3) := by decide +kernel
theorem dX4_release_9 : decode cX4_release 9 = .ok (.bipush (-2), 2) := by decide +kernel
theorem dX4_release_11 : decode cX4_release 11 = .ok (.ireturn, 1) := by decide +kernel
theorem dX4_release_12 : decode cX4_release 12 = .ok (.aload_n 0, 1) := by decide +kernel
theorem dX4_release_13 : decode cX4_release 13 = .ok (.invokevirtual 135, 3) := by decide +kernel
theorem dX4_release_16 : decode cX4_release 16 = .ok (.aload_n 0, 1) := by decide +kernel
theorem dX4_release_17 : decode cX4_release 17 = .ok (.invokevirtual 148, 3) := by decide +kernel
theorem dX4_release_20 : decode cX4_release 20 = .ok (.ireturn, 1) := by decide +kernel
set_option maxRecDepth 20000 in
theorem ggX4_place_X4_isWord : GoodIn wsX4_place wsX4_isWord := goodIn_r _ [6, 1, 7, 8, 5, 9, 16, 17, 18, 19, 20, 21, 22, 23, 24, 25, 26, 27, 28, 29, 30, 31, 32, 33, 34] (by decide +kernel) (by decide +kernel)
set_option maxRecDepth 20000 in
theorem gX4_place_X4_isWord : GoodIn wsX4_place (wsV RX4 151 RX4 yX4_isWord wsX4_isWord) := goodIn_app (goodIn_of _ (by decide +kernel)) ggX4_place_X4_isWord
set_option maxRecDepth 20000 in
theorem ggX4_place_X4_remember : GoodIn wsX4_place wsX4_remember := goodIn_r _ [13, 14, 15, 1, 16, 17, 18, 19, 20, 21, 22, 23, 24, 25, 26, 27, 28, 29, 30, 31, 32, 33, 34] (by decide +kernel) (by decide +kernel)
set_option maxRecDepth 20000 in
theorem gX4_place_X4_remember : GoodIn wsX4_place (wsV RX4 135 RX4 yX4_remember wsX4_remember) := goodIn_app (goodIn_of _ (by decide +kernel)) ggX4_place_X4_remember
theorem dX4_place_0 : decode cX4_place 0 = .ok (.aload_n 0, 1) := by decide +kernel
theorem dX4_place_1 : decode cX4_place 1 = .ok (.iload_n 1, 1) := by decide +kernel
theorem dX4_place_2 : decode cX4_place 2 = .ok (.invokevirtual 151, 3) := by decide +kernel
theorem dX4_place_5 : decode cX4_place 5 = .ok (.ifCond .ne 5, 3) := by decide +kernel
theorem dX4_place_8 : decode cX4_place 8 = .ok (.iconst (-1), 1) := by decide +kernel
theorem dX4_place_9 : decode cX4_place 9 = .ok (.ireturn, 1) := by decide +kernel
theorem dX4_place_10 : decode cX4_place 10 = .ok (.aload_n 0, 1) := by decide +kernel
theorem dX4_place_11 : decode cX4_place 11 = .ok (.invokevirtual 135, 3) := by decide +kernel
theorem dX4_place_14 : decode cX4_place 14 = .ok (.aload_n 0, 1) := by decide +kernel
theorem dX4_place_15 : decode cX4_place 15 = .ok (.getfield 7, 3) := by decide +kernel
theorem dX4_place_18 : decode cX4_place 18 = .ok (.bipush 11, 2) := by decide +kernel
theorem dX4_place_20 : decode cX4_place 20 = .ok (.iaload, 1) := by decide +kernel
theorem dX4_place_21 : decode cX4_place 21 = .ok (.istore_n 2, 1) := by decide +kernel
theorem dX4_place_22 : decode cX4_place 22 = .ok (.aload_n 0, 1) := by decide +kernel
theorem dX4_place_23 : decode cX4_place 23 = .ok (.getfield 7, 3) := by decide +kernel
theorem dX4_place_26 : decode cX4_place 26 = .ok (.bipush 11, 2) := by decide +kernel
theorem dX4_place_28 : decode cX4_place 28 = .ok (.iload_n 1, 1) := by decide +kernel
theorem dX4_place_29 : decode cX4_place 29 = .ok (.iastore, 1) := by decide +kernel
theorem dX4_place_30 : decode cX4_place 30 = .ok (.aload_n 0, 1) := by decide +kernel
theorem dX4_place_31 : decode cX4_place 31 = .ok (.getfield 7, 3) := by decide +kernel
theorem dX4_place_34 : decode cX4_place 34 = .ok (.bipush 20, 2) := by decide +kernel
theorem dX4_place_36 : decode cX4_place 36 = .ok (.iconst 0, 1) := by decide +kernel
theorem dX4_place_37 : decode cX4_place 37 = .ok (.iastore, 1) := by decide +kernel
theorem dX4_place_38 : decode cX4_place 38 = .ok (.aload_n 0, 1) := by decide +kernel
theorem dX4_place_39 : decode cX4_place 39 = .ok (.getfield 7, 3) := by decide +kernel
theorem dX4_place_42 : decode cX4_place 42 = .ok (.bipush 25, 2) := by decide +kernel
theorem dX4_place_44 : decode cX4_place 44 = .ok (.iconst 0, 1) := by decide +kernel
theorem dX4_place_45 : decode cX4_place 45 = .ok (.iastore, 1) := by decide +kernel
theorem dX4_place_46 : decode cX4_place 46 = .ok (.aload_n 0, 1) := by decide +kernel
theorem dX4_place_47 : decode cX4_place 47 = .ok (.getfield 7, 3) := by decide +kernel
theorem dX4_place_50 : decode cX4_place 50 = .ok (.bipush 13, 2) := by decide +kernel
theorem dX4_place_52 : decode cX4_place 52 = .ok (.aload_n 0, 1) := by decide +kernel
theorem dX4_place_53 : decode cX4_place 53 = .ok (.getfield 7, 3) := by decide +kernel
theorem dX4_place_56 : decode cX4_place 56 = .ok (.bipush 10, 2) := by decide +kernel
theorem dX4_place_58 : decode cX4_place 58 = .ok (.iaload, 1) := by decide +kernel
theorem dX4_place_59 : decode cX4_place 59 = .ok (.iastore, 1) := by decide +kernel
theorem dX4_place_60 : decode cX4_place 60 = .ok (.iconst 0, 1) := by decide +kernel
theorem dX4_place_61 : decode cX4_place 61 = .ok (.istore_n 3, 1) := by decide +kernel
theorem dX4_place_62 : decode cX4_place 62 = .ok (.iload_n 3, 1) := by decide +kernel
theorem dX4_place_63 : decode cX4_place 63 = .ok (.aload_n 0, 1) := by decide +kernel
theorem dX4_place_64 : decode cX4_place 64 = .ok (.getfield 7, 3) := by decide +kernel
theorem dX4_place_67 : decode cX4_place 67 = .ok (.bipush 9, 2) := by decide +kernel
theorem dX4_place_69 : decode cX4_place 69 = .ok (.iaload, 1) := by decide +kernel
theorem dX4_place_70 : decode cX4_place 70 = .ok (.if_icmp .ge 46, 3) := by decide +kernel
theorem dX4_place_73 : decode cX4_place 73 = .ok (.aload_n 0, 1) := by decide +kernel
theorem dX4_place_74 : decode cX4_place 74 = .ok (.getfield 7, 3) := by decide +kernel
theorem dX4_place_77 : decode cX4_place 77 = .ok (.sipush 270, 3) := by decide +kernel
theorem dX4_place_80 : decode cX4_place 80 = .ok (.iload_n 3, 1) := by decide +kernel
theorem dX4_place_81 : decode cX4_place 81 = .ok (.iadd, 1) := by decide +kernel
theorem dX4_place_82 : decode cX4_place 82 = .ok (.aload_n 0, 1) := by decide +kernel
theorem dX4_place_83 : decode cX4_place 83 = .ok (.getfield 7, 3) := by decide +kernel
theorem dX4_place_86 : decode cX4_place 86 = .ok (.sipush 270, 3) := by decide +kernel
theorem dX4_place_89 : decode cX4_place 89 = .ok (.iload_n 3, 1) := by decide +kernel
theorem dX4_place_90 : decode cX4_place 90 = .ok (.iadd, 1) := by decide +kernel
theorem dX4_place_91 : decode cX4_place 91 = .ok (.iaload, 1) := by decide +kernel
theorem dX4_place_92 : decode cX4_place 92 = .ok (.ifCond .ne 7, 3) := by decide +kernel
theorem dX4_place_95 : decode cX4_place 95 = .ok (.iconst 0, 1) := by decide +kernel
theorem dX4_place_96 : decode cX4_place 96 = .ok (.goto 13, 3) := by decide +kernel
theorem dX4_place_99 : decode cX4_place 99 = .ok (.iload_n 3, 1) := by decide +kernel
theorem dX4_place_100 : decode cX4_place 100 = .ok (.iload_n 1, 1) := by decide +kernel
theorem dX4_place_101 : decode cX4_place 101 = .ok (.if_icmp .lt 7, 3) := by decide +kernel
theorem dX4_place_104 : decode cX4_place 104 = .ok (.iconst 1, 1) := by decide +kernel
theorem dX4_place_105 : decode cX4_place 105 = .ok (.goto 4, 3) := by decide +kernel
theorem dX4_place_108 : decode cX4_place 108 = .ok (.iconst 3, 1) := by decide +kernel
theorem dX4_place_109 : decode cX4_place 109 = .ok (.iastore, 1) := by decide +kernel
theorem dX4_place_110 : decode cX4_place 110 = .ok (.iinc 3 1, 3) := by decide +kernel
theorem dX4_place_113 : decode cX4_place 113 = .ok (.goto (-51), 3) := by decide +kernel
theorem dX4_place_116 : decode cX4_place 116 = .ok (.iload_n 2, 1) := by decide +kernel
theorem dX4_place_117 : decode cX4_place 117 = .ok (.ireturn, 1) := by decide +kernel
set_option maxRecDepth 20000 in
theorem ggX4_undo_X4_layRows : GoodIn wsX4_undo wsX4_layRows := goodIn_r _ [8, 9, 2, 10, 11, 12, 13, 14, 15, 16, 17, 18, 19, 20, 21, 22, 23, 24, 25, 26, 27, 28, 29] (by decide +kernel) (by decide +kernel)
set_option maxRecDepth 20000 in
theorem gX4_undo_X4_layRows : GoodIn wsX4_undo (wsV RX4 44 RX4 yX4_layRows wsX4_layRows) := goodIn_app (goodIn_of _ (by decide +kernel)) ggX4_undo_X4_layRows
theorem dX4_undo_0 : decode cX4_undo 0 = .ok (.aload_n 0, 1) := by decide +kernel
theorem dX4_undo_1 : decode cX4_undo 1 = .ok (.getfield 47, 3) := by decide +kernel
theorem dX4_undo_4 : decode cX4_undo 4 = .ok (.ifCond .ne 6, 3) := by decide +kernel
theorem dX4_undo_7 : decode cX4_undo 7 = .ok (.bipush (-2), 2) := by decide +kernel
theorem dX4_undo_9 : decode cX4_undo 9 = .ok (.ireturn, 1) := by decide +kernel
theorem dX4_undo_10 : decode cX4_undo 10 = .ok (.aload_n 0, 1) := by decide +kernel
theorem dX4_undo_11 : decode cX4_undo 11 = .ok (.dup, 1) := by decide +kernel
theorem dX4_undo_12 : decode cX4_undo 12 = .ok (.getfield 47, 3) := by decide +kernel
theorem dX4_undo_15 : decode cX4_undo 15 = .ok (.iconst 1, 1) := by decide +kernel
theorem dX4_undo_16 : decode cX4_undo 16 = .ok (.isub, 1) := by decide +kernel
theorem dX4_undo_17 : decode cX4_undo 17 = .ok (.putfield 47, 3) := by decide +kernel
theorem dX4_undo_20 : decode cX4_undo 20 = .ok (.iconst 0, 1) := by decide +kernel
theorem dX4_undo_21 : decode cX4_undo 21 = .ok (.istore_n 1, 1) := by decide +kernel
theorem dX4_undo_22 : decode cX4_undo 22 = .ok (.iload_n 1, 1) := by decide +kernel
theorem dX4_undo_23 : decode cX4_undo 23 = .ok (.sipush 510, 3) := by decide +kernel
theorem dX4_undo_26 : decode cX4_undo 26 = .ok (.if_icmp .ge 30, 3) := by decide +kernel
theorem dX4_undo_29 : decode cX4_undo 29 = .ok (.aload_n 0, 1) := by decide +kernel
theorem dX4_undo_30 : decode cX4_undo 30 = .ok (.getfield 7, 3) := by decide +kernel
theorem dX4_undo_33 : decode cX4_undo 33 = .ok (.iload_n 1, 1) := by decide +kernel
theorem dX4_undo_34 : decode cX4_undo 34 = .ok (.aload_n 0, 1) := by decide +kernel
theorem dX4_undo_35 : decode cX4_undo 35 = .ok (.getfield 13, 3) := by decide +kernel
theorem dX4_undo_38 : decode cX4_undo 38 = .ok (.sipush 510, 3) := by decide +kernel
theorem dX4_undo_41 : decode cX4_undo 41 = .ok (.aload_n 0, 1) := by decide +kernel
theorem dX4_undo_42 : decode cX4_undo 42 = .ok (.getfield 47, 3) := by decide +kernel
theorem dX4_undo_45 : decode cX4_undo 45 = .ok (.imul, 1) := by decide +kernel
theorem dX4_undo_46 : decode cX4_undo 46 = .ok (.iload_n 1, 1) := by decide +kernel
theorem dX4_undo_47 : decode cX4_undo 47 = .ok (.iadd, 1) := by decide +kernel
theorem dX4_undo_48 : decode cX4_undo 48 = .ok (.iaload, 1) := by decide +kernel
theorem dX4_undo_49 : decode cX4_undo 49 = .ok (.iastore, 1) := by decide +kernel
theorem dX4_undo_50 : decode cX4_undo 50 = .ok (.iinc 1 1, 3) := by decide +kernel
theorem dX4_undo_53 : decode cX4_undo 53 = .ok (.goto (-31), 3) := by decide +kernel
theorem dX4_undo_56 : decode cX4_undo 56 = .ok (.aload_n 0, 1) := by decide +kernel
theorem dX4_undo_57 : decode cX4_undo 57 = .ok (.invokevirtual 44, 3) := by decide +kernel
theorem dX4_undo_60 : decode cX4_undo 60 = .ok (.aload_n 0, 1) := by decide +kernel
theorem dX4_undo_61 : decode cX4_undo 61 = .ok (.getfield 47, 3) := by decide +kernel
theorem dX4_undo_64 : decode cX4_undo 64 = .ok (.ireturn, 1) := by decide +kernel
theorem dX4_cues_0 : decode cX4_cues 0 = .ok (.iconst 0, 1) := by decide +kernel
theorem dX4_cues_1 : decode cX4_cues 1 = .ok (.istore_n 1, 1) := by decide +kernel
theorem dX4_cues_2 : decode cX4_cues 2 = .ok (.iconst 0, 1) := by decide +kernel
theorem dX4_cues_3 : decode cX4_cues 3 = .ok (.istore_n 2, 1) := by decide +kernel
theorem dX4_cues_4 : decode cX4_cues 4 = .ok (.iload_n 2, 1) := by decide +kernel
theorem dX4_cues_5 : decode cX4_cues 5 = .ok (.aload_n 0, 1) := by decide +kernel
theorem dX4_cues_6 : decode cX4_cues 6 = .ok (.getfield 7, 3) := by decide +kernel
theorem dX4_cues_9 : decode cX4_cues 9 = .ok (.bipush 9, 2) := by decide +kernel
theorem dX4_cues_11 : decode cX4_cues 11 = .ok (.iaload, 1) := by decide +kernel
theorem dX4_cues_12 : decode cX4_cues 12 = .ok (.if_icmp .ge 30, 3) := by decide +kernel
theorem dX4_cues_15 : decode cX4_cues 15 = .ok (.iload_n 1, 1) := by decide +kernel
theorem dX4_cues_16 : decode cX4_cues 16 = .ok (.aload_n 0, 1) := by decide +kernel
theorem dX4_cues_17 : decode cX4_cues 17 = .ok (.getfield 7, 3) := by decide +kernel
theorem dX4_cues_20 : decode cX4_cues 20 = .ok (.sipush 270, 3) := by decide +kernel
theorem dX4_cues_23 : decode cX4_cues 23 = .ok (.iload_n 2, 1) := by decide +kernel
theorem dX4_cues_24 : decode cX4_cues 24 = .ok (.iadd, 1) := by decide +kernel
theorem dX4_cues_25 : decode cX4_cues 25 = .ok (.iaload, 1) := by decide +kernel
theorem dX4_cues_26 : decode cX4_cues 26 = .ok (.ifCond .eq 7, 3) := by decide +kernel
theorem dX4_cues_29 : decode cX4_cues 29 = .ok (.iconst 1, 1) := by decide +kernel
theorem dX4_cues_30 : decode cX4_cues 30 = .ok (.goto 4, 3) := by decide +kernel
theorem dX4_cues_33 : decode cX4_cues 33 = .ok (.iconst 0, 1) := by decide +kernel
theorem dX4_cues_34 : decode cX4_cues 34 = .ok (.iadd, 1) := by decide +kernel
theorem dX4_cues_35 : decode cX4_cues 35 = .ok (.istore_n 1, 1) := by decide +kernel
theorem dX4_cues_36 : decode cX4_cues 36 = .ok (.iinc 2 1, 3) := by decide +kernel
theorem dX4_cues_39 : decode cX4_cues 39 = .ok (.goto (-35), 3) := by decide +kernel
theorem dX4_cues_42 : decode cX4_cues 42 = .ok (.iload_n 1, 1) := by decide +kernel
theorem dX4_cues_43 : decode cX4_cues 43 = .ok (.ireturn, 1) := by decide +kernel
set_option maxRecDepth 20000 in
theorem ggX4_told_X4_cues : GoodIn wsX4_told wsX4_cues := goodIn_r _ [8, 1, 30, 31, 32, 33, 34, 35, 36, 37, 38, 39, 40, 41, 42, 43, 44, 45, 46, 47, 48] (by decide +kernel) (by decide +kernel)
set_option maxRecDepth 20000 in
theorem gX4_told_X4_cues : GoodIn wsX4_told (wsV RX4 154 RX4 yX4_cues wsX4_cues) := goodIn_app (goodIn_of _ (by decide +kernel)) ggX4_told_X4_cues
set_option maxRecDepth 20000 in
theorem ggX4_told_X4_estimated : GoodIn wsX4_told wsX4_estimated := goodIn_r _ [12, 1, 13, 14, 15, 7, 16, 30, 31, 32, 33, 34, 35, 36, 37, 38, 39, 40, 41, 42, 43, 44, 45, 46, 47, 48] (by decide +kernel) (by decide +kernel)
set_option maxRecDepth 20000 in
theorem gX4_told_X4_estimated : GoodIn wsX4_told (wsV RX4 88 RX4 yX4_estimated wsX4_estimated) := goodIn_app (goodIn_of _ (by decide +kernel)) ggX4_told_X4_estimated
set_option maxRecDepth 20000 in
theorem ggX4_told_X4_desired : GoodIn wsX4_told wsX4_desired := goodIn_r _ [20, 1, 21, 9, 10, 11, 7, 12, 13, 14, 15, 16, 22, 23, 24, 25, 26, 27, 28, 29, 2, 30, 31, 32, 33, 34, 35, 36, 37, 38, 39, 40, 41, 42, 43, 44, 45, 46, 47, 48] (by decide +kernel) (by decide +kernel)
set_option maxRecDepth 20000 in
theorem gX4_told_X4_desired : GoodIn wsX4_told (wsV RX4 94 RX4 yX4_desired wsX4_desired) := goodIn_app (goodIn_of _ (by decide +kernel)) ggX4_told_X4_desired
set_option maxRecDepth 20000 in
theorem ggX4_told_X4_nextCue : GoodIn wsX4_told wsX4_nextCue := goodIn_r _ [16, 1, 30, 31, 32, 33, 34, 35, 36, 37, 38, 39, 40, 41, 42, 43, 44, 45, 46, 47, 48] (by decide +kernel) (by decide +kernel)
set_option maxRecDepth 20000 in
theorem gX4_told_X4_nextCue : GoodIn wsX4_told (wsV RX4 85 RX4 yX4_nextCue wsX4_nextCue) := goodIn_app (goodIn_of _ (by decide +kernel)) ggX4_told_X4_nextCue
theorem dX4_told_0 : decode cX4_told 0 = .ok (.iload_n 1, 1) := by decide +kernel
theorem dX4_told_1 : decode cX4_told 1 = .ok (.tableswitch 211 0 18 #[91, 99, 104, 125, 130, 138, 146, 154, 159, 167, 172, 172, 172, 172, 172, 185, 193, 198, 206], 91) := by decide +kernel
theorem dX4_told_92 : decode cX4_told 92 = .ok (.aload_n 0, 1) := by decide +kernel
theorem dX4_told_93 : decode cX4_told 93 = .ok (.getfield 7, 3) := by decide +kernel
theorem dX4_told_96 : decode cX4_told 96 = .ok (.bipush 9, 2) := by decide +kernel
theorem dX4_told_98 : decode cX4_told 98 = .ok (.iaload, 1) := by decide +kernel
theorem dX4_told_99 : decode cX4_told 99 = .ok (.ireturn, 1) := by decide +kernel
theorem dX4_told_100 : decode cX4_told 100 = .ok (.aload_n 0, 1) := by decide +kernel
theorem dX4_told_101 : decode cX4_told 101 = .ok (.getfield 50, 3) := by decide +kernel
theorem dX4_told_104 : decode cX4_told 104 = .ok (.ireturn, 1) := by decide +kernel
theorem dX4_told_105 : decode cX4_told 105 = .ok (.aload_n 0, 1) := by decide +kernel
theorem dX4_told_106 : decode cX4_told 106 = .ok (.getfield 7, 3) := by decide +kernel
theorem dX4_told_109 : decode cX4_told 109 = .ok (.sipush 390, 3) := by decide +kernel
theorem dX4_told_112 : decode cX4_told 112 = .ok (.aload_n 0, 1) := by decide +kernel
theorem dX4_told_113 : decode cX4_told 113 = .ok (.getfield 7, 3) := by decide +kernel
theorem dX4_told_116 : decode cX4_told 116 = .ok (.bipush 9, 2) := by decide +kernel
theorem dX4_told_118 : decode cX4_told 118 = .ok (.iaload, 1) := by decide +kernel
theorem dX4_told_119 : decode cX4_told 119 = .ok (.iadd, 1) := by decide +kernel
theorem dX4_told_120 : decode cX4_told 120 = .ok (.iconst 1, 1) := by decide +kernel
theorem dX4_told_121 : decode cX4_told 121 = .ok (.isub, 1) := by decide +kernel
theorem dX4_told_122 : decode cX4_told 122 = .ok (.iaload, 1) := by decide +kernel
theorem dX4_told_123 : decode cX4_told 123 = .ok (.iconst 1, 1) := by decide +kernel
theorem dX4_told_124 : decode cX4_told 124 = .ok (.iadd, 1) := by decide +kernel
theorem dX4_told_125 : decode cX4_told 125 = .ok (.ireturn, 1) := by decide +kernel
theorem dX4_told_126 : decode cX4_told 126 = .ok (.aload_n 0, 1) := by decide +kernel
theorem dX4_told_127 : decode cX4_told 127 = .ok (.invokevirtual 154, 3) := by decide +kernel
theorem dX4_told_130 : decode cX4_told 130 = .ok (.ireturn, 1) := by decide +kernel
theorem dX4_told_131 : decode cX4_told 131 = .ok (.aload_n 0, 1) := by decide +kernel
theorem dX4_told_132 : decode cX4_told 132 = .ok (.getfield 7, 3) := by decide +kernel
theorem dX4_told_135 : decode cX4_told 135 = .ok (.bipush 10, 2) := by decide +kernel
theorem dX4_told_137 : decode cX4_told 137 = .ok (.iaload, 1) := by decide +kernel
theorem dX4_told_138 : decode cX4_told 138 = .ok (.ireturn, 1) := by decide +kernel
theorem dX4_told_139 : decode cX4_told 139 = .ok (.aload_n 0, 1) := by decide +kernel
theorem dX4_told_140 : decode cX4_told 140 = .ok (.getfield 7, 3) := by decide +kernel
theorem dX4_told_143 : decode cX4_told 143 = .ok (.bipush 11, 2) := by decide +kernel
theorem dX4_told_145 : decode cX4_told 145 = .ok (.iaload, 1) := by decide +kernel
theorem dX4_told_146 : decode cX4_told 146 = .ok (.ireturn, 1) := by decide +kernel
theorem dX4_told_147 : decode cX4_told 147 = .ok (.aload_n 0, 1) := by decide +kernel
theorem dX4_told_148 : decode cX4_told 148 = .ok (.getfield 7, 3) := by decide +kernel
theorem dX4_told_151 : decode cX4_told 151 = .ok (.bipush 12, 2) := by decide +kernel
theorem dX4_told_153 : decode cX4_told 153 = .ok (.iaload, 1) := by decide +kernel
theorem dX4_told_154 : decode cX4_told 154 = .ok (.ireturn, 1) := by decide +kernel
theorem dX4_told_155 : decode cX4_told 155 = .ok (.aload_n 0, 1) := by decide +kernel
theorem dX4_told_156 : decode cX4_told 156 = .ok (.invokevirtual 88, 3) := by decide +kernel
theorem dX4_told_159 : decode cX4_told 159 = .ok (.ireturn, 1) := by decide +kernel
theorem dX4_told_160 : decode cX4_told 160 = .ok (.aload_n 0, 1) := by decide +kernel
theorem dX4_told_161 : decode cX4_told 161 = .ok (.getfield 7, 3) := by decide +kernel
theorem dX4_told_164 : decode cX4_told 164 = .ok (.bipush 14, 2) := by decide +kernel
theorem dX4_told_166 : decode cX4_told 166 = .ok (.iaload, 1) := by decide +kernel
theorem dX4_told_167 : decode cX4_told 167 = .ok (.ireturn, 1) := by decide +kernel
theorem dX4_told_168 : decode cX4_told 168 = .ok (.aload_n 0, 1) := by decide +kernel
theorem dX4_told_169 : decode cX4_told 169 = .ok (.invokevirtual 94, 3) := by decide +kernel
theorem dX4_told_172 : decode cX4_told 172 = .ok (.ireturn, 1) := by decide +kernel
theorem dX4_told_173 : decode cX4_told 173 = .ok (.aload_n 0, 1) := by decide +kernel
theorem dX4_told_174 : decode cX4_told 174 = .ok (.getfield 7, 3) := by decide +kernel
theorem dX4_told_177 : decode cX4_told 177 = .ok (.bipush 15, 2) := by decide +kernel
theorem dX4_told_179 : decode cX4_told 179 = .ok (.iload_n 1, 1) := by decide +kernel
theorem dX4_told_180 : decode cX4_told 180 = .ok (.iadd, 1) := by decide +kernel
theorem dX4_told_181 : decode cX4_told 181 = .ok (.bipush 10, 2) := by decide +kernel
theorem dX4_told_183 : decode cX4_told 183 = .ok (.isub, 1) := by decide +kernel
theorem dX4_told_184 : decode cX4_told 184 = .ok (.iaload, 1) := by decide +kernel
theorem dX4_told_185 : decode cX4_told 185 = .ok (.ireturn, 1) := by decide +kernel
theorem dX4_told_186 : decode cX4_told 186 = .ok (.aload_n 0, 1) := by decide +kernel
theorem dX4_told_187 : decode cX4_told 187 = .ok (.getfield 7, 3) := by decide +kernel
theorem dX4_told_190 : decode cX4_told 190 = .ok (.bipush 25, 2) := by decide +kernel
theorem dX4_told_192 : decode cX4_told 192 = .ok (.iaload, 1) := by decide +kernel
theorem dX4_told_193 : decode cX4_told 193 = .ok (.ireturn, 1) := by decide +kernel
theorem dX4_told_194 : decode cX4_told 194 = .ok (.aload_n 0, 1) := by decide +kernel
theorem dX4_told_195 : decode cX4_told 195 = .ok (.invokevirtual 85, 3) := by decide +kernel
theorem dX4_told_198 : decode cX4_told 198 = .ok (.ireturn, 1) := by decide +kernel
theorem dX4_told_199 : decode cX4_told 199 = .ok (.aload_n 0, 1) := by decide +kernel
theorem dX4_told_200 : decode cX4_told 200 = .ok (.getfield 7, 3) := by decide +kernel
theorem dX4_told_203 : decode cX4_told 203 = .ok (.bipush 20, 2) := by decide +kernel
theorem dX4_told_205 : decode cX4_told 205 = .ok (.iaload, 1) := by decide +kernel
theorem dX4_told_206 : decode cX4_told 206 = .ok (.ireturn, 1) := by decide +kernel
theorem dX4_told_207 : decode cX4_told 207 = .ok (.aload_n 0, 1) := by decide +kernel
theorem dX4_told_208 : decode cX4_told 208 = .ok (.getfield 47, 3) := by decide +kernel
theorem dX4_told_211 : decode cX4_told 211 = .ok (.ireturn, 1) := by decide +kernel
theorem dX4_told_212 : decode cX4_told 212 = .ok (.iconst (-1), 1) := by decide +kernel
theorem dX4_told_213 : decode cX4_told 213 = .ok (.ireturn, 1) := by decide +kernel
set_option maxRecDepth 20000 in
theorem ggX4_setting_X4_isIn : GoodIn wsX4_setting wsX4_isIn := goodIn_r _ [5] (by decide +kernel) (by decide +kernel)
set_option maxRecDepth 20000 in
theorem gX4_setting_X4_isIn : GoodIn wsX4_setting (va_wsS RX4 57 yX4_isIn wsX4_isIn) := goodIn_app (goodIn_of _ (by decide +kernel)) ggX4_setting_X4_isIn
theorem dX4_setting_0 : decode cX4_setting 0 = .ok (.iload_n 1, 1) := by decide +kernel
theorem dX4_setting_1 : decode cX4_setting 1 = .ok (.iconst 0, 1) := by decide +kernel
theorem dX4_setting_2 : decode cX4_setting 2 = .ok (.bipush 8, 2) := by decide +kernel
theorem dX4_setting_4 : decode cX4_setting 4 = .ok (.invokestatic 57, 3) := by decide +kernel
theorem dX4_setting_7 : decode cX4_setting 7 = .ok (.ifCond .eq 12, 3) := by decide +kernel
theorem dX4_setting_10 : decode cX4_setting 10 = .ok (.aload_n 0, 1) := by decide +kernel
theorem dX4_setting_11 : decode cX4_setting 11 = .ok (.getfield 7, 3) := by decide +kernel
theorem dX4_setting_14 : decode cX4_setting 14 = .ok (.iload_n 1, 1) := by decide +kernel
theorem dX4_setting_15 : decode cX4_setting 15 = .ok (.iaload, 1) := by decide +kernel
theorem dX4_setting_16 : decode cX4_setting 16 = .ok (.goto 4, 3) := by decide +kernel
theorem dX4_setting_19 : decode cX4_setting 19 = .ok (.iconst (-1), 1) := by decide +kernel
theorem dX4_setting_20 : decode cX4_setting 20 = .ok (.ireturn, 1) := by decide +kernel
set_option maxRecDepth 20000 in
theorem ggX4_word_X4_isWord : GoodIn wsX4_word wsX4_isWord := goodIn_r _ [7, 1, 8, 9, 6, 10, 15, 16, 17, 18, 19, 20, 21, 22, 23, 24, 25, 26, 27, 28, 29, 30, 31, 32, 33] (by decide +kernel) (by decide +kernel)
set_option maxRecDepth 20000 in
theorem gX4_word_X4_isWord : GoodIn wsX4_word (wsV RX4 151 RX4 yX4_isWord wsX4_isWord) := goodIn_app (goodIn_of _ (by decide +kernel)) ggX4_word_X4_isWord
set_option maxRecDepth 20000 in
theorem ggX4_word_X4_isShown : GoodIn wsX4_word wsX4_isShown := goodIn_r _ [14, 1, 15, 16, 17, 18, 19, 20, 21, 22, 23, 24, 25, 26, 27, 28, 29, 30, 31, 32, 33] (by decide +kernel) (by decide +kernel)
set_option maxRecDepth 20000 in
theorem gX4_word_X4_isShown : GoodIn wsX4_word (wsV RX4 97 RX4 yX4_isShown wsX4_isShown) := goodIn_app (goodIn_of _ (by decide +kernel)) ggX4_word_X4_isShown
theorem dX4_word_0 : decode cX4_word 0 = .ok (.aload_n 0, 1) := by decide +kernel
theorem dX4_word_1 : decode cX4_word 1 = .ok (.iload_n 1, 1) := by decide +kernel
theorem dX4_word_2 : decode cX4_word 2 = .ok (.invokevirtual 151, 3) := by decide +kernel
theorem dX4_word_5 : decode cX4_word 5 = .ok (.ifCond .ne 5, 3) := by decide +kernel
theorem dX4_word_8 : decode cX4_word 8 = .ok (.iconst (-1), 1) := by decide +kernel
theorem dX4_word_9 : decode cX4_word 9 = .ok (.ireturn, 1) := by decide +kernel
theorem dX4_word_10 : decode cX4_word 10 = .ok (.iload_n 2, 1) := by decide +kernel
theorem dX4_word_11 : decode cX4_word 11 = .ok (.tableswitch 92 0 4 #[33, 44, 51, 62, 73], 33) := by decide +kernel
theorem dX4_word_44 : decode cX4_word 44 = .ok (.aload_n 0, 1) := by decide +kernel
theorem dX4_word_45 : decode cX4_word 45 = .ok (.getfield 7, 3) := by decide +kernel
theorem dX4_word_48 : decode cX4_word 48 = .ok (.sipush 150, 3) := by decide +kernel
theorem dX4_word_51 : decode cX4_word 51 = .ok (.iload_n 1, 1) := by decide +kernel
theorem dX4_word_52 : decode cX4_word 52 = .ok (.iadd, 1) := by decide +kernel
theorem dX4_word_53 : decode cX4_word 53 = .ok (.iaload, 1) := by decide +kernel
theorem dX4_word_54 : decode cX4_word 54 = .ok (.ireturn, 1) := by decide +kernel
theorem dX4_word_55 : decode cX4_word 55 = .ok (.aload_n 0, 1) := by decide +kernel
theorem dX4_word_56 : decode cX4_word 56 = .ok (.getfield 29, 3) := by decide +kernel
theorem dX4_word_59 : decode cX4_word 59 = .ok (.iload_n 1, 1) := by decide +kernel
theorem dX4_word_60 : decode cX4_word 60 = .ok (.iaload, 1) := by decide +kernel
theorem dX4_word_61 : decode cX4_word 61 = .ok (.ireturn, 1) := by decide +kernel
theorem dX4_word_62 : decode cX4_word 62 = .ok (.aload_n 0, 1) := by decide +kernel
theorem dX4_word_63 : decode cX4_word 63 = .ok (.getfield 7, 3) := by decide +kernel
theorem dX4_word_66 : decode cX4_word 66 = .ok (.sipush 390, 3) := by decide +kernel
theorem dX4_word_69 : decode cX4_word 69 = .ok (.iload_n 1, 1) := by decide +kernel
theorem dX4_word_70 : decode cX4_word 70 = .ok (.iadd, 1) := by decide +kernel
theorem dX4_word_71 : decode cX4_word 71 = .ok (.iaload, 1) := by decide +kernel
theorem dX4_word_72 : decode cX4_word 72 = .ok (.ireturn, 1) := by decide +kernel
theorem dX4_word_73 : decode cX4_word 73 = .ok (.aload_n 0, 1) := by decide +kernel
theorem dX4_word_74 : decode cX4_word 74 = .ok (.getfield 7, 3) := by decide +kernel
theorem dX4_word_77 : decode cX4_word 77 = .ok (.sipush 270, 3) := by decide +kernel
theorem dX4_word_80 : decode cX4_word 80 = .ok (.iload_n 1, 1) := by decide +kernel
theorem dX4_word_81 : decode cX4_word 81 = .ok (.iadd, 1) := by decide +kernel
theorem dX4_word_82 : decode cX4_word 82 = .ok (.iaload, 1) := by decide +kernel
theorem dX4_word_83 : decode cX4_word 83 = .ok (.ireturn, 1) := by decide +kernel
theorem dX4_word_84 : decode cX4_word 84 = .ok (.aload_n 0, 1) := by decide +kernel
theorem dX4_word_85 : decode cX4_word 85 = .ok (.aload_n 0, 1) := by decide +kernel
theorem dX4_word_86 : decode cX4_word 86 = .ok (.getfield 29, 3) := by decide +kernel
theorem dX4_word_89 : decode cX4_word 89 = .ok (.iload_n 1, 1) := by decide +kernel
theorem dX4_word_90 : decode cX4_word 90 = .ok (.iaload, 1) := by decide +kernel
theorem dX4_word_91 : decode cX4_word 91 = .ok (.invokevirtual 97, 3) := by decide +kernel
theorem dX4_word_94 : decode cX4_word 94 = .ok (.ifCond .eq 7, 3) := by decide +kernel
theorem dX4_word_97 : decode cX4_word 97 = .ok (.iconst 1, 1) := by decide +kernel
theorem dX4_word_98 : decode cX4_word 98 = .ok (.goto 4, 3) := by decide +kernel
theorem dX4_word_101 : decode cX4_word 101 = .ok (.iconst 0, 1) := by decide +kernel
theorem dX4_word_102 : decode cX4_word 102 = .ok (.ireturn, 1) := by decide +kernel
theorem dX4_word_103 : decode cX4_word 103 = .ok (.iconst (-1), 1) := by decide +kernel
theorem dX4_word_104 : decode cX4_word 104 = .ok (.ireturn, 1) := by decide +kernel
set_option maxRecDepth 20000 in
theorem ggX4_row_X4_isIn : GoodIn wsX4_row wsX4_isIn := goodIn_r _ [7] (by decide +kernel) (by decide +kernel)
set_option maxRecDepth 20000 in
theorem gX4_row_X4_isIn : GoodIn wsX4_row (va_wsS RX4 57 yX4_isIn wsX4_isIn) := goodIn_app (goodIn_of _ (by decide +kernel)) ggX4_row_X4_isIn
theorem dX4_row_0 : decode cX4_row 0 = .ok (.iload_n 1, 1) := by decide +kernel
theorem dX4_row_1 : decode cX4_row 1 = .ok (.iconst 0, 1) := by decide +kernel
theorem dX4_row_2 : decode cX4_row 2 = .ok (.aload_n 0, 1) := by decide +kernel
theorem dX4_row_3 : decode cX4_row 3 = .ok (.getfield 50, 3) := by decide +kernel
theorem dX4_row_6 : decode cX4_row 6 = .ok (.iconst 1, 1) := by decide +kernel
theorem dX4_row_7 : decode cX4_row 7 = .ok (.isub, 1) := by decide +kernel
theorem dX4_row_8 : decode cX4_row 8 = .ok (.invokestatic 57, 3) := by decide +kernel
theorem dX4_row_11 : decode cX4_row 11 = .ok (.ifCond .eq 12, 3) := by decide +kernel
theorem dX4_row_14 : decode cX4_row 14 = .ok (.iload_n 2, 1) := by decide +kernel
theorem dX4_row_15 : decode cX4_row 15 = .ok (.iconst 0, 1) := by decide +kernel
theorem dX4_row_16 : decode cX4_row 16 = .ok (.iconst 1, 1) := by decide +kernel
theorem dX4_row_17 : decode cX4_row 17 = .ok (.invokestatic 57, 3) := by decide +kernel
theorem dX4_row_20 : decode cX4_row 20 = .ok (.ifCond .ne 5, 3) := by decide +kernel
theorem dX4_row_23 : decode cX4_row 23 = .ok (.iconst (-1), 1) := by decide +kernel
theorem dX4_row_24 : decode cX4_row 24 = .ok (.ireturn, 1) := by decide +kernel
theorem dX4_row_25 : decode cX4_row 25 = .ok (.bipush (-9), 2) := by decide +kernel
theorem dX4_row_27 : decode cX4_row 27 = .ok (.istore_n 3, 1) := by decide +kernel
theorem dX4_row_28 : decode cX4_row 28 = .ok (.iconst 0, 1) := by decide +kernel
theorem dX4_row_29 : decode cX4_row 29 = .ok (.istore 4, 2) := by decide +kernel
theorem dX4_row_31 : decode cX4_row 31 = .ok (.iconst 0, 1) := by decide +kernel
theorem dX4_row_32 : decode cX4_row 32 = .ok (.istore 5, 2) := by decide +kernel
theorem dX4_row_34 : decode cX4_row 34 = .ok (.iload 5, 2) := by decide +kernel
theorem dX4_row_36 : decode cX4_row 36 = .ok (.aload_n 0, 1) := by decide +kernel
theorem dX4_row_37 : decode cX4_row 37 = .ok (.getfield 7, 3) := by decide +kernel
theorem dX4_row_40 : decode cX4_row 40 = .ok (.bipush 9, 2) := by decide +kernel
theorem dX4_row_42 : decode cX4_row 42 = .ok (.iaload, 1) := by decide +kernel
theorem dX4_row_43 : decode cX4_row 43 = .ok (.if_icmp .ge 36, 3) := by decide +kernel
theorem dX4_row_46 : decode cX4_row 46 = .ok (.aload_n 0, 1) := by decide +kernel
theorem dX4_row_47 : decode cX4_row 47 = .ok (.getfield 29, 3) := by decide +kernel
theorem dX4_row_50 : decode cX4_row 50 = .ok (.iload 5, 2) := by decide +kernel
theorem dX4_row_52 : decode cX4_row 52 = .ok (.iaload, 1) := by decide +kernel
theorem dX4_row_53 : decode cX4_row 53 = .ok (.iload_n 1, 1) := by decide +kernel
theorem dX4_row_54 : decode cX4_row 54 = .ok (.if_icmp .ne 19, 3) := by decide +kernel
theorem dX4_row_57 : decode cX4_row 57 = .ok (.iload_n 3, 1) := by decide +kernel
theorem dX4_row_58 : decode cX4_row 58 = .ok (.bipush (-9), 2) := by decide +kernel
theorem dX4_row_60 : decode cX4_row 60 = .ok (.if_icmp .ne 8, 3) := by decide +kernel
theorem dX4_row_63 : decode cX4_row 63 = .ok (.iload 5, 2) := by decide +kernel
theorem dX4_row_65 : decode cX4_row 65 = .ok (.goto 4, 3) := by decide +kernel
theorem dX4_row_68 : decode cX4_row 68 = .ok (.iload_n 3, 1) := by decide +kernel
theorem dX4_row_69 : decode cX4_row 69 = .ok (.istore_n 3, 1) := by decide +kernel
theorem dX4_row_70 : decode cX4_row 70 = .ok (.iinc 4 1, 3) := by decide +kernel
theorem dX4_row_73 : decode cX4_row 73 = .ok (.iinc 5 1, 3) := by decide +kernel
theorem dX4_row_76 : decode cX4_row 76 = .ok (.goto (-42), 3) := by decide +kernel
theorem dX4_row_79 : decode cX4_row 79 = .ok (.iload_n 2, 1) := by decide +kernel
theorem dX4_row_80 : decode cX4_row 80 = .ok (.ifCond .ne 7, 3) := by decide +kernel
theorem dX4_row_83 : decode cX4_row 83 = .ok (.iload_n 3, 1) := by decide +kernel
theorem dX4_row_84 : decode cX4_row 84 = .ok (.goto 5, 3) := by decide +kernel
theorem dX4_row_87 : decode cX4_row 87 = .ok (.iload 4, 2) := by decide +kernel
theorem dX4_row_89 : decode cX4_row 89 = .ok (.ireturn, 1) := by decide +kernel
theorem dX4_heard_0 : decode cX4_heard 0 = .ok (.iload_n 1, 1) := by decide +kernel
theorem dX4_heard_1 : decode cX4_heard 1 = .ok (.ifCond .ge 7, 3) := by decide +kernel
theorem dX4_heard_4 : decode cX4_heard 4 = .ok (.iconst (-1), 1) := by decide +kernel
theorem dX4_heard_5 : decode cX4_heard 5 = .ok (.goto 28, 3) := by decide +kernel
theorem dX4_heard_8 : decode cX4_heard 8 = .ok (.iload_n 1, 1) := by decide +kernel
theorem dX4_heard_9 : decode cX4_heard 9 = .ok (.aload_n 0, 1) := by decide +kernel
theorem dX4_heard_10 : decode cX4_heard 10 = .ok (.getfield 7, 3) := by decide +kernel
theorem dX4_heard_13 : decode cX4_heard 13 = .ok (.bipush 20, 2) := by decide +kernel
theorem dX4_heard_15 : decode cX4_heard 15 = .ok (.iaload, 1) := by decide +kernel
theorem dX4_heard_16 : decode cX4_heard 16 = .ok (.if_icmp .ge 15, 3) := by decide +kernel
theorem dX4_heard_19 : decode cX4_heard 19 = .ok (.aload_n 0, 1) := by decide +kernel
theorem dX4_heard_20 : decode cX4_heard 20 = .ok (.getfield 7, 3) := by decide +kernel
theorem dX4_heard_23 : decode cX4_heard 23 = .ok (.bipush 21, 2) := by decide +kernel
theorem dX4_heard_25 : decode cX4_heard 25 = .ok (.iload_n 1, 1) := by decide +kernel
theorem dX4_heard_26 : decode cX4_heard 26 = .ok (.iadd, 1) := by decide +kernel
theorem dX4_heard_27 : decode cX4_heard 27 = .ok (.iaload, 1) := by decide +kernel
theorem dX4_heard_28 : decode cX4_heard 28 = .ok (.goto 5, 3) := by decide +kernel
theorem dX4_heard_31 : decode cX4_heard 31 = .ok (.bipush (-9), 2) := by decide +kernel
theorem dX4_heard_33 : decode cX4_heard 33 = .ok (.ireturn, 1) := by decide +kernel
set_option maxRecDepth 20000 in
theorem ggX4_trail_X4_isIn : GoodIn wsX4_trail wsX4_isIn := goodIn_r _ [5] (by decide +kernel) (by decide +kernel)
set_option maxRecDepth 20000 in
theorem gX4_trail_X4_isIn : GoodIn wsX4_trail (va_wsS RX4 57 yX4_isIn wsX4_isIn) := goodIn_app (goodIn_of _ (by decide +kernel)) ggX4_trail_X4_isIn
theorem dX4_trail_0 : decode cX4_trail 0 = .ok (.iload_n 1, 1) := by decide +kernel
theorem dX4_trail_1 : decode cX4_trail 1 = .ok (.ifCond .lt 12, 3) := by decide +kernel
theorem dX4_trail_4 : decode cX4_trail 4 = .ok (.iload_n 2, 1) := by decide +kernel
theorem dX4_trail_5 : decode cX4_trail 5 = .ok (.iconst 0, 1) := by decide +kernel
theorem dX4_trail_6 : decode cX4_trail 6 = .ok (.iconst 1, 1) := by decide +kernel
theorem dX4_trail_7 : decode cX4_trail 7 = .ok (.invokestatic 57, 3) := by decide +kernel
theorem dX4_trail_10 : decode cX4_trail 10 = .ok (.ifCond .ne 5, 3) := by decide +kernel
theorem dX4_trail_13 : decode cX4_trail 13 = .ok (.iconst (-1), 1) := by decide +kernel
theorem dX4_trail_14 : decode cX4_trail 14 = .ok (.ireturn, 1) := by decide +kernel
theorem dX4_trail_15 : decode cX4_trail 15 = .ok (.iload_n 1, 1) := by decide +kernel
theorem dX4_trail_16 : decode cX4_trail 16 = .ok (.aload_n 0, 1) := by decide +kernel
theorem dX4_trail_17 : decode cX4_trail 17 = .ok (.getfield 7, 3) := by decide +kernel
theorem dX4_trail_20 : decode cX4_trail 20 = .ok (.bipush 25, 2) := by decide +kernel
theorem dX4_trail_22 : decode cX4_trail 22 = .ok (.iaload, 1) := by decide +kernel
theorem dX4_trail_23 : decode cX4_trail 23 = .ok (.if_icmp .ge 19, 3) := by decide +kernel
theorem dX4_trail_26 : decode cX4_trail 26 = .ok (.aload_n 0, 1) := by decide +kernel
theorem dX4_trail_27 : decode cX4_trail 27 = .ok (.getfield 7, 3) := by decide +kernel
theorem dX4_trail_30 : decode cX4_trail 30 = .ok (.bipush 26, 2) := by decide +kernel
theorem dX4_trail_32 : decode cX4_trail 32 = .ok (.iconst 2, 1) := by decide +kernel
theorem dX4_trail_33 : decode cX4_trail 33 = .ok (.iload_n 1, 1) := by decide +kernel
theorem dX4_trail_34 : decode cX4_trail 34 = .ok (.imul, 1) := by decide +kernel
theorem dX4_trail_35 : decode cX4_trail 35 = .ok (.iadd, 1) := by decide +kernel
theorem dX4_trail_36 : decode cX4_trail 36 = .ok (.iload_n 2, 1) := by decide +kernel
theorem dX4_trail_37 : decode cX4_trail 37 = .ok (.iadd, 1) := by decide +kernel
theorem dX4_trail_38 : decode cX4_trail 38 = .ok (.iaload, 1) := by decide +kernel
theorem dX4_trail_39 : decode cX4_trail 39 = .ok (.goto 5, 3) := by decide +kernel
theorem dX4_trail_42 : decode cX4_trail 42 = .ok (.bipush (-9), 2) := by decide +kernel
theorem dX4_trail_44 : decode cX4_trail 44 = .ok (.ireturn, 1) := by decide +kernel
set_option maxRecDepth 20000 in
theorem ggX4_score_X4_isWord : GoodIn wsX4_score wsX4_isWord := goodIn_r _ [5, 6, 7, 8, 4, 9, 14, 15, 16, 17, 18, 19, 20, 21, 22, 23, 24, 25, 26, 27, 28, 29, 30, 31, 32] (by decide +kernel) (by decide +kernel)
set_option maxRecDepth 20000 in
theorem gX4_score_X4_isWord : GoodIn wsX4_score (wsV RX4 151 RX4 yX4_isWord wsX4_isWord) := goodIn_app (goodIn_of _ (by decide +kernel)) ggX4_score_X4_isWord
set_option maxRecDepth 20000 in
theorem ggX4_score_X4_scoreOf : GoodIn wsX4_score wsX4_scoreOf := goodIn_r _ [13, 6, 14, 15, 16, 17, 18, 19, 20, 21, 22, 23, 24, 25, 26, 27, 28, 29, 30, 31, 32] (by decide +kernel) (by decide +kernel)
set_option maxRecDepth 20000 in
theorem gX4_score_X4_scoreOf : GoodIn wsX4_score (wsV RX4 61 RX4 yX4_scoreOf wsX4_scoreOf) := goodIn_app (goodIn_of _ (by decide +kernel)) ggX4_score_X4_scoreOf
theorem dX4_score_0 : decode cX4_score 0 = .ok (.aload_n 0, 1) := by decide +kernel
end
section
theorem dX4_score_1 : decode cX4_score 1 = .ok (.iload_n 1, 1) := by decide +kernel
theorem dX4_score_2 : decode cX4_score 2 = .ok (.invokevirtual 151, 3) := by decide +kernel
theorem dX4_score_5 : decode cX4_score 5 = .ok (.ifCond .eq 11, 3) := by decide +kernel
theorem dX4_score_8 : decode cX4_score 8 = .ok (.aload_n 0, 1) := by decide +kernel
theorem dX4_score_9 : decode cX4_score 9 = .ok (.iload_n 1, 1) := by decide +kernel
theorem dX4_score_10 : decode cX4_score 10 = .ok (.invokevirtual 61, 3) := by decide +kernel
theorem dX4_score_13 : decode cX4_score 13 = .ok (.goto 4, 3) := by decide +kernel
theorem dX4_score_16 : decode cX4_score 16 = .ok (.iconst (-1), 1) := by decide +kernel
theorem dX4_score_17 : decode cX4_score 17 = .ok (.ireturn, 1) := by decide +kernel
set_option maxRecDepth 20000 in
theorem ggX4_best_X4_isLetter : GoodIn wsX4_best wsX4_isLetter := goodIn_r _ [4, 5, 6, 3, 7] (by decide +kernel) (by decide +kernel)
set_option maxRecDepth 20000 in
theorem gX4_best_X4_isLetter : GoodIn wsX4_best (va_wsS RX4 116 yX4_isLetter wsX4_isLetter) := goodIn_app (goodIn_of _ (by decide +kernel)) ggX4_best_X4_isLetter
set_option maxRecDepth 20000 in
theorem ggX4_best_X4_isIn : GoodIn wsX4_best wsX4_isIn := goodIn_r _ [7] (by decide +kernel) (by decide +kernel)
set_option maxRecDepth 20000 in
theorem gX4_best_X4_isIn : GoodIn wsX4_best (va_wsS RX4 57 yX4_isIn wsX4_isIn) := goodIn_app (goodIn_of _ (by decide +kernel)) ggX4_best_X4_isIn
set_option maxRecDepth 20000 in
theorem ggX4_best_X4_bestOf : GoodIn wsX4_best wsX4_bestOf := goodIn_r _ [11, 12, 5, 6, 3, 7, 13, 14, 15, 16, 17, 18, 19, 20, 25, 26, 27, 28, 29, 30, 31, 32, 33, 34, 35, 36, 37, 38, 39, 40, 41, 42, 43] (by decide +kernel) (by decide +kernel)
set_option maxRecDepth 20000 in
theorem gX4_best_X4_bestOf : GoodIn wsX4_best (wsV RX4 71 RX4 yX4_bestOf wsX4_bestOf) := goodIn_app (goodIn_of _ (by decide +kernel)) ggX4_best_X4_bestOf
set_option maxRecDepth 20000 in
theorem ggX4_best_X4_scoreOf : GoodIn wsX4_best wsX4_scoreOf := goodIn_r _ [16, 12, 25, 26, 27, 28, 29, 30, 31, 32, 33, 34, 35, 36, 37, 38, 39, 40, 41, 42, 43] (by decide +kernel) (by decide +kernel)
set_option maxRecDepth 20000 in
theorem gX4_best_X4_scoreOf : GoodIn wsX4_best (wsV RX4 61 RX4 yX4_scoreOf wsX4_scoreOf) := goodIn_app (goodIn_of _ (by decide +kernel)) ggX4_best_X4_scoreOf
set_option maxRecDepth 20000 in
theorem ggX4_best_X4_isAccepted : GoodIn wsX4_best wsX4_isAccepted := goodIn_r _ [24, 12, 13, 14, 15, 3, 16, 25, 26, 27, 28, 29, 30, 31, 32, 33, 34, 35, 36, 37, 38, 39, 40, 41, 42, 43] (by decide +kernel) (by decide +kernel)
set_option maxRecDepth 20000 in
theorem gX4_best_X4_isAccepted : GoodIn wsX4_best (wsV RX4 74 RX4 yX4_isAccepted wsX4_isAccepted) := goodIn_app (goodIn_of _ (by decide +kernel)) ggX4_best_X4_isAccepted
theorem dX4_best_0 : decode cX4_best 0 = .ok (.iload_n 1, 1) := by decide +kernel
theorem dX4_best_1 : decode cX4_best 1 = .ok (.invokestatic 116, 3) := by decide +kernel
theorem dX4_best_4 : decode cX4_best 4 = .ok (.ifCond .eq 12, 3) := by decide +kernel
theorem dX4_best_7 : decode cX4_best 7 = .ok (.iload_n 2, 1) := by decide +kernel
theorem dX4_best_8 : decode cX4_best 8 = .ok (.iconst 0, 1) := by decide +kernel
theorem dX4_best_9 : decode cX4_best 9 = .ok (.iconst 2, 1) := by decide +kernel
theorem dX4_best_10 : decode cX4_best 10 = .ok (.invokestatic 57, 3) := by decide +kernel
theorem dX4_best_13 : decode cX4_best 13 = .ok (.ifCond .ne 5, 3) := by decide +kernel
theorem dX4_best_16 : decode cX4_best 16 = .ok (.iconst (-1), 1) := by decide +kernel
theorem dX4_best_17 : decode cX4_best 17 = .ok (.ireturn, 1) := by decide +kernel
theorem dX4_best_18 : decode cX4_best 18 = .ok (.aload_n 0, 1) := by decide +kernel
theorem dX4_best_19 : decode cX4_best 19 = .ok (.iload_n 1, 1) := by decide +kernel
theorem dX4_best_20 : decode cX4_best 20 = .ok (.invokevirtual 71, 3) := by decide +kernel
theorem dX4_best_23 : decode cX4_best 23 = .ok (.istore_n 3, 1) := by decide +kernel
theorem dX4_best_24 : decode cX4_best 24 = .ok (.iload_n 3, 1) := by decide +kernel
theorem dX4_best_25 : decode cX4_best 25 = .ok (.bipush (-9), 2) := by decide +kernel
theorem dX4_best_27 : decode cX4_best 27 = .ok (.if_icmp .ne 6, 3) := by decide +kernel
theorem dX4_best_30 : decode cX4_best 30 = .ok (.bipush (-9), 2) := by decide +kernel
theorem dX4_best_32 : decode cX4_best 32 = .ok (.ireturn, 1) := by decide +kernel
theorem dX4_best_33 : decode cX4_best 33 = .ok (.iload_n 2, 1) := by decide +kernel
theorem dX4_best_34 : decode cX4_best 34 = .ok (.ifCond .ne 7, 3) := by decide +kernel
theorem dX4_best_37 : decode cX4_best 37 = .ok (.iload_n 3, 1) := by decide +kernel
theorem dX4_best_38 : decode cX4_best 38 = .ok (.goto 29, 3) := by decide +kernel
theorem dX4_best_41 : decode cX4_best 41 = .ok (.iload_n 2, 1) := by decide +kernel
theorem dX4_best_42 : decode cX4_best 42 = .ok (.iconst 1, 1) := by decide +kernel
theorem dX4_best_43 : decode cX4_best 43 = .ok (.if_icmp .ne 11, 3) := by decide +kernel
theorem dX4_best_46 : decode cX4_best 46 = .ok (.aload_n 0, 1) := by decide +kernel
theorem dX4_best_47 : decode cX4_best 47 = .ok (.iload_n 3, 1) := by decide +kernel
theorem dX4_best_48 : decode cX4_best 48 = .ok (.invokevirtual 61, 3) := by decide +kernel
theorem dX4_best_51 : decode cX4_best 51 = .ok (.goto 16, 3) := by decide +kernel
theorem dX4_best_54 : decode cX4_best 54 = .ok (.aload_n 0, 1) := by decide +kernel
theorem dX4_best_55 : decode cX4_best 55 = .ok (.iload_n 3, 1) := by decide +kernel
theorem dX4_best_56 : decode cX4_best 56 = .ok (.invokevirtual 74, 3) := by decide +kernel
theorem dX4_best_59 : decode cX4_best 59 = .ok (.ifCond .eq 7, 3) := by decide +kernel
theorem dX4_best_62 : decode cX4_best 62 = .ok (.iconst 1, 1) := by decide +kernel
theorem dX4_best_63 : decode cX4_best 63 = .ok (.goto 4, 3) := by decide +kernel
theorem dX4_best_66 : decode cX4_best 66 = .ok (.iconst 0, 1) := by decide +kernel
theorem dX4_best_67 : decode cX4_best 67 = .ok (.ireturn, 1) := by decide +kernel
theorem dX4_isElsewhere_0 : decode cX4_isElsewhere 0 = .ok (.iload_n 2, 1) := by decide +kernel
theorem dX4_isElsewhere_1 : decode cX4_isElsewhere 1 = .ok (.iconst 1, 1) := by decide +kernel
theorem dX4_isElsewhere_2 : decode cX4_isElsewhere 2 = .ok (.isub, 1) := by decide +kernel
theorem dX4_isElsewhere_3 : decode cX4_isElsewhere 3 = .ok (.istore_n 3, 1) := by decide +kernel
theorem dX4_isElsewhere_4 : decode cX4_isElsewhere 4 = .ok (.iload_n 3, 1) := by decide +kernel
theorem dX4_isElsewhere_5 : decode cX4_isElsewhere 5 = .ok (.aload_n 0, 1) := by decide +kernel
theorem dX4_isElsewhere_6 : decode cX4_isElsewhere 6 = .ok (.getfield 7, 3) := by decide +kernel
theorem dX4_isElsewhere_9 : decode cX4_isElsewhere 9 = .ok (.bipush 9, 2) := by decide +kernel
theorem dX4_isElsewhere_11 : decode cX4_isElsewhere 11 = .ok (.iaload, 1) := by decide +kernel
theorem dX4_isElsewhere_12 : decode cX4_isElsewhere 12 = .ok (.if_icmp .ge 84, 3) := by decide +kernel
theorem dX4_isElsewhere_15 : decode cX4_isElsewhere 15 = .ok (.iload_n 3, 1) := by decide +kernel
theorem dX4_isElsewhere_16 : decode cX4_isElsewhere 16 = .ok (.iload_n 1, 1) := by decide +kernel
theorem dX4_isElsewhere_17 : decode cX4_isElsewhere 17 = .ok (.if_icmp .eq 7, 3) := by decide +kernel
theorem dX4_isElsewhere_20 : decode cX4_isElsewhere 20 = .ok (.iconst 1, 1) := by decide +kernel
theorem dX4_isElsewhere_21 : decode cX4_isElsewhere 21 = .ok (.goto 4, 3) := by decide +kernel
theorem dX4_isElsewhere_24 : decode cX4_isElsewhere 24 = .ok (.iconst 0, 1) := by decide +kernel
theorem dX4_isElsewhere_25 : decode cX4_isElsewhere 25 = .ok (.istore 4, 2) := by decide +kernel
theorem dX4_isElsewhere_27 : decode cX4_isElsewhere 27 = .ok (.iconst 0, 1) := by decide +kernel
theorem dX4_isElsewhere_28 : decode cX4_isElsewhere 28 = .ok (.istore 5, 2) := by decide +kernel
theorem dX4_isElsewhere_30 : decode cX4_isElsewhere 30 = .ok (.iload 5, 2) := by decide +kernel
theorem dX4_isElsewhere_32 : decode cX4_isElsewhere 32 = .ok (.iload_n 2, 1) := by decide +kernel
theorem dX4_isElsewhere_33 : decode cX4_isElsewhere 33 = .ok (.if_icmp .ge 50, 3) := by decide +kernel
theorem dX4_isElsewhere_36 : decode cX4_isElsewhere 36 = .ok (.iload 4, 2) := by decide +kernel
theorem dX4_isElsewhere_38 : decode cX4_isElsewhere 38 = .ok (.ifCond .eq 45, 3) := by decide +kernel
theorem dX4_isElsewhere_41 : decode cX4_isElsewhere 41 = .ok (.aload_n 0, 1) := by decide +kernel
theorem dX4_isElsewhere_42 : decode cX4_isElsewhere 42 = .ok (.getfield 7, 3) := by decide +kernel
theorem dX4_isElsewhere_45 : decode cX4_isElsewhere 45 = .ok (.sipush 150, 3) := by decide +kernel
theorem dX4_isElsewhere_48 : decode cX4_isElsewhere 48 = .ok (.iload_n 3, 1) := by decide +kernel
theorem dX4_isElsewhere_49 : decode cX4_isElsewhere 49 = .ok (.iadd, 1) := by decide +kernel
theorem dX4_isElsewhere_50 : decode cX4_isElsewhere 50 = .ok (.iload 5, 2) := by decide +kernel
theorem dX4_isElsewhere_52 : decode cX4_isElsewhere 52 = .ok (.isub, 1) := by decide +kernel
theorem dX4_isElsewhere_53 : decode cX4_isElsewhere 53 = .ok (.iaload, 1) := by decide +kernel
theorem dX4_isElsewhere_54 : decode cX4_isElsewhere 54 = .ok (.aload_n 0, 1) := by decide +kernel
theorem dX4_isElsewhere_55 : decode cX4_isElsewhere 55 = .ok (.getfield 7, 3) := by decide +kernel
theorem dX4_isElsewhere_58 : decode cX4_isElsewhere 58 = .ok (.sipush 150, 3) := by decide +kernel
theorem dX4_isElsewhere_61 : decode cX4_isElsewhere 61 = .ok (.iload_n 1, 1) := by decide +kernel
theorem dX4_isElsewhere_62 : decode cX4_isElsewhere 62 = .ok (.iadd, 1) := by decide +kernel
theorem dX4_isElsewhere_63 : decode cX4_isElsewhere 63 = .ok (.iload 5, 2) := by decide +kernel
theorem dX4_isElsewhere_65 : decode cX4_isElsewhere 65 = .ok (.isub, 1) := by decide +kernel
theorem dX4_isElsewhere_66 : decode cX4_isElsewhere 66 = .ok (.iaload, 1) := by decide +kernel
theorem dX4_isElsewhere_67 : decode cX4_isElsewhere 67 = .ok (.if_icmp .ne 7, 3) := by decide +kernel
theorem dX4_isElsewhere_70 : decode cX4_isElsewhere 70 = .ok (.iconst 1, 1) := by decide +kernel
theorem dX4_isElsewhere_71 : decode cX4_isElsewhere 71 = .ok (.goto 4, 3) := by decide +kernel
theorem dX4_isElsewhere_74 : decode cX4_isElsewhere 74 = .ok (.iconst 0, 1) := by decide +kernel
theorem dX4_isElsewhere_75 : decode cX4_isElsewhere 75 = .ok (.istore 4, 2) := by decide +kernel
theorem dX4_isElsewhere_77 : decode cX4_isElsewhere 77 = .ok (.iinc 5 1, 3) := by decide +kernel
theorem dX4_isElsewhere_80 : decode cX4_isElsewhere 80 = .ok (.goto (-50), 3) := by decide +kernel
theorem dX4_isElsewhere_83 : decode cX4_isElsewhere 83 = .ok (.iload 4, 2) := by decide +kernel
theorem dX4_isElsewhere_85 : decode cX4_isElsewhere 85 = .ok (.ifCond .eq 5, 3) := by decide +kernel
theorem dX4_isElsewhere_88 : decode cX4_isElsewhere 88 = .ok (.iconst 1, 1) := by decide +kernel
theorem dX4_isElsewhere_89 : decode cX4_isElsewhere 89 = .ok (.ireturn, 1) := by decide +kernel
theorem dX4_isElsewhere_90 : decode cX4_isElsewhere 90 = .ok (.iinc 3 1, 3) := by decide +kernel
theorem dX4_isElsewhere_93 : decode cX4_isElsewhere 93 = .ok (.goto (-89), 3) := by decide +kernel
theorem dX4_isElsewhere_96 : decode cX4_isElsewhere 96 = .ok (.iconst 0, 1) := by decide +kernel
theorem dX4_isElsewhere_97 : decode cX4_isElsewhere 97 = .ok (.ireturn, 1) := by decide +kernel
set_option maxRecDepth 20000 in
theorem ggX4_unique_X4_isWord : GoodIn wsX4_unique wsX4_isWord := goodIn_r _ [5, 6, 7, 8, 4, 9, 14, 15, 16, 17, 18, 19, 20, 21, 22, 23, 24, 25, 26, 27, 28, 29, 30, 31, 32] (by decide +kernel) (by decide +kernel)
set_option maxRecDepth 20000 in
theorem gX4_unique_X4_isWord : GoodIn wsX4_unique (wsV RX4 151 RX4 yX4_isWord wsX4_isWord) := goodIn_app (goodIn_of _ (by decide +kernel)) ggX4_unique_X4_isWord
set_option maxRecDepth 20000 in
theorem ggX4_unique_X4_isElsewhere : GoodIn wsX4_unique wsX4_isElsewhere := goodIn_r _ [13, 6, 14, 15, 16, 17, 18, 19, 20, 21, 22, 23, 24, 25, 26, 27, 28, 29, 30, 31, 32] (by decide +kernel) (by decide +kernel)
set_option maxRecDepth 20000 in
theorem gX4_unique_X4_isElsewhere : GoodIn wsX4_unique (wsV RX4 157 RX4 yX4_isElsewhere wsX4_isElsewhere) := goodIn_app (goodIn_of _ (by decide +kernel)) ggX4_unique_X4_isElsewhere
theorem dX4_unique_0 : decode cX4_unique 0 = .ok (.aload_n 0, 1) := by decide +kernel
theorem dX4_unique_1 : decode cX4_unique 1 = .ok (.iload_n 1, 1) := by decide +kernel
theorem dX4_unique_2 : decode cX4_unique 2 = .ok (.invokevirtual 151, 3) := by decide +kernel
theorem dX4_unique_5 : decode cX4_unique 5 = .ok (.ifCond .ne 5, 3) := by decide +kernel
theorem dX4_unique_8 : decode cX4_unique 8 = .ok (.iconst (-1), 1) := by decide +kernel
theorem dX4_unique_9 : decode cX4_unique 9 = .ok (.ireturn, 1) := by decide +kernel
theorem dX4_unique_10 : decode cX4_unique 10 = .ok (.iconst 1, 1) := by decide +kernel
theorem dX4_unique_11 : decode cX4_unique 11 = .ok (.istore_n 2, 1) := by decide +kernel
theorem dX4_unique_12 : decode cX4_unique 12 = .ok (.iload_n 2, 1) := by decide +kernel
theorem dX4_unique_13 : decode cX4_unique 13 = .ok (.iconst 4, 1) := by decide +kernel
theorem dX4_unique_14 : decode cX4_unique 14 = .ok (.if_icmp .gt 27, 3) := by decide +kernel
theorem dX4_unique_17 : decode cX4_unique 17 = .ok (.iload_n 2, 1) := by decide +kernel
theorem dX4_unique_18 : decode cX4_unique 18 = .ok (.iload_n 1, 1) := by decide +kernel
theorem dX4_unique_19 : decode cX4_unique 19 = .ok (.iconst 1, 1) := by decide +kernel
theorem dX4_unique_20 : decode cX4_unique 20 = .ok (.iadd, 1) := by decide +kernel
theorem dX4_unique_21 : decode cX4_unique 21 = .ok (.if_icmp .gt 20, 3) := by decide +kernel
theorem dX4_unique_24 : decode cX4_unique 24 = .ok (.aload_n 0, 1) := by decide +kernel
theorem dX4_unique_25 : decode cX4_unique 25 = .ok (.iload_n 1, 1) := by decide +kernel
theorem dX4_unique_26 : decode cX4_unique 26 = .ok (.iload_n 2, 1) := by decide +kernel
theorem dX4_unique_27 : decode cX4_unique 27 = .ok (.invokevirtual 157, 3) := by decide +kernel
theorem dX4_unique_30 : decode cX4_unique 30 = .ok (.ifCond .ne 5, 3) := by decide +kernel
theorem dX4_unique_33 : decode cX4_unique 33 = .ok (.iload_n 2, 1) := by decide +kernel
theorem dX4_unique_34 : decode cX4_unique 34 = .ok (.ireturn, 1) := by decide +kernel
theorem dX4_unique_35 : decode cX4_unique 35 = .ok (.iinc 2 1, 3) := by decide +kernel
theorem dX4_unique_38 : decode cX4_unique 38 = .ok (.goto (-26), 3) := by decide +kernel
theorem dX4_unique_41 : decode cX4_unique 41 = .ok (.bipush (-9), 2) := by decide +kernel
theorem dX4_unique_43 : decode cX4_unique 43 = .ok (.ireturn, 1) := by decide +kernel
theorem dX4_mean_0 : decode cX4_mean 0 = .ok (.aload_n 0, 1) := by decide +kernel
theorem dX4_mean_1 : decode cX4_mean 1 = .ok (.getfield 7, 3) := by decide +kernel
theorem dX4_mean_4 : decode cX4_mean 4 = .ok (.bipush 9, 2) := by decide +kernel
theorem dX4_mean_6 : decode cX4_mean 6 = .ok (.iaload, 1) := by decide +kernel
theorem dX4_mean_7 : decode cX4_mean 7 = .ok (.i2f, 1) := by decide +kernel
theorem dX4_mean_8 : decode cX4_mean 8 = .ok (.aload_n 0, 1) := by decide +kernel
theorem dX4_mean_9 : decode cX4_mean 9 = .ok (.getfield 50, 3) := by decide +kernel
theorem dX4_mean_12 : decode cX4_mean 12 = .ok (.i2f, 1) := by decide +kernel
theorem dX4_mean_13 : decode cX4_mean 13 = .ok (.fdiv, 1) := by decide +kernel
theorem dX4_mean_14 : decode cX4_mean 14 = .ok (.freturn, 1) := by decide +kernel
theorem dX4_hold_0 : decode cX4_hold 0 = .ok (.iconst 0, 1) := by decide +kernel
theorem dX4_hold_1 : decode cX4_hold 1 = .ok (.istore_n 1, 1) := by decide +kernel
theorem dX4_hold_2 : decode cX4_hold 2 = .ok (.iload_n 1, 1) := by decide +kernel
theorem dX4_hold_3 : decode cX4_hold 3 = .ok (.sipush 510, 3) := by decide +kernel
theorem dX4_hold_6 : decode cX4_hold 6 = .ok (.if_icmp .ge 21, 3) := by decide +kernel
theorem dX4_hold_9 : decode cX4_hold 9 = .ok (.aload_n 0, 1) := by decide +kernel
theorem dX4_hold_10 : decode cX4_hold 10 = .ok (.getfield 41, 3) := by decide +kernel
theorem dX4_hold_13 : decode cX4_hold 13 = .ok (.iload_n 1, 1) := by decide +kernel
theorem dX4_hold_14 : decode cX4_hold 14 = .ok (.aload_n 0, 1) := by decide +kernel
theorem dX4_hold_15 : decode cX4_hold 15 = .ok (.getfield 7, 3) := by decide +kernel
theorem dX4_hold_18 : decode cX4_hold 18 = .ok (.iload_n 1, 1) := by decide +kernel
theorem dX4_hold_19 : decode cX4_hold 19 = .ok (.iaload, 1) := by decide +kernel
theorem dX4_hold_20 : decode cX4_hold 20 = .ok (.iastore, 1) := by decide +kernel
theorem dX4_hold_21 : decode cX4_hold 21 = .ok (.iinc 1 1, 3) := by decide +kernel
theorem dX4_hold_24 : decode cX4_hold 24 = .ok (.goto (-22), 3) := by decide +kernel
theorem dX4_hold_27 : decode cX4_hold 27 = .ok (.return_, 1) := by decide +kernel
theorem dX4_restore_0 : decode cX4_restore 0 = .ok (.iconst 0, 1) := by decide +kernel
theorem dX4_restore_1 : decode cX4_restore 1 = .ok (.istore_n 1, 1) := by decide +kernel
theorem dX4_restore_2 : decode cX4_restore 2 = .ok (.iload_n 1, 1) := by decide +kernel
theorem dX4_restore_3 : decode cX4_restore 3 = .ok (.sipush 510, 3) := by decide +kernel
theorem dX4_restore_6 : decode cX4_restore 6 = .ok (.if_icmp .ge 21, 3) := by decide +kernel
theorem dX4_restore_9 : decode cX4_restore 9 = .ok (.aload_n 0, 1) := by decide +kernel
theorem dX4_restore_10 : decode cX4_restore 10 = .ok (.getfield 7, 3) := by decide +kernel
theorem dX4_restore_13 : decode cX4_restore 13 = .ok (.iload_n 1, 1) := by decide +kernel
theorem dX4_restore_14 : decode cX4_restore 14 = .ok (.aload_n 0, 1) := by decide +kernel
theorem dX4_restore_15 : decode cX4_restore 15 = .ok (.getfield 41, 3) := by decide +kernel
theorem dX4_restore_18 : decode cX4_restore 18 = .ok (.iload_n 1, 1) := by decide +kernel
theorem dX4_restore_19 : decode cX4_restore 19 = .ok (.iaload, 1) := by decide +kernel
theorem dX4_restore_20 : decode cX4_restore 20 = .ok (.iastore, 1) := by decide +kernel
theorem dX4_restore_21 : decode cX4_restore 21 = .ok (.iinc 1 1, 3) := by decide +kernel
theorem dX4_restore_24 : decode cX4_restore 24 = .ok (.goto (-22), 3) := by decide +kernel
theorem dX4_restore_27 : decode cX4_restore 27 = .ok (.return_, 1) := by decide +kernel
set_option maxRecDepth 20000 in
theorem ggX4_reached_X4_isWord : GoodIn wsX4_reached wsX4_isWord := goodIn_r _ [6, 1, 7, 8, 5, 9, 18, 19, 20, 21, 22, 23, 24, 25, 26, 27, 28, 29, 30, 31, 32, 33, 34, 35, 36] (by decide +kernel) (by decide +kernel)
set_option maxRecDepth 20000 in
theorem gX4_reached_X4_isWord : GoodIn wsX4_reached (wsV RX4 151 RX4 yX4_isWord wsX4_isWord) := goodIn_app (goodIn_of _ (by decide +kernel)) ggX4_reached_X4_isWord
set_option maxRecDepth 20000 in
theorem ggX4_reached_X4_estimated : GoodIn wsX4_reached wsX4_estimated := goodIn_r _ [13, 1, 14, 15, 16, 5, 17, 18, 19, 20, 21, 22, 23, 24, 25, 26, 27, 28, 29, 30, 31, 32, 33, 34, 35, 36] (by decide +kernel) (by decide +kernel)
set_option maxRecDepth 20000 in
theorem gX4_reached_X4_estimated : GoodIn wsX4_reached (wsV RX4 88 RX4 yX4_estimated wsX4_estimated) := goodIn_app (goodIn_of _ (by decide +kernel)) ggX4_reached_X4_estimated
theorem dX4_reached_0 : decode cX4_reached 0 = .ok (.aload_n 0, 1) := by decide +kernel
theorem dX4_reached_1 : decode cX4_reached 1 = .ok (.iload_n 1, 1) := by decide +kernel
theorem dX4_reached_2 : decode cX4_reached 2 = .ok (.invokevirtual 151, 3) := by decide +kernel
theorem dX4_reached_5 : decode cX4_reached 5 = .ok (.ifCond .ne 5, 3) := by decide +kernel
theorem dX4_reached_8 : decode cX4_reached 8 = .ok (.iconst (-1), 1) := by decide +kernel
theorem dX4_reached_9 : decode cX4_reached 9 = .ok (.ireturn, 1) := by decide +kernel
theorem dX4_reached_10 : decode cX4_reached 10 = .ok (.aload_n 0, 1) := by decide +kernel
theorem dX4_reached_11 : decode cX4_reached 11 = .ok (.getfield 7, 3) := by decide +kernel
theorem dX4_reached_14 : decode cX4_reached 14 = .ok (.bipush 10, 2) := by decide +kernel
theorem dX4_reached_16 : decode cX4_reached 16 = .ok (.iaload, 1) := by decide +kernel
theorem dX4_reached_17 : decode cX4_reached 17 = .ok (.istore_n 2, 1) := by decide +kernel
theorem dX4_reached_18 : decode cX4_reached 18 = .ok (.iconst 0, 1) := by decide +kernel
theorem dX4_reached_19 : decode cX4_reached 19 = .ok (.istore_n 3, 1) := by decide +kernel
theorem dX4_reached_20 : decode cX4_reached 20 = .ok (.iload_n 3, 1) := by decide +kernel
theorem dX4_reached_21 : decode cX4_reached 21 = .ok (.sipush 500, 3) := by decide +kernel
theorem dX4_reached_24 : decode cX4_reached 24 = .ok (.if_icmp .ge 28, 3) := by decide +kernel
theorem dX4_reached_27 : decode cX4_reached 27 = .ok (.aload_n 0, 1) := by decide +kernel
theorem dX4_reached_28 : decode cX4_reached 28 = .ok (.invokevirtual 88, 3) := by decide +kernel
theorem dX4_reached_31 : decode cX4_reached 31 = .ok (.iload_n 1, 1) := by decide +kernel
theorem dX4_reached_32 : decode cX4_reached 32 = .ok (.if_icmp .ge 20, 3) := by decide +kernel
theorem dX4_reached_35 : decode cX4_reached 35 = .ok (.aload_n 0, 1) := by decide +kernel
theorem dX4_reached_36 : decode cX4_reached 36 = .ok (.getfield 7, 3) := by decide +kernel
theorem dX4_reached_39 : decode cX4_reached 39 = .ok (.bipush 10, 2) := by decide +kernel
theorem dX4_reached_41 : decode cX4_reached 41 = .ok (.dup2, 1) := by decide +kernel
theorem dX4_reached_42 : decode cX4_reached 42 = .ok (.iaload, 1) := by decide +kernel
theorem dX4_reached_43 : decode cX4_reached 43 = .ok (.iconst 1, 1) := by decide +kernel
theorem dX4_reached_44 : decode cX4_reached 44 = .ok (.iadd, 1) := by decide +kernel
theorem dX4_reached_45 : decode cX4_reached 45 = .ok (.iastore, 1) := by decide +kernel
theorem dX4_reached_46 : decode cX4_reached 46 = .ok (.iinc 3 1, 3) := by decide +kernel
theorem dX4_reached_49 : decode cX4_reached 49 = .ok (.goto (-29), 3) := by decide +kernel
theorem dX4_reached_52 : decode cX4_reached 52 = .ok (.aload_n 0, 1) := by decide +kernel
theorem dX4_reached_53 : decode cX4_reached 53 = .ok (.invokevirtual 88, 3) := by decide +kernel
theorem dX4_reached_56 : decode cX4_reached 56 = .ok (.iload_n 1, 1) := by decide +kernel
theorem dX4_reached_57 : decode cX4_reached 57 = .ok (.if_icmp .lt 7, 3) := by decide +kernel
theorem dX4_reached_60 : decode cX4_reached 60 = .ok (.iconst 1, 1) := by decide +kernel
theorem dX4_reached_61 : decode cX4_reached 61 = .ok (.goto 4, 3) := by decide +kernel
theorem dX4_reached_64 : decode cX4_reached 64 = .ok (.iconst 0, 1) := by decide +kernel
theorem dX4_reached_65 : decode cX4_reached 65 = .ok (.istore 4, 2) := by decide +kernel
theorem dX4_reached_67 : decode cX4_reached 67 = .ok (.aload_n 0, 1) := by decide +kernel
theorem dX4_reached_68 : decode cX4_reached 68 = .ok (.getfield 7, 3) := by decide +kernel
theorem dX4_reached_71 : decode cX4_reached 71 = .ok (.bipush 10, 2) := by decide +kernel
theorem dX4_reached_73 : decode cX4_reached 73 = .ok (.iload_n 2, 1) := by decide +kernel
theorem dX4_reached_74 : decode cX4_reached 74 = .ok (.iastore, 1) := by decide +kernel
theorem dX4_reached_75 : decode cX4_reached 75 = .ok (.iload 4, 2) := by decide +kernel
theorem dX4_reached_77 : decode cX4_reached 77 = .ok (.ifCond .eq 7, 3) := by decide +kernel
theorem dX4_reached_80 : decode cX4_reached 80 = .ok (.iload_n 3, 1) := by decide +kernel
theorem dX4_reached_81 : decode cX4_reached 81 = .ok (.goto 5, 3) := by decide +kernel
theorem dX4_reached_84 : decode cX4_reached 84 = .ok (.bipush (-9), 2) := by decide +kernel
theorem dX4_reached_86 : decode cX4_reached 86 = .ok (.ireturn, 1) := by decide +kernel
set_option maxRecDepth 20000 in
theorem ggX4_rehearse_X4_isIn : GoodIn wsX4_rehearse wsX4_isIn := goodIn_r _ [6] (by decide +kernel) (by decide +kernel)
set_option maxRecDepth 20000 in
theorem gX4_rehearse_X4_isIn : GoodIn wsX4_rehearse (va_wsS RX4 57 yX4_isIn wsX4_isIn) := goodIn_app (goodIn_of _ (by decide +kernel)) ggX4_rehearse_X4_isIn
set_option maxRecDepth 20000 in
theorem ggX4_rehearse_X4_hold : GoodIn wsX4_rehearse wsX4_hold := goodIn_r _ [10, 1, 2, 81, 82, 83, 84, 85, 86, 87, 88, 89, 90, 91, 92, 93, 94, 95, 96, 97, 98, 99] (by decide +kernel) (by decide +kernel)
set_option maxRecDepth 20000 in
theorem gX4_rehearse_X4_hold : GoodIn wsX4_rehearse (wsV RX4 160 RX4 yX4_hold wsX4_hold) := goodIn_app (goodIn_of _ (by decide +kernel)) ggX4_rehearse_X4_hold
set_option maxRecDepth 20000 in
theorem ggX4_rehearse_X4_tickOnce : GoodIn wsX4_rehearse wsX4_tickOnce := goodIn_r _ [14, 2, 15, 16, 17, 18, 5, 19, 20, 21, 22, 23, 24, 25, 26, 27, 28, 29, 30, 31, 32, 33, 34, 35, 36, 37, 38, 39, 40, 81, 82, 83, 84, 85, 86, 87, 88, 89, 90, 91, 92, 93, 94, 95, 96, 97, 98, 99] (by decide +kernel) (by decide +kernel)
set_option maxRecDepth 20000 in
theorem gX4_rehearse_X4_tickOnce : GoodIn wsX4_rehearse (wsV RX4 145 RX4 yX4_tickOnce wsX4_tickOnce) := goodIn_app (goodIn_of _ (by decide +kernel)) ggX4_rehearse_X4_tickOnce
set_option maxRecDepth 20000 in
theorem ggX4_rehearse_X4_hearNow : GoodIn wsX4_rehearse wsX4_hearNow := goodIn_r _ [44, 2, 45, 46, 47, 5, 48, 3, 4, 6, 49, 50, 51, 52, 53, 54, 55, 56, 57, 58, 59, 60, 61, 62, 63, 64, 65, 66, 67, 68, 69, 70, 71, 72, 81, 82, 83, 84, 85, 86, 87, 88, 89, 90, 91, 92, 93, 94, 95, 96, 97, 98, 99] (by decide +kernel) (by decide +kernel)
set_option maxRecDepth 20000 in
theorem gX4_rehearse_X4_hearNow : GoodIn wsX4_rehearse (wsV RX4 142 RX4 yX4_hearNow wsX4_hearNow) := goodIn_app (goodIn_of _ (by decide +kernel)) ggX4_rehearse_X4_hearNow
set_option maxRecDepth 20000 in
theorem ggX4_rehearse_X4_nextCue : GoodIn wsX4_rehearse wsX4_nextCue := goodIn_r _ [27, 2, 81, 82, 83, 84, 85, 86, 87, 88, 89, 90, 91, 92, 93, 94, 95, 96, 97, 98, 99] (by decide +kernel) (by decide +kernel)
set_option maxRecDepth 20000 in
theorem gX4_rehearse_X4_nextCue : GoodIn wsX4_rehearse (wsV RX4 85 RX4 yX4_nextCue wsX4_nextCue) := goodIn_app (goodIn_of _ (by decide +kernel)) ggX4_rehearse_X4_nextCue
set_option maxRecDepth 20000 in
theorem ggX4_rehearse_X4_releaseNext : GoodIn wsX4_rehearse wsX4_releaseNext := goodIn_r _ [76, 2, 24, 25, 26, 5, 27, 81, 82, 83, 84, 85, 86, 87, 88, 89, 90, 91, 92, 93, 94, 95, 96, 97, 98, 99] (by decide +kernel) (by decide +kernel)
set_option maxRecDepth 20000 in
theorem gX4_rehearse_X4_releaseNext : GoodIn wsX4_rehearse (wsV RX4 148 RX4 yX4_releaseNext wsX4_releaseNext) := goodIn_app (goodIn_of _ (by decide +kernel)) ggX4_rehearse_X4_releaseNext
set_option maxRecDepth 20000 in
theorem ggX4_rehearse_X4_restore : GoodIn wsX4_rehearse wsX4_restore := goodIn_r _ [80, 2, 1, 81, 82, 83, 84, 85, 86, 87, 88, 89, 90, 91, 92, 93, 94, 95, 96, 97, 98, 99] (by decide +kernel) (by decide +kernel)
set_option maxRecDepth 20000 in
theorem gX4_rehearse_X4_restore : GoodIn wsX4_rehearse (wsV RX4 163 RX4 yX4_restore wsX4_restore) := goodIn_app (goodIn_of _ (by decide +kernel)) ggX4_rehearse_X4_restore
theorem dX4_rehearse_0 : decode cX4_rehearse 0 = .ok (.iload_n 1, 1) := by decide +kernel
theorem dX4_rehearse_1 : decode cX4_rehearse 1 = .ok (.iconst 1, 1) := by decide +kernel
theorem dX4_rehearse_2 : decode cX4_rehearse 2 = .ok (.bipush 10, 2) := by decide +kernel
theorem dX4_rehearse_4 : decode cX4_rehearse 4 = .ok (.invokestatic 57, 3) := by decide +kernel
theorem dX4_rehearse_7 : decode cX4_rehearse 7 = .ok (.ifCond .eq 12, 3) := by decide +kernel
theorem dX4_rehearse_10 : decode cX4_rehearse 10 = .ok (.iload_n 2, 1) := by decide +kernel
theorem dX4_rehearse_11 : decode cX4_rehearse 11 = .ok (.iconst 0, 1) := by decide +kernel
theorem dX4_rehearse_12 : decode cX4_rehearse 12 = .ok (.iconst 3, 1) := by decide +kernel
theorem dX4_rehearse_13 : decode cX4_rehearse 13 = .ok (.invokestatic 57, 3) := by decide +kernel
theorem dX4_rehearse_16 : decode cX4_rehearse 16 = .ok (.ifCond .ne 5, 3) := by decide +kernel
theorem dX4_rehearse_19 : decode cX4_rehearse 19 = .ok (.iconst (-1), 1) := by decide +kernel
theorem dX4_rehearse_20 : decode cX4_rehearse 20 = .ok (.ireturn, 1) := by decide +kernel
theorem dX4_rehearse_21 : decode cX4_rehearse 21 = .ok (.aload_n 0, 1) := by decide +kernel
theorem dX4_rehearse_22 : decode cX4_rehearse 22 = .ok (.invokevirtual 160, 3) := by decide +kernel
theorem dX4_rehearse_25 : decode cX4_rehearse 25 = .ok (.aload_n 0, 1) := by decide +kernel
theorem dX4_rehearse_26 : decode cX4_rehearse 26 = .ok (.getfield 41, 3) := by decide +kernel
theorem dX4_rehearse_29 : decode cX4_rehearse 29 = .ok (.bipush 11, 2) := by decide +kernel
theorem dX4_rehearse_31 : decode cX4_rehearse 31 = .ok (.iaload, 1) := by decide +kernel
theorem dX4_rehearse_32 : decode cX4_rehearse 32 = .ok (.istore_n 3, 1) := by decide +kernel
theorem dX4_rehearse_33 : decode cX4_rehearse 33 = .ok (.iload_n 3, 1) := by decide +kernel
theorem dX4_rehearse_34 : decode cX4_rehearse 34 = .ok (.aload_n 0, 1) := by decide +kernel
theorem dX4_rehearse_35 : decode cX4_rehearse 35 = .ok (.getfield 7, 3) := by decide +kernel
theorem dX4_rehearse_38 : decode cX4_rehearse 38 = .ok (.bipush 9, 2) := by decide +kernel
theorem dX4_rehearse_40 : decode cX4_rehearse 40 = .ok (.iaload, 1) := by decide +kernel
theorem dX4_rehearse_41 : decode cX4_rehearse 41 = .ok (.if_icmp .ge 58, 3) := by decide +kernel
theorem dX4_rehearse_44 : decode cX4_rehearse 44 = .ok (.iconst 0, 1) := by decide +kernel
theorem dX4_rehearse_45 : decode cX4_rehearse 45 = .ok (.istore 4, 2) := by decide +kernel
theorem dX4_rehearse_47 : decode cX4_rehearse 47 = .ok (.iload 4, 2) := by decide +kernel
theorem dX4_rehearse_49 : decode cX4_rehearse 49 = .ok (.iload_n 1, 1) := by decide +kernel
theorem dX4_rehearse_50 : decode cX4_rehearse 50 = .ok (.if_icmp .ge 13, 3) := by decide +kernel
theorem dX4_rehearse_53 : decode cX4_rehearse 53 = .ok (.aload_n 0, 1) := by decide +kernel
theorem dX4_rehearse_54 : decode cX4_rehearse 54 = .ok (.invokevirtual 145, 3) := by decide +kernel
theorem dX4_rehearse_57 : decode cX4_rehearse 57 = .ok (.iinc 4 1, 3) := by decide +kernel
theorem dX4_rehearse_60 : decode cX4_rehearse 60 = .ok (.goto (-13), 3) := by decide +kernel
theorem dX4_rehearse_63 : decode cX4_rehearse 63 = .ok (.aload_n 0, 1) := by decide +kernel
theorem dX4_rehearse_64 : decode cX4_rehearse 64 = .ok (.aload_n 0, 1) := by decide +kernel
theorem dX4_rehearse_65 : decode cX4_rehearse 65 = .ok (.getfield 7, 3) := by decide +kernel
theorem dX4_rehearse_68 : decode cX4_rehearse 68 = .ok (.sipush 150, 3) := by decide +kernel
theorem dX4_rehearse_71 : decode cX4_rehearse 71 = .ok (.iload_n 3, 1) := by decide +kernel
theorem dX4_rehearse_72 : decode cX4_rehearse 72 = .ok (.iadd, 1) := by decide +kernel
theorem dX4_rehearse_73 : decode cX4_rehearse 73 = .ok (.iaload, 1) := by decide +kernel
theorem dX4_rehearse_74 : decode cX4_rehearse 74 = .ok (.invokevirtual 142, 3) := by decide +kernel
theorem dX4_rehearse_77 : decode cX4_rehearse 77 = .ok (.istore 4, 2) := by decide +kernel
theorem dX4_rehearse_79 : decode cX4_rehearse 79 = .ok (.aload_n 0, 1) := by decide +kernel
theorem dX4_rehearse_80 : decode cX4_rehearse 80 = .ok (.invokevirtual 85, 3) := by decide +kernel
theorem dX4_rehearse_83 : decode cX4_rehearse 83 = .ok (.iload_n 3, 1) := by decide +kernel
theorem dX4_rehearse_84 : decode cX4_rehearse 84 = .ok (.if_icmp .ne 9, 3) := by decide +kernel
theorem dX4_rehearse_87 : decode cX4_rehearse 87 = .ok (.aload_n 0, 1) := by decide +kernel
theorem dX4_rehearse_88 : decode cX4_rehearse 88 = .ok (.invokevirtual 148, 3) := by decide +kernel
theorem dX4_rehearse_91 : decode cX4_rehearse 91 = .ok (.istore 5, 2) := by decide +kernel
theorem dX4_rehearse_93 : decode cX4_rehearse 93 = .ok (.iinc 3 1, 3) := by decide +kernel
theorem dX4_rehearse_96 : decode cX4_rehearse 96 = .ok (.goto (-63), 3) := by decide +kernel
theorem dX4_rehearse_99 : decode cX4_rehearse 99 = .ok (.aload_n 0, 1) := by decide +kernel
theorem dX4_rehearse_100 : decode cX4_rehearse 100 = .ok (.getfield 7, 3) := by decide +kernel
theorem dX4_rehearse_103 : decode cX4_rehearse 103 = .ok (.bipush 18, 2) := by decide +kernel
theorem dX4_rehearse_105 : decode cX4_rehearse 105 = .ok (.iaload, 1) := by decide +kernel
theorem dX4_rehearse_106 : decode cX4_rehearse 106 = .ok (.aload_n 0, 1) := by decide +kernel
theorem dX4_rehearse_107 : decode cX4_rehearse 107 = .ok (.getfield 41, 3) := by decide +kernel
theorem dX4_rehearse_110 : decode cX4_rehearse 110 = .ok (.bipush 18, 2) := by decide +kernel
theorem dX4_rehearse_112 : decode cX4_rehearse 112 = .ok (.iaload, 1) := by decide +kernel
theorem dX4_rehearse_113 : decode cX4_rehearse 113 = .ok (.isub, 1) := by decide +kernel
theorem dX4_rehearse_114 : decode cX4_rehearse 114 = .ok (.istore_n 3, 1) := by decide +kernel
theorem dX4_rehearse_115 : decode cX4_rehearse 115 = .ok (.aload_n 0, 1) := by decide +kernel
theorem dX4_rehearse_116 : decode cX4_rehearse 116 = .ok (.getfield 7, 3) := by decide +kernel
theorem dX4_rehearse_119 : decode cX4_rehearse 119 = .ok (.bipush 15, 2) := by decide +kernel
theorem dX4_rehearse_121 : decode cX4_rehearse 121 = .ok (.iaload, 1) := by decide +kernel
theorem dX4_rehearse_122 : decode cX4_rehearse 122 = .ok (.aload_n 0, 1) := by decide +kernel
theorem dX4_rehearse_123 : decode cX4_rehearse 123 = .ok (.getfield 41, 3) := by decide +kernel
theorem dX4_rehearse_126 : decode cX4_rehearse 126 = .ok (.bipush 15, 2) := by decide +kernel
theorem dX4_rehearse_128 : decode cX4_rehearse 128 = .ok (.iaload, 1) := by decide +kernel
theorem dX4_rehearse_129 : decode cX4_rehearse 129 = .ok (.isub, 1) := by decide +kernel
theorem dX4_rehearse_130 : decode cX4_rehearse 130 = .ok (.aload_n 0, 1) := by decide +kernel
theorem dX4_rehearse_131 : decode cX4_rehearse 131 = .ok (.getfield 7, 3) := by decide +kernel
theorem dX4_rehearse_134 : decode cX4_rehearse 134 = .ok (.bipush 16, 2) := by decide +kernel
theorem dX4_rehearse_136 : decode cX4_rehearse 136 = .ok (.iaload, 1) := by decide +kernel
theorem dX4_rehearse_137 : decode cX4_rehearse 137 = .ok (.iadd, 1) := by decide +kernel
theorem dX4_rehearse_138 : decode cX4_rehearse 138 = .ok (.aload_n 0, 1) := by decide +kernel
theorem dX4_rehearse_139 : decode cX4_rehearse 139 = .ok (.getfield 41, 3) := by decide +kernel
theorem dX4_rehearse_142 : decode cX4_rehearse 142 = .ok (.bipush 16, 2) := by decide +kernel
theorem dX4_rehearse_144 : decode cX4_rehearse 144 = .ok (.iaload, 1) := by decide +kernel
theorem dX4_rehearse_145 : decode cX4_rehearse 145 = .ok (.isub, 1) := by decide +kernel
theorem dX4_rehearse_146 : decode cX4_rehearse 146 = .ok (.istore 4, 2) := by decide +kernel
theorem dX4_rehearse_148 : decode cX4_rehearse 148 = .ok (.aload_n 0, 1) := by decide +kernel
theorem dX4_rehearse_149 : decode cX4_rehearse 149 = .ok (.getfield 7, 3) := by decide +kernel
theorem dX4_rehearse_152 : decode cX4_rehearse 152 = .ok (.bipush 17, 2) := by decide +kernel
theorem dX4_rehearse_154 : decode cX4_rehearse 154 = .ok (.iaload, 1) := by decide +kernel
theorem dX4_rehearse_155 : decode cX4_rehearse 155 = .ok (.aload_n 0, 1) := by decide +kernel
theorem dX4_rehearse_156 : decode cX4_rehearse 156 = .ok (.getfield 41, 3) := by decide +kernel
theorem dX4_rehearse_159 : decode cX4_rehearse 159 = .ok (.bipush 17, 2) := by decide +kernel
theorem dX4_rehearse_161 : decode cX4_rehearse 161 = .ok (.iaload, 1) := by decide +kernel
theorem dX4_rehearse_162 : decode cX4_rehearse 162 = .ok (.isub, 1) := by decide +kernel
theorem dX4_rehearse_163 : decode cX4_rehearse 163 = .ok (.istore 5, 2) := by decide +kernel
theorem dX4_rehearse_165 : decode cX4_rehearse 165 = .ok (.aload_n 0, 1) := by decide +kernel
theorem dX4_rehearse_166 : decode cX4_rehearse 166 = .ok (.getfield 7, 3) := by decide +kernel
theorem dX4_rehearse_169 : decode cX4_rehearse 169 = .ok (.bipush 11, 2) := by decide +kernel
theorem dX4_rehearse_171 : decode cX4_rehearse 171 = .ok (.iaload, 1) := by decide +kernel
theorem dX4_rehearse_172 : decode cX4_rehearse 172 = .ok (.istore 6, 2) := by decide +kernel
theorem dX4_rehearse_174 : decode cX4_rehearse 174 = .ok (.aload_n 0, 1) := by decide +kernel
theorem dX4_rehearse_175 : decode cX4_rehearse 175 = .ok (.invokevirtual 163, 3) := by decide +kernel
theorem dX4_rehearse_178 : decode cX4_rehearse 178 = .ok (.iload_n 2, 1) := by decide +kernel
theorem dX4_rehearse_179 : decode cX4_rehearse 179 = .ok (.ifCond .ne 7, 3) := by decide +kernel
theorem dX4_rehearse_182 : decode cX4_rehearse 182 = .ok (.iload_n 3, 1) := by decide +kernel
theorem dX4_rehearse_183 : decode cX4_rehearse 183 = .ok (.goto 25, 3) := by decide +kernel
theorem dX4_rehearse_186 : decode cX4_rehearse 186 = .ok (.iload_n 2, 1) := by decide +kernel
theorem dX4_rehearse_187 : decode cX4_rehearse 187 = .ok (.iconst 1, 1) := by decide +kernel
theorem dX4_rehearse_188 : decode cX4_rehearse 188 = .ok (.if_icmp .ne 8, 3) := by decide +kernel
theorem dX4_rehearse_191 : decode cX4_rehearse 191 = .ok (.iload 4, 2) := by decide +kernel
theorem dX4_rehearse_193 : decode cX4_rehearse 193 = .ok (.goto 15, 3) := by decide +kernel
theorem dX4_rehearse_196 : decode cX4_rehearse 196 = .ok (.iload_n 2, 1) := by decide +kernel
theorem dX4_rehearse_197 : decode cX4_rehearse 197 = .ok (.iconst 2, 1) := by decide +kernel
theorem dX4_rehearse_198 : decode cX4_rehearse 198 = .ok (.if_icmp .ne 8, 3) := by decide +kernel
theorem dX4_rehearse_201 : decode cX4_rehearse 201 = .ok (.iload 5, 2) := by decide +kernel
theorem dX4_rehearse_203 : decode cX4_rehearse 203 = .ok (.goto 5, 3) := by decide +kernel
theorem dX4_rehearse_206 : decode cX4_rehearse 206 = .ok (.iload 6, 2) := by decide +kernel
theorem dX4_rehearse_208 : decode cX4_rehearse 208 = .ok (.ireturn, 1) := by decide +kernel
set_option maxRecDepth 20000 in
theorem ggX4_isImage_X4_isIn : GoodIn wsX4_isImage wsX4_isIn := goodIn_r _ [4] (by decide +kernel) (by decide +kernel)
set_option maxRecDepth 20000 in
theorem gX4_isImage_X4_isIn : GoodIn wsX4_isImage (va_wsS RX4 57 yX4_isIn wsX4_isIn) := goodIn_app (goodIn_of _ (by decide +kernel)) ggX4_isImage_X4_isIn
theorem dX4_isImage_0 : decode cX4_isImage 0 = .ok (.iload_n 0, 1) := by decide +kernel
theorem dX4_isImage_1 : decode cX4_isImage 1 = .ok (.iconst 0, 1) := by decide +kernel
theorem dX4_isImage_2 : decode cX4_isImage 2 = .ok (.iconst 1, 1) := by decide +kernel
theorem dX4_isImage_3 : decode cX4_isImage 3 = .ok (.invokestatic 57, 3) := by decide +kernel
theorem dX4_isImage_6 : decode cX4_isImage 6 = .ok (.ireturn, 1) := by decide +kernel
set_option maxRecDepth 20000 in
theorem ggX4_keep_X4_isImage : GoodIn wsX4_keep wsX4_isImage := goodIn_r _ [7, 8, 9, 6, 10] (by decide +kernel) (by decide +kernel)
set_option maxRecDepth 20000 in
theorem gX4_keep_X4_isImage : GoodIn wsX4_keep (va_wsS RX4 166 yX4_isImage wsX4_isImage) := goodIn_app (goodIn_of _ (by decide +kernel)) ggX4_keep_X4_isImage
theorem dX4_keep_0 : decode cX4_keep 0 = .ok (.iload_n 1, 1) := by decide +kernel
theorem dX4_keep_1 : decode cX4_keep 1 = .ok (.invokestatic 166, 3) := by decide +kernel
theorem dX4_keep_4 : decode cX4_keep 4 = .ok (.ifCond .ne 5, 3) := by decide +kernel
theorem dX4_keep_7 : decode cX4_keep 7 = .ok (.iconst (-1), 1) := by decide +kernel
theorem dX4_keep_8 : decode cX4_keep 8 = .ok (.ireturn, 1) := by decide +kernel
theorem dX4_keep_9 : decode cX4_keep 9 = .ok (.iconst 0, 1) := by decide +kernel
theorem dX4_keep_10 : decode cX4_keep 10 = .ok (.istore_n 2, 1) := by decide +kernel
theorem dX4_keep_11 : decode cX4_keep 11 = .ok (.iload_n 2, 1) := by decide +kernel
theorem dX4_keep_12 : decode cX4_keep 12 = .ok (.sipush 510, 3) := by decide +kernel
theorem dX4_keep_15 : decode cX4_keep 15 = .ok (.if_icmp .ge 27, 3) := by decide +kernel
theorem dX4_keep_18 : decode cX4_keep 18 = .ok (.aload_n 0, 1) := by decide +kernel
theorem dX4_keep_19 : decode cX4_keep 19 = .ok (.getfield 16, 3) := by decide +kernel
theorem dX4_keep_22 : decode cX4_keep 22 = .ok (.sipush 510, 3) := by decide +kernel
theorem dX4_keep_25 : decode cX4_keep 25 = .ok (.iload_n 1, 1) := by decide +kernel
theorem dX4_keep_26 : decode cX4_keep 26 = .ok (.imul, 1) := by decide +kernel
theorem dX4_keep_27 : decode cX4_keep 27 = .ok (.iload_n 2, 1) := by decide +kernel
theorem dX4_keep_28 : decode cX4_keep 28 = .ok (.iadd, 1) := by decide +kernel
theorem dX4_keep_29 : decode cX4_keep 29 = .ok (.aload_n 0, 1) := by decide +kernel
theorem dX4_keep_30 : decode cX4_keep 30 = .ok (.getfield 7, 3) := by decide +kernel
theorem dX4_keep_33 : decode cX4_keep 33 = .ok (.iload_n 2, 1) := by decide +kernel
theorem dX4_keep_34 : decode cX4_keep 34 = .ok (.iaload, 1) := by decide +kernel
theorem dX4_keep_35 : decode cX4_keep 35 = .ok (.iastore, 1) := by decide +kernel
theorem dX4_keep_36 : decode cX4_keep 36 = .ok (.iinc 2 1, 3) := by decide +kernel
theorem dX4_keep_39 : decode cX4_keep 39 = .ok (.goto (-28), 3) := by decide +kernel
theorem dX4_keep_42 : decode cX4_keep 42 = .ok (.aload_n 0, 1) := by decide +kernel
theorem dX4_keep_43 : decode cX4_keep 43 = .ok (.dup, 1) := by decide +kernel
theorem dX4_keep_44 : decode cX4_keep 44 = .ok (.getfield 169, 3) := by decide +kernel
theorem dX4_keep_47 : decode cX4_keep 47 = .ok (.iconst 1, 1) := by decide +kernel
theorem dX4_keep_48 : decode cX4_keep 48 = .ok (.iload_n 1, 1) := by decide +kernel
theorem dX4_keep_49 : decode cX4_keep 49 = .ok (.ishl, 1) := by decide +kernel
theorem dX4_keep_50 : decode cX4_keep 50 = .ok (.ior, 1) := by decide +kernel
theorem dX4_keep_51 : decode cX4_keep 51 = .ok (.putfield 169, 3) := by decide +kernel
theorem dX4_keep_54 : decode cX4_keep 54 = .ok (.aload_n 0, 1) := by decide +kernel
theorem dX4_keep_55 : decode cX4_keep 55 = .ok (.getfield 7, 3) := by decide +kernel
theorem dX4_keep_58 : decode cX4_keep 58 = .ok (.bipush 11, 2) := by decide +kernel
theorem dX4_keep_60 : decode cX4_keep 60 = .ok (.iaload, 1) := by decide +kernel
theorem dX4_keep_61 : decode cX4_keep 61 = .ok (.ireturn, 1) := by decide +kernel
set_option maxRecDepth 20000 in
theorem ggX4_back_X4_isImage : GoodIn wsX4_back wsX4_isImage := goodIn_r _ [7, 8, 9, 6, 10] (by decide +kernel) (by decide +kernel)
set_option maxRecDepth 20000 in
theorem gX4_back_X4_isImage : GoodIn wsX4_back (va_wsS RX4 166 yX4_isImage wsX4_isImage) := goodIn_app (goodIn_of _ (by decide +kernel)) ggX4_back_X4_isImage
set_option maxRecDepth 20000 in
theorem ggX4_back_X4_remember : GoodIn wsX4_back wsX4_remember := goodIn_r _ [14, 15, 16, 2, 23, 24, 25, 26, 27, 28, 29, 30, 31, 32, 33, 34, 35, 36, 37, 38, 39, 40, 41] (by decide +kernel) (by decide +kernel)
set_option maxRecDepth 20000 in
theorem gX4_back_X4_remember : GoodIn wsX4_back (wsV RX4 135 RX4 yX4_remember wsX4_remember) := goodIn_app (goodIn_of _ (by decide +kernel)) ggX4_back_X4_remember
set_option maxRecDepth 20000 in
theorem ggX4_back_X4_layRows : GoodIn wsX4_back wsX4_layRows := goodIn_r _ [20, 21, 2, 22, 23, 24, 25, 26, 27, 28, 29, 30, 31, 32, 33, 34, 35, 36, 37, 38, 39, 40, 41] (by decide +kernel) (by decide +kernel)
set_option maxRecDepth 20000 in
theorem gX4_back_X4_layRows : GoodIn wsX4_back (wsV RX4 44 RX4 yX4_layRows wsX4_layRows) := goodIn_app (goodIn_of _ (by decide +kernel)) ggX4_back_X4_layRows
theorem dX4_back_0 : decode cX4_back 0 = .ok (.iload_n 1, 1) := by decide +kernel
theorem dX4_back_1 : decode cX4_back 1 = .ok (.invokestatic 166, 3) := by decide +kernel
theorem dX4_back_4 : decode cX4_back 4 = .ok (.ifCond .ne 5, 3) := by decide +kernel
theorem dX4_back_7 : decode cX4_back 7 = .ok (.iconst (-1), 1) := by decide +kernel
theorem dX4_back_8 : decode cX4_back 8 = .ok (.ireturn, 1) := by decide +kernel
theorem dX4_back_9 : decode cX4_back 9 = .ok (.aload_n 0, 1) := by decide +kernel
theorem dX4_back_10 : decode cX4_back 10 = .ok (.getfield 169, 3) := by decide +kernel
theorem dX4_back_13 : decode cX4_back 13 = .ok (.iload_n 1, 1) := by decide +kernel
theorem dX4_back_14 : decode cX4_back 14 = .ok (.ishr, 1) := by decide +kernel
theorem dX4_back_15 : decode cX4_back 15 = .ok (.iconst 1, 1) := by decide +kernel
theorem dX4_back_16 : decode cX4_back 16 = .ok (.iand, 1) := by decide +kernel
theorem dX4_back_17 : decode cX4_back 17 = .ok (.ifCond .ne 6, 3) := by decide +kernel
theorem dX4_back_20 : decode cX4_back 20 = .ok (.bipush (-2), 2) := by decide +kernel
theorem dX4_back_22 : decode cX4_back 22 = .ok (.ireturn, 1) := by decide +kernel
theorem dX4_back_23 : decode cX4_back 23 = .ok (.aload_n 0, 1) := by decide +kernel
theorem dX4_back_24 : decode cX4_back 24 = .ok (.invokevirtual 135, 3) := by decide +kernel
theorem dX4_back_27 : decode cX4_back 27 = .ok (.iconst 0, 1) := by decide +kernel
theorem dX4_back_28 : decode cX4_back 28 = .ok (.istore_n 2, 1) := by decide +kernel
theorem dX4_back_29 : decode cX4_back 29 = .ok (.iload_n 2, 1) := by decide +kernel
theorem dX4_back_30 : decode cX4_back 30 = .ok (.sipush 510, 3) := by decide +kernel
theorem dX4_back_33 : decode cX4_back 33 = .ok (.if_icmp .ge 27, 3) := by decide +kernel
theorem dX4_back_36 : decode cX4_back 36 = .ok (.aload_n 0, 1) := by decide +kernel
theorem dX4_back_37 : decode cX4_back 37 = .ok (.getfield 7, 3) := by decide +kernel
theorem dX4_back_40 : decode cX4_back 40 = .ok (.iload_n 2, 1) := by decide +kernel
theorem dX4_back_41 : decode cX4_back 41 = .ok (.aload_n 0, 1) := by decide +kernel
theorem dX4_back_42 : decode cX4_back 42 = .ok (.getfield 16, 3) := by decide +kernel
theorem dX4_back_45 : decode cX4_back 45 = .ok (.sipush 510, 3) := by decide +kernel
theorem dX4_back_48 : decode cX4_back 48 = .ok (.iload_n 1, 1) := by decide +kernel
theorem dX4_back_49 : decode cX4_back 49 = .ok (.imul, 1) := by decide +kernel
theorem dX4_back_50 : decode cX4_back 50 = .ok (.iload_n 2, 1) := by decide +kernel
theorem dX4_back_51 : decode cX4_back 51 = .ok (.iadd, 1) := by decide +kernel
theorem dX4_back_52 : decode cX4_back 52 = .ok (.iaload, 1) := by decide +kernel
theorem dX4_back_53 : decode cX4_back 53 = .ok (.iastore, 1) := by decide +kernel
theorem dX4_back_54 : decode cX4_back 54 = .ok (.iinc 2 1, 3) := by decide +kernel
theorem dX4_back_57 : decode cX4_back 57 = .ok (.goto (-28), 3) := by decide +kernel
theorem dX4_back_60 : decode cX4_back 60 = .ok (.aload_n 0, 1) := by decide +kernel
theorem dX4_back_61 : decode cX4_back 61 = .ok (.invokevirtual 44, 3) := by decide +kernel
theorem dX4_back_64 : decode cX4_back 64 = .ok (.aload_n 0, 1) := by decide +kernel
theorem dX4_back_65 : decode cX4_back 65 = .ok (.getfield 7, 3) := by decide +kernel
theorem dX4_back_68 : decode cX4_back 68 = .ok (.bipush 11, 2) := by decide +kernel
theorem dX4_back_70 : decode cX4_back 70 = .ok (.iaload, 1) := by decide +kernel
theorem dX4_back_71 : decode cX4_back 71 = .ok (.ireturn, 1) := by decide +kernel
theorem dJ9_abs_0f7a4_0 : decode cJ9_abs_0f7a4 0 = .ok (.iload_n 0, 1) := by decide +kernel
theorem dJ9_abs_0f7a4_1 : decode cJ9_abs_0f7a4 1 = .ok (.ifCond .ge 8, 3) := by decide +kernel
theorem dJ9_abs_0f7a4_4 : decode cJ9_abs_0f7a4 4 = .ok (.iload_n 0, 1) := by decide +kernel
theorem dJ9_abs_0f7a4_5 : decode cJ9_abs_0f7a4 5 = .ok (.ineg, 1) := by decide +kernel
theorem dJ9_abs_0f7a4_6 : decode cJ9_abs_0f7a4 6 = .ok (.goto 4, 3) := by decide +kernel
theorem dJ9_abs_0f7a4_9 : decode cJ9_abs_0f7a4 9 = .ok (.iload_n 0, 1) := by decide +kernel
theorem dJ9_abs_0f7a4_10 : decode cJ9_abs_0f7a4 10 = .ok (.ireturn, 1) := by decide +kernel
theorem dJ9_max_7cf53_0 : decode cJ9_max_7cf53 0 = .ok (.iload_n 0, 1) := by decide +kernel
theorem dJ9_max_7cf53_1 : decode cJ9_max_7cf53 1 = .ok (.iload_n 1, 1) := by decide +kernel
theorem dJ9_max_7cf53_2 : decode cJ9_max_7cf53 2 = .ok (.if_icmp .lt 7, 3) := by decide +kernel
theorem dJ9_max_7cf53_5 : decode cJ9_max_7cf53 5 = .ok (.iload_n 0, 1) := by decide +kernel
theorem dJ9_max_7cf53_6 : decode cJ9_max_7cf53 6 = .ok (.goto 4, 3) := by decide +kernel
theorem dJ9_max_7cf53_9 : decode cJ9_max_7cf53 9 = .ok (.iload_n 1, 1) := by decide +kernel
theorem dJ9_max_7cf53_10 : decode cJ9_max_7cf53 10 = .ok (.ireturn, 1) := by decide +kernel
theorem dJ9_max_f86c9_0 : decode cJ9_max_f86c9 0 = .ok (.lload_n 0, 1) := by decide +kernel
theorem dJ9_max_f86c9_1 : decode cJ9_max_f86c9 1 = .ok (.lload_n 2, 1) := by decide +kernel
theorem dJ9_max_f86c9_2 : decode cJ9_max_f86c9 2 = .ok (.lcmp, 1) := by decide +kernel
theorem dJ9_max_f86c9_3 : decode cJ9_max_f86c9 3 = .ok (.ifCond .lt 7, 3) := by decide +kernel
theorem dJ9_max_f86c9_6 : decode cJ9_max_f86c9 6 = .ok (.lload_n 0, 1) := by decide +kernel
theorem dJ9_max_f86c9_7 : decode cJ9_max_f86c9 7 = .ok (.goto 4, 3) := by decide +kernel
theorem dJ9_max_f86c9_10 : decode cJ9_max_f86c9 10 = .ok (.lload_n 2, 1) := by decide +kernel
theorem dJ9_max_f86c9_11 : decode cJ9_max_f86c9 11 = .ok (.lreturn, 1) := by decide +kernel
theorem dJ9_min_7cf53_0 : decode cJ9_min_7cf53 0 = .ok (.iload_n 0, 1) := by decide +kernel
theorem dJ9_min_7cf53_1 : decode cJ9_min_7cf53 1 = .ok (.iload_n 1, 1) := by decide +kernel
theorem dJ9_min_7cf53_2 : decode cJ9_min_7cf53 2 = .ok (.if_icmp .gt 7, 3) := by decide +kernel
theorem dJ9_min_7cf53_5 : decode cJ9_min_7cf53 5 = .ok (.iload_n 0, 1) := by decide +kernel
theorem dJ9_min_7cf53_6 : decode cJ9_min_7cf53 6 = .ok (.goto 4, 3) := by decide +kernel
theorem dJ9_min_7cf53_9 : decode cJ9_min_7cf53 9 = .ok (.iload_n 1, 1) := by decide +kernel
theorem dJ9_min_7cf53_10 : decode cJ9_min_7cf53 10 = .ok (.ireturn, 1) := by decide +kernel
theorem dJ9_min_f86c9_0 : decode cJ9_min_f86c9 0 = .ok (.lload_n 0, 1) := by decide +kernel
theorem dJ9_min_f86c9_1 : decode cJ9_min_f86c9 1 = .ok (.lload_n 2, 1) := by decide +kernel
theorem dJ9_min_f86c9_2 : decode cJ9_min_f86c9 2 = .ok (.lcmp, 1) := by decide +kernel
theorem dJ9_min_f86c9_3 : decode cJ9_min_f86c9 3 = .ok (.ifCond .gt 7, 3) := by decide +kernel
theorem dJ9_min_f86c9_6 : decode cJ9_min_f86c9 6 = .ok (.lload_n 0, 1) := by decide +kernel
theorem dJ9_min_f86c9_7 : decode cJ9_min_f86c9 7 = .ok (.goto 4, 3) := by decide +kernel
theorem dJ9_min_f86c9_10 : decode cJ9_min_f86c9 10 = .ok (.lload_n 2, 1) := by decide +kernel
theorem dJ9_min_f86c9_11 : decode cJ9_min_f86c9 11 = .ok (.lreturn, 1) := by decide +kernel
end
section
/-! what the walks stand on: numbers of turns, rows over places that are written in the code, the worlds of a contract -/
def gas : Nat := 6000
theorem noneE {α : Type} {r : α} {P : Prop} (h : (none : Option α) = some r) : P := by cases h
theorem bindE {α β : Type} {o : Option α} {k : α → Option β} {r : β} (h : o.bind k = some r) : ∃ q, o = some q ∧ k q = some r := by
  cases o with
  | none => cases h
  | some q => exact ⟨q, rfl, h⟩
theorem inK {i : Int32} {n : Nat} (h : (decide (i < 0) || Nat.ble n i.toNatClampNeg) = false) : vp_in i n := by
  intro q
  rcases q with q | q
  · simp [q] at h
  · rw [Nat.ble_eq.mpr q] at h; simp at h
section KLD
variable {p : Program} {l : Launch} {e : Env} {R : Room} {s : State} {m : MethodId} {args : Array Value} {below : List Frame} {meth : Method} {c : Code} {H : Heap} {locs : List Loc} {cells slots : Nat} {Q : State → Prop}
variable {cc : ByteArray} {pc : Nat} {ls : Array Slot} {rest : List Value} {D : va_G} {cl : List vw_C} {A : Nat → Prop} {a : Nat} {tys : List (ClassId × FieldType)} {ws : va_W} {H0 : Heap}
theorem va_ialdK (hexec : p.tables.exec = Jvm.exec) (hb : c.code = cc) (hK : va_K D cl tys s) (hP : va_P D cl ws H) (q0 t0 : Nat) {cA : ClassId} {n : Nat} {f : Nat → Int32} (ha : ws[q0]? = some (a, .inl (cA, n, .inl f))) (ht : tys[t0]? = some (cA, .int)) {i : Int32} (hin : vp_in i n) {j : Nat} (hj : i.toNatClampNeg = j) (hdg : decode cc pc = .ok (.iaload, 1))
    (kk : W p l e R s m args below meth c H locs cells slots Q (F0 m (pc + 1) ls (.int (f j) :: rest))) : W p l e R s m args below meth c H locs cells slots Q (F0 m pc ls (.int i :: .ref a :: rest)) := by
  subst hj
  exact va_iald hexec hb hK hP q0 t0 ha ht hin hdg kk
theorem va_iastK (hexec : p.tables.exec = Jvm.exec) (hb : c.code = cc) (hK : va_K D cl tys s) (hP : va_P D cl ws H) (hD : va_D A ws) (hS : va_S A H0 H locs) (q0 t0 : Nat) {cA : ClassId} {n : Nat} {f : Nat → Int32} (ha : ws[q0]? = some (a, .inl (cA, n, .inl f))) (ht : tys[t0]? = some (cA, .int)) {i : Int32} {x : Int32} (hin : vp_in i n) {j : Nat} (hj : i.toNatClampNeg = j) (hdg : decode cc pc = .ok (.iastore, 1))
    (kk : ∀ (H1 : Heap) (locs1 : List Loc), va_P D cl (ws.set q0 (a, .inl (cA, n, .inl (upd f j x)))) H1 → va_D A (ws.set q0 (a, .inl (cA, n, .inl (upd f j x)))) → va_S A H0 H1 locs1 → W p l e R s m args below meth c H1 locs1 cells slots Q (F0 m (pc + 1) ls rest)) : W p l e R s m args below meth c H locs cells slots Q (F0 m pc ls (.int x :: .int i :: .ref a :: rest)) := by
  subst hj
  exact va_iast hexec hb hK hP hD hS q0 t0 ha ht hin hdg kk
end KLD
theorem nbK {v : Int32} (h : v &&& 1 = v) : narrow .boolean (.int v) = .int v := by
  simp [narrow, h]
theorem cp1 {n : Int32} {a b : Nat} (h : ¬ (n < 0 ∨ a < n.toNatClampNeg ∨ b < n.toNatClampNeg)) : ¬ n < 0 := fun q => h (Or.inl q)
theorem cp2 {n : Int32} {a b : Nat} (h : ¬ (n < 0 ∨ a < n.toNatClampNeg ∨ b < n.toNatClampNeg)) : (0 : Int32).toNatClampNeg + n.toNatClampNeg ≤ a := by
  have : (0 : Int32).toNatClampNeg = 0 := by decide
  omega
theorem cp3 {n : Int32} {a b : Nat} (h : ¬ (n < 0 ∨ a < n.toNatClampNeg ∨ b < n.toNatClampNeg)) : (0 : Int32).toNatClampNeg + n.toNatClampNeg ≤ b := by
  have : (0 : Int32).toNatClampNeg = 0 := by decide
  omega
theorem tsOut {x : Int32} {lo hi : Int} (h1 : -2147483648 ≤ lo) (h2 : hi ≤ 2147483647) (h : ∀ k : Int, lo ≤ k → k ≤ hi → ¬ x = Int32.ofInt k) : x.toInt < lo ∨ hi < x.toInt := by
  by_cases a : x.toInt < lo
  · exact Or.inl a
  · by_cases b : hi < x.toInt
    · exact Or.inr b
    · exact absurd (Int32.ofInt_toInt x).symm (h x.toInt (by omega) (by omega))
abbrev tyA (cI cZ cO : ClassId) : List (ClassId × FieldType) := [(cI, .int), (cZ, .boolean), (cO, .object "Teleprompter$State")]
def NW (U : State) : Prop := va_Nw (.methodLinkNest RX0 40 yX3_copyRow RX3) U ∧ va_Nw (.methodLinkNest RX0 44 yX3_isLetter RX3) U ∧ va_Nw (.methodLinkNest RX0 59 yX3_put RX3) U ∧ va_Nw (.methodLinkNest RX0 63 yX3_at RX3) U ∧ va_Nw (.methodLinkNest RX1 17 yX0_init RX3) U ∧ va_Nw (.methodLinkNest RX1 24 yX2_init RX3) U ∧ va_Nw (.methodLinkNest RX1 32 yX3_copyRow RX3) U ∧ va_Nw (.methodLinkNest RX1 77 yX3_at RX3) U ∧ va_Nw (.methodLinkNest RX1 88 yX3_put RX3) U ∧ va_Nw (.methodLinkNest RX1 96 yX3_limited RX3) U ∧ va_Nw (.methodLinkNest RX2 22 yX3_copyRow RX3) U ∧ va_Nw (.methodLinkNest RX2 26 yX3_at RX3) U ∧ va_Nw (.methodLinkNest RX2 30 yX3_put RX3) U ∧ va_Nw (.methodLinkNest RX3 15 yX0_init RX3) U ∧ va_Nw (.methodLinkNest RX3 22 yX1_init RX3) U ∧ True
theorem NW_X0_40 {U : State} (h : NW U) : va_Nw (.methodLinkNest RX0 40 yX3_copyRow RX3) U := h.1
theorem NW_X0_44 {U : State} (h : NW U) : va_Nw (.methodLinkNest RX0 44 yX3_isLetter RX3) U := h.2.1
theorem NW_X0_59 {U : State} (h : NW U) : va_Nw (.methodLinkNest RX0 59 yX3_put RX3) U := h.2.2.1
theorem NW_X0_63 {U : State} (h : NW U) : va_Nw (.methodLinkNest RX0 63 yX3_at RX3) U := h.2.2.2.1
theorem NW_X1_17 {U : State} (h : NW U) : va_Nw (.methodLinkNest RX1 17 yX0_init RX3) U := h.2.2.2.2.1
theorem NW_X1_24 {U : State} (h : NW U) : va_Nw (.methodLinkNest RX1 24 yX2_init RX3) U := h.2.2.2.2.2.1
theorem NW_X1_32 {U : State} (h : NW U) : va_Nw (.methodLinkNest RX1 32 yX3_copyRow RX3) U := h.2.2.2.2.2.2.1
theorem NW_X1_77 {U : State} (h : NW U) : va_Nw (.methodLinkNest RX1 77 yX3_at RX3) U := h.2.2.2.2.2.2.2.1
theorem NW_X1_88 {U : State} (h : NW U) : va_Nw (.methodLinkNest RX1 88 yX3_put RX3) U := h.2.2.2.2.2.2.2.2.1
theorem NW_X1_96 {U : State} (h : NW U) : va_Nw (.methodLinkNest RX1 96 yX3_limited RX3) U := h.2.2.2.2.2.2.2.2.2.1
theorem NW_X2_22 {U : State} (h : NW U) : va_Nw (.methodLinkNest RX2 22 yX3_copyRow RX3) U := h.2.2.2.2.2.2.2.2.2.2.1
theorem NW_X2_26 {U : State} (h : NW U) : va_Nw (.methodLinkNest RX2 26 yX3_at RX3) U := h.2.2.2.2.2.2.2.2.2.2.2.1
theorem NW_X2_30 {U : State} (h : NW U) : va_Nw (.methodLinkNest RX2 30 yX3_put RX3) U := h.2.2.2.2.2.2.2.2.2.2.2.2.1
theorem NW_X3_15 {U : State} (h : NW U) : va_Nw (.methodLinkNest RX3 15 yX0_init RX3) U := h.2.2.2.2.2.2.2.2.2.2.2.2.2.1
theorem NW_X3_22 {U : State} (h : NW U) : va_Nw (.methodLinkNest RX3 22 yX1_init RX3) U := h.2.2.2.2.2.2.2.2.2.2.2.2.2.2.1
theorem NW.warm {s U : State} (hW : s.WarmedH U.vm) (h : NW s) : NW U := ⟨va_Nw.warmM hW (NW_X0_40 h), va_Nw.warmM hW (NW_X0_44 h), va_Nw.warmM hW (NW_X0_59 h), va_Nw.warmM hW (NW_X0_63 h), va_Nw.warmM hW (NW_X1_17 h), va_Nw.warmM hW (NW_X1_24 h), va_Nw.warmM hW (NW_X1_32 h), va_Nw.warmM hW (NW_X1_77 h), va_Nw.warmM hW (NW_X1_88 h), va_Nw.warmM hW (NW_X1_96 h), va_Nw.warmM hW (NW_X2_22 h), va_Nw.warmM hW (NW_X2_26 h), va_Nw.warmM hW (NW_X2_30 h), va_Nw.warmM hW (NW_X3_15 h), va_Nw.warmM hW (NW_X3_22 h), trivial⟩
theorem NW.same {u U : State} (e : u.vm = U.vm) (h : NW u) : NW U := ⟨va_Nw.same rfl e (NW_X0_40 h), va_Nw.same rfl e (NW_X0_44 h), va_Nw.same rfl e (NW_X0_59 h), va_Nw.same rfl e (NW_X0_63 h), va_Nw.same rfl e (NW_X1_17 h), va_Nw.same rfl e (NW_X1_24 h), va_Nw.same rfl e (NW_X1_32 h), va_Nw.same rfl e (NW_X1_77 h), va_Nw.same rfl e (NW_X1_88 h), va_Nw.same rfl e (NW_X1_96 h), va_Nw.same rfl e (NW_X2_22 h), va_Nw.same rfl e (NW_X2_26 h), va_Nw.same rfl e (NW_X2_30 h), va_Nw.same rfl e (NW_X3_15 h), va_Nw.same rfl e (NW_X3_22 h), trivial⟩
def rdW (dC : Nat → ClassId) (dI : Nat → Nat → Nat) (cI cZ cO : ClassId) (ws : va_W) (U : State) : Prop := va_P (dC, dI) vwCl ws U.heap ∧ va_K (dC, dI) vwCl (tyA cI cZ cO) U ∧ NW U
def wrW (dC : Nat → ClassId) (dI : Nat → Nat → Nat) (cI cZ cO : ClassId) (sz : Nat) (ws : va_W) (U : State) : Prop := U.heap.size = sz ∧ va_P (dC, dI) vwCl ws U.heap ∧ va_K (dC, dI) vwCl (tyA cI cZ cO) U ∧ NW U ∧ va_D (fun _ => True) ws
/-- the world behind a method that writes -/
def wrE (dC : Nat → ClassId) (dI : Nat → Nat → Nat) (ws : va_W) (sz : Nat) (ws1 : va_W) (_ : Unit) (t : State) : Prop := va_P (dC, dI) vwCl ws1 t.heap ∧ va_D (va_A ws sz) ws1
theorem fb_rd {dC : Nat → ClassId} {dI : Nat → Nat → Nat} {cI cZ cO : ClassId} {ws : va_W} {av : List Value} : FrameBlind (va_Pc av (rdW dC dI cI cZ cO ws)) := fun a U g mk q => by
  obtain ⟨q0, qP, qK, qN⟩ := q
  exact ⟨q0, qP, va_K.moved (u := U) (U := U.calling g mk a) (Vm.Alike.refl U.vm) qK, NW.same (u := U) (U := U.calling g mk a) rfl qN⟩
theorem fb_wr {dC : Nat → ClassId} {dI : Nat → Nat → Nat} {cI cZ cO : ClassId} {sz : Nat} {ws : va_W} {av : List Value} : FrameBlind (va_Pc av (wrW dC dI cI cZ cO sz ws)) := fun a U g mk q => by
  obtain ⟨q0, q1, qP, qK, qN, qD⟩ := q
  exact ⟨q0, q1, qP, va_K.moved (u := U) (U := U.calling g mk a) (Vm.Alike.refl U.vm) qK, NW.same (u := U) (U := U.calling g mk a) rfl qN, qD⟩
theorem pre_rd {dC : Nat → ClassId} {dI : Nat → Nat → Nat} {cI cZ cO : ClassId} {ws : va_W} {H : Heap} {s : State} (hP : va_P (dC, dI) vwCl ws H) (hK : va_K (dC, dI) vwCl (tyA cI cZ cO) s) (hN : NW s) {av : List Value} : ∀ U : State, U.heap = H → s.WarmedH U.vm → va_Pc av (rdW dC dI cI cZ cO ws) av.toArray U := fun U hU hW => ⟨rfl, by rw [hU]; exact hP, va_K.moved hW.alike hK, hN.warm hW⟩
theorem pre_wr {dC : Nat → ClassId} {dI : Nat → Nat → Nat} {cI cZ cO : ClassId} {ws : va_W} {A : Nat → Prop} {H : Heap} {s : State} (hP : va_P (dC, dI) vwCl ws H) (hK : va_K (dC, dI) vwCl (tyA cI cZ cO) s) (hN : NW s) (hD : va_D A ws) {av : List Value} : ∀ U : State, U.heap = H → s.WarmedH U.vm → va_Pc av (wrW dC dI cI cZ cO H.size ws) av.toArray U := fun U hU hW => ⟨rfl, by rw [hU], by rw [hU]; exact hP, va_K.moved hW.alike hK, hN.warm hW, hD.weaken (fun _ _ _ _ => trivial)⟩
end
section
def f_X3_at (n0 : Nat) (p1 : Int32) (v_r0 : (Nat → Int32)) : Option Int32 :=
  if p1 < (0 : Int32) then
    some (0 : Int32)
  else
    if (nI n0) ≤ p1 then
      some (0 : Int32)
    else
      if p1 < 0 ∨ n0 ≤ p1.toNatClampNeg then none else
      some (v_r0 p1.toNatClampNeg)
def rm_X3_at : Room := { frames := 0, cells := 0, slots := 0, locals := 0 }
set_option maxHeartbeats 4000000 in
set_option maxRecDepth 100000 in
theorem c_X3_at (l : Launch) (dC : Nat → ClassId) (dI : Nat → Nat → Nat) (cI cZ cO : ClassId) (a0 : Nat) (n0 : Nat) (p1 : Int32) (v_r0 : (Nat → Int32)) (r : Int32) (hF : f_X3_at n0 p1 v_r0 = some r) : Met l yX3_at wsX3_at rm_X3_at (va_Pc [.ref a0, .int p1] (rdW dC dI cI cZ cO [(a0, .inl (cI, n0, .inl v_r0))])) (vp_Si (fun q => r = q)) 0 0 (fun _ => False) := by
  refine Met.ofW (cc := cX3_at) (maxL := 2) (ret := (some .int)) (by decide) rfl ?_
  intro p e s m args below meth c s₁ B hml hv
  obtain ⟨rfl, hP, hK, hN⟩ := hv
  have hx := B.exec
  have hb := B.bytes
  have hr := B.returns
  have hts := atoms_spec (ws := wsX3_at) B.pre
  have hown : s.vm.findClass RX3 = some m.cls := findClass_of_methodNamed B.named
  have hlocks := B.notSynchronized
  obtain ⟨Q, hQ⟩ : ∃ Q, Q = MQ below (vp_Si (fun q => r = q)) ([.ref a0, .int p1] : List Value).toArray s 0 0 (fun _ => False) := ⟨_, rfl⟩
  rw [← hQ]
  have hS : va_S (fun _ => False) s.heap s.heap [] := va_S.rf
  have hl := lv_entry ([.ref a0, .int p1]) (n := 2) (Nat.le_of_ble_eq_true rfl)
  rw [lg_entry_eq]
  generalize (lg_sl ([.ref a0, .int p1]) ++ List.replicate (2 - (lg_sl ([.ref a0, .int p1])).length) Slot.unset).toArray = ls at hl ⊢
  have hl : lv_has ls 2 [(0, .ref a0), (1, .int p1)] := hl
  unfold f_X3_at at hF
  refine lv_iload_n hx hb dX3_at_0 rfl (lv_at hl 1 rfl) ?_
  refine lv_if_lt (tgt := 16) hx hb dX3_at_1 (by decide) (fun c_1 => ?_) (fun c_1 => ?_)
  · have hF := (if_pos c_1).symm.trans hF
    refine lv_iconst (v := (0 : Int32)) hx hb dX3_at_16 (by decide) ?_
    have hF : some (0 : Int32) = some r := hF
    cases hF
    subst hQ
    exact W.iret hx hb hr (fun t ht hW => ⟨_, rfl, rfl, ht⟩) (fun q hq => absurd hq List.not_mem_nil) dX3_at_17
  · have hF := (if_neg c_1).symm.trans hF
    refine lv_iload_n hx hb dX3_at_4 rfl (lv_at hl 1 rfl) ?_
    refine lv_aload_n hx hb dX3_at_5 rfl (lv_at hl 0 rfl) ?_
    refine va_alen hx hb hK hP 0 0 rfl rfl (v := (nI n0)) rfl dX3_at_6 ?_
    refine lv_icmp_ge (tgt := 16) hx hb dX3_at_7 (by decide) (fun c_7 => ?_) (fun c_7 => ?_)
    · have hF := (if_pos c_7).symm.trans hF
      refine lv_iconst (v := (0 : Int32)) hx hb dX3_at_16 (by decide) ?_
      have hF : some (0 : Int32) = some r := hF
      cases hF
      subst hQ
      exact W.iret hx hb hr (fun t ht hW => ⟨_, rfl, rfl, ht⟩) (fun q hq => absurd hq List.not_mem_nil) dX3_at_17
    · have hF := (if_neg c_7).symm.trans hF
      refine lv_aload_n hx hb dX3_at_10 rfl (lv_at hl 0 rfl) ?_
      refine lv_iload_n hx hb dX3_at_11 rfl (lv_at hl 1 rfl) ?_
      by_cases b_12 : (p1 < 0 ∨ n0 ≤ p1.toNatClampNeg)
      · exact noneE ((if_pos b_12).symm.trans hF)
      have hF := (if_neg b_12).symm.trans hF
      refine va_iald hx hb hK hP 0 0 rfl rfl b_12 dX3_at_12 ?_
      refine lv_goto (tgt := 17) hx hb dX3_at_13 (by decide) ?_
      have hF : some (v_r0 p1.toNatClampNeg) = some r := hF
      cases hF
      subst hQ
      exact W.iret hx hb hr (fun t ht hW => ⟨_, rfl, rfl, ht⟩) (fun q hq => absurd hq List.not_mem_nil) dX3_at_17
def f_X3_put (n0 : Nat) (p1 : Int32) (p2 : Int32) (v_r0 : (Nat → Int32)) : Option (Nat → Int32) :=
  if p1 < (0 : Int32) then
    some v_r0
  else
    if (nI n0) ≤ p1 then
      some v_r0
    else
      if p1 < 0 ∨ n0 ≤ p1.toNatClampNeg then none else
      some (upd v_r0 p1.toNatClampNeg p2)
def rm_X3_put : Room := { frames := 0, cells := 0, slots := 0, locals := 0 }
set_option maxHeartbeats 4000000 in
set_option maxRecDepth 100000 in
theorem c_X3_put (l : Launch) (dC : Nat → ClassId) (dI : Nat → Nat → Nat) (cI cZ cO : ClassId) (a0 : Nat) (sz : Nat) (n0 : Nat) (p1 : Int32) (p2 : Int32) (v_r0 : (Nat → Int32)) (o_r0 : (Nat → Int32)) (hF : f_X3_put n0 p1 p2 v_r0 = some o_r0) : Met l yX3_put wsX3_put rm_X3_put (va_Pc [.ref a0, .int p1, .int p2] (wrW dC dI cI cZ cO sz [(a0, .inl (cI, n0, .inl v_r0))])) (va_Qv (fun (_ : Unit) => True) (wrE dC dI [(a0, .inl (cI, n0, .inl v_r0))] sz [(a0, .inl (cI, n0, .inl o_r0))]) (va_A [(a0, .inl (cI, n0, .inl v_r0))] sz)) 0 0 (va_A [(a0, .inl (cI, n0, .inl v_r0))] sz) := by
  refine Met.ofW (cc := cX3_put) (maxL := 3) (ret := none) (by decide) rfl ?_
  intro p e s m args below meth c s₁ B hml hv
  obtain ⟨rfl, hsz, hP, hK, hN, hD0⟩ := hv
  have hx := B.exec
  have hb := B.bytes
  have hr := B.returns
  have hts := atoms_spec (ws := wsX3_put) B.pre
  have hown : s.vm.findClass RX3 = some m.cls := findClass_of_methodNamed B.named
  have hlocks := B.notSynchronized
  subst hsz
  have hD := hD0.self (sz := s.heap.size)
  obtain ⟨Q, hQ⟩ : ∃ Q, Q = MQ below (va_Qv (fun (_ : Unit) => True) (wrE dC dI [(a0, .inl (cI, n0, .inl v_r0))] s.heap.size [(a0, .inl (cI, n0, .inl o_r0))]) (va_A [(a0, .inl (cI, n0, .inl v_r0))] s.heap.size)) ([.ref a0, .int p1, .int p2] : List Value).toArray s 0 0 (va_A [(a0, .inl (cI, n0, .inl v_r0))] s.heap.size) := ⟨_, rfl⟩
  rw [← hQ]
  obtain ⟨A, hAe⟩ : ∃ A, A = va_A [(a0, .inl (cI, n0, .inl v_r0))] s.heap.size := ⟨_, rfl⟩
  rw [← hAe] at hD
  have hA : ∀ q : Nat, s.heap.size ≤ q → A q := fun q h => by rw [hAe]; exact Or.inr h
  obtain ⟨H, hH⟩ : ∃ H, H = s.heap := ⟨_, rfl⟩
  have hS : va_S A s.heap H [] := by rw [hH]; exact va_S.rf
  rw [← hH] at hP
  rw [← hH]
  have hl := lv_entry ([.ref a0, .int p1, .int p2]) (n := 3) (Nat.le_of_ble_eq_true rfl)
  rw [lg_entry_eq]
  generalize (lg_sl ([.ref a0, .int p1, .int p2]) ++ List.replicate (3 - (lg_sl ([.ref a0, .int p1, .int p2])).length) Slot.unset).toArray = ls at hl ⊢
  have hl : lv_has ls 3 [(0, .ref a0), (1, .int p1), (2, .int p2)] := hl
  unfold f_X3_put at hF
  refine lv_iload_n hx hb dX3_put_0 rfl (lv_at hl 1 rfl) ?_
  refine lv_if_lt (tgt := 14) hx hb dX3_put_1 (by decide) (fun c_1 => ?_) (fun c_1 => ?_)
  · have hF := (if_pos c_1).symm.trans hF
    have hF : some v_r0 = some o_r0 := hF
    have hP9 := hP
    have hD9 := hD
    cases hF
    subst hQ
    subst hAe
    exact W.vret hx hb hr (fun t ht hW => ⟨⟨(), rfl, trivial, ⟨by rw [ht]; exact hP9, hD9⟩⟩, hS.F ht⟩) hS.2.2 dX3_put_14
  · have hF := (if_neg c_1).symm.trans hF
    refine lv_iload_n hx hb dX3_put_4 rfl (lv_at hl 1 rfl) ?_
    refine lv_aload_n hx hb dX3_put_5 rfl (lv_at hl 0 rfl) ?_
    refine va_alen hx hb hK hP 0 0 rfl rfl (v := (nI n0)) rfl dX3_put_6 ?_
    refine lv_icmp_ge (tgt := 14) hx hb dX3_put_7 (by decide) (fun c_7 => ?_) (fun c_7 => ?_)
    · have hF := (if_pos c_7).symm.trans hF
      have hF : some v_r0 = some o_r0 := hF
      have hP9 := hP
      have hD9 := hD
      cases hF
      subst hQ
      subst hAe
      exact W.vret hx hb hr (fun t ht hW => ⟨⟨(), rfl, trivial, ⟨by rw [ht]; exact hP9, hD9⟩⟩, hS.F ht⟩) hS.2.2 dX3_put_14
    · have hF := (if_neg c_7).symm.trans hF
      refine lv_aload_n hx hb dX3_put_10 rfl (lv_at hl 0 rfl) ?_
      refine lv_iload_n hx hb dX3_put_11 rfl (lv_at hl 1 rfl) ?_
      refine lv_iload_n hx hb dX3_put_12 rfl (lv_at hl 2 rfl) ?_
      by_cases b_13 : (p1 < 0 ∨ n0 ≤ p1.toNatClampNeg)
      · exact noneE ((if_pos b_13).symm.trans hF)
      have hF := (if_neg b_13).symm.trans hF
      refine va_iast hx hb hK hP hD hS 0 0 rfl rfl b_13 dX3_put_13 (fun H locs hP hD hS => ?_)
      have hP : va_P (dC, dI) vwCl [(a0, .inl (cI, n0, .inl (upd v_r0 p1.toNatClampNeg p2)))] H := hP
      have hD : va_D A [(a0, .inl (cI, n0, .inl (upd v_r0 p1.toNatClampNeg p2)))] := hD
      have hF : some (upd v_r0 p1.toNatClampNeg p2) = some o_r0 := hF
      have hP9 := hP
      have hD9 := hD
      cases hF
      subst hQ
      subst hAe
      exact W.vret hx hb hr (fun t ht hW => ⟨⟨(), rfl, trivial, ⟨by rw [ht]; exact hP9, hD9⟩⟩, hS.F ht⟩) hS.2.2 dX3_put_14
def f_X3_isLetter (p0 : Int32) : Option Int32 :=
  if p0 < (97 : Int32) then
    some (0 : Int32)
  else
    if (122 : Int32) < p0 then
      some (0 : Int32)
    else
      some (1 : Int32)
def rm_X3_isLetter : Room := { frames := 0, cells := 0, slots := 0, locals := 0 }
set_option maxHeartbeats 4000000 in
set_option maxRecDepth 100000 in
theorem c_X3_isLetter (l : Launch) (dC : Nat → ClassId) (dI : Nat → Nat → Nat) (cI cZ cO : ClassId) (p0 : Int32) (r : Int32) (hF : f_X3_isLetter p0 = some r) : Met l yX3_isLetter wsX3_isLetter rm_X3_isLetter (va_Pc [.int p0] (rdW dC dI cI cZ cO [])) (vp_Si (fun q => r = q)) 0 0 (fun _ => False) := by
  refine Met.ofW (cc := cX3_isLetter) (maxL := 1) (ret := (some .boolean)) (by decide) rfl ?_
  intro p e s m args below meth c s₁ B hml hv
  obtain ⟨rfl, hP, hK, hN⟩ := hv
  have hx := B.exec
  have hb := B.bytes
  have hr := B.returns
  have hts := atoms_spec (ws := wsX3_isLetter) B.pre
  have hown : s.vm.findClass RX3 = some m.cls := findClass_of_methodNamed B.named
  have hlocks := B.notSynchronized
  obtain ⟨Q, hQ⟩ : ∃ Q, Q = MQ below (vp_Si (fun q => r = q)) ([.int p0] : List Value).toArray s 0 0 (fun _ => False) := ⟨_, rfl⟩
  rw [← hQ]
  have hS : va_S (fun _ => False) s.heap s.heap [] := va_S.rf
  have hl := lv_entry ([.int p0]) (n := 1) (Nat.le_of_ble_eq_true rfl)
  rw [lg_entry_eq]
  generalize (lg_sl ([.int p0]) ++ List.replicate (1 - (lg_sl ([.int p0])).length) Slot.unset).toArray = ls at hl ⊢
  have hl : lv_has ls 1 [(0, .int p0)] := hl
  unfold f_X3_isLetter at hF
  refine lv_iload_n hx hb dX3_isLetter_0 rfl (lv_at hl 0 rfl) ?_
  refine lv_bipush (v := (97 : Int32)) hx hb dX3_isLetter_1 (by decide) ?_
  refine lv_icmp_lt (tgt := 16) hx hb dX3_isLetter_3 (by decide) (fun c_3 => ?_) (fun c_3 => ?_)
  · have hF := (if_pos c_3).symm.trans hF
    refine lv_iconst (v := (0 : Int32)) hx hb dX3_isLetter_16 (by decide) ?_
    have hF : some (0 : Int32) = some r := hF
    cases hF
    subst hQ
    exact W.zret (ty := .boolean) hx hb hr rfl (fun t ht hW => ⟨_, rfl, rfl, ht⟩) (fun q hq => absurd hq List.not_mem_nil) dX3_isLetter_17
  · have hF := (if_neg c_3).symm.trans hF
    refine lv_iload_n hx hb dX3_isLetter_6 rfl (lv_at hl 0 rfl) ?_
    refine lv_bipush (v := (122 : Int32)) hx hb dX3_isLetter_7 (by decide) ?_
    refine lv_icmp_gt (tgt := 16) hx hb dX3_isLetter_9 (by decide) (fun c_9 => ?_) (fun c_9 => ?_)
    · have hF := (if_pos c_9).symm.trans hF
      refine lv_iconst (v := (0 : Int32)) hx hb dX3_isLetter_16 (by decide) ?_
      have hF : some (0 : Int32) = some r := hF
      cases hF
      subst hQ
      exact W.zret (ty := .boolean) hx hb hr rfl (fun t ht hW => ⟨_, rfl, rfl, ht⟩) (fun q hq => absurd hq List.not_mem_nil) dX3_isLetter_17
    · have hF := (if_neg c_9).symm.trans hF
      refine lv_iconst (v := (1 : Int32)) hx hb dX3_isLetter_12 (by decide) ?_
      refine lv_goto (tgt := 17) hx hb dX3_isLetter_13 (by decide) ?_
      have hF : some (1 : Int32) = some r := hF
      cases hF
      subst hQ
      exact W.zret (ty := .boolean) hx hb hr rfl (fun t ht hW => ⟨_, rfl, rfl, ht⟩) (fun q hq => absurd hq List.not_mem_nil) dX3_isLetter_17
def f_X3_limited (p0 : Int32) (p1 : Int32) (p2 : Int32) : Option Int32 :=
  some (if p1 < (if p2 < p0 then p2 else p0) then (if p2 < p0 then p2 else p0) else p1)
def rm_X3_limited : Room := { frames := 1, cells := 0, slots := 0, locals := 24 }
set_option maxHeartbeats 4000000 in
set_option maxRecDepth 100000 in
theorem c_X3_limited (l : Launch) (dC : Nat → ClassId) (dI : Nat → Nat → Nat) (cI cZ cO : ClassId) (p0 : Int32) (p1 : Int32) (p2 : Int32) (r : Int32) (hF : f_X3_limited p0 p1 p2 = some r) : Met l yX3_limited wsX3_limited rm_X3_limited (va_Pc [.int p0, .int p1, .int p2] (rdW dC dI cI cZ cO [])) (vp_Si (fun q => r = q)) 0 0 (fun _ => False) := by
  refine Met.ofW (cc := cX3_limited) (maxL := 3) (ret := (some .int)) (by decide) rfl ?_
  intro p e s m args below meth c s₁ B hml hv
  obtain ⟨rfl, hP, hK, hN⟩ := hv
  have hx := B.exec
  have hb := B.bytes
  have hr := B.returns
  have hts := atoms_spec (ws := wsX3_limited) B.pre
  have hown : s.vm.findClass RX3 = some m.cls := findClass_of_methodNamed B.named
  have hlocks := B.notSynchronized
  obtain ⟨Q, hQ⟩ : ∃ Q, Q = MQ below (vp_Si (fun q => r = q)) ([.int p0, .int p1, .int p2] : List Value).toArray s 0 0 (fun _ => False) := ⟨_, rfl⟩
  rw [← hQ]
  have hS : va_S (fun _ => False) s.heap s.heap [] := va_S.rf
  have ml250 := hts (.methodLink RX3 250 Lib.Math.min.name) (by decide +kernel)
  have ls_mmin := hts (.static Lib.Math.min.name) (by decide +kernel)
  have lmI := hts (.initialized "java/lang/Math") (by decide +kernel)
  have lc_mmin := hts (.code Lib.Math.min.name Lib.Math.min.code 2 (some .int)) (by decide +kernel)
  have ml261 := hts (.methodLink RX3 261 Lib.Math.max.name) (by decide +kernel)
  have ls_mmax := hts (.static Lib.Math.max.name) (by decide +kernel)
  have lc_mmax := hts (.code Lib.Math.max.name Lib.Math.max.code 2 (some .int)) (by decide +kernel)
  have hl := lv_entry ([.int p0, .int p1, .int p2]) (n := 3) (Nat.le_of_ble_eq_true rfl)
  rw [lg_entry_eq]
  generalize (lg_sl ([.int p0, .int p1, .int p2]) ++ List.replicate (3 - (lg_sl ([.int p0, .int p1, .int p2])).length) Slot.unset).toArray = ls at hl ⊢
  have hl : lv_has ls 3 [(0, .int p0), (1, .int p1), (2, .int p2)] := hl
  unfold f_X3_limited at hF
  refine lv_iload_n hx hb dX3_limited_0 rfl (lv_at hl 1 rfl) ?_
  refine lv_iload_n hx hb dX3_limited_1 rfl (lv_at hl 0 rfl) ?_
  refine lv_iload_n hx hb dX3_limited_2 rfl (lv_at hl 2 rfl) ?_
  refine va_mmin hx hb (by rw [hml]; exact hl.1.symm) hown ml250 ls_mmin lmI lc_mmin (Nat.le_of_ble_eq_true rfl) (Nat.le_of_ble_eq_true rfl) (Nat.zero_le _) (Nat.zero_le _) dX3_limited_3 ?_
  refine va_mmax hx hb (by rw [hml]; exact hl.1.symm) hown ml261 ls_mmax lmI lc_mmax (Nat.le_of_ble_eq_true rfl) (Nat.le_of_ble_eq_true rfl) (Nat.zero_le _) (Nat.zero_le _) dX3_limited_6 ?_
  have hF : some (if p1 < (if p2 < p0 then p2 else p0) then (if p2 < p0 then p2 else p0) else p1) = some r := hF
  cases hF
  subst hQ
  exact W.iret hx hb hr (fun t ht hW => ⟨_, rfl, rfl, ht⟩) (fun q hq => absurd hq List.not_mem_nil) dX3_limited_9
def f_X3_isSetting (p0 : Int32) : Option Int32 :=
  if p0 < (0 : Int32) then
    some (0 : Int32)
  else
    if (9 : Int32) ≤ p0 then
      some (0 : Int32)
    else
      some (1 : Int32)
def rm_X3_isSetting : Room := { frames := 0, cells := 0, slots := 0, locals := 0 }
set_option maxHeartbeats 4000000 in
set_option maxRecDepth 100000 in
theorem c_X3_isSetting (l : Launch) (dC : Nat → ClassId) (dI : Nat → Nat → Nat) (cI cZ cO : ClassId) (p0 : Int32) (r : Int32) (hF : f_X3_isSetting p0 = some r) : Met l yX3_isSetting wsX3_isSetting rm_X3_isSetting (va_Pc [.int p0] (rdW dC dI cI cZ cO [])) (vp_Si (fun q => r = q)) 0 0 (fun _ => False) := by
  refine Met.ofW (cc := cX3_isSetting) (maxL := 1) (ret := (some .boolean)) (by decide) rfl ?_
  intro p e s m args below meth c s₁ B hml hv
  obtain ⟨rfl, hP, hK, hN⟩ := hv
  have hx := B.exec
  have hb := B.bytes
  have hr := B.returns
  have hts := atoms_spec (ws := wsX3_isSetting) B.pre
  have hown : s.vm.findClass RX3 = some m.cls := findClass_of_methodNamed B.named
  have hlocks := B.notSynchronized
  obtain ⟨Q, hQ⟩ : ∃ Q, Q = MQ below (vp_Si (fun q => r = q)) ([.int p0] : List Value).toArray s 0 0 (fun _ => False) := ⟨_, rfl⟩
  rw [← hQ]
  have hS : va_S (fun _ => False) s.heap s.heap [] := va_S.rf
  have hl := lv_entry ([.int p0]) (n := 1) (Nat.le_of_ble_eq_true rfl)
  rw [lg_entry_eq]
  generalize (lg_sl ([.int p0]) ++ List.replicate (1 - (lg_sl ([.int p0])).length) Slot.unset).toArray = ls at hl ⊢
  have hl : lv_has ls 1 [(0, .int p0)] := hl
  unfold f_X3_isSetting at hF
  refine lv_iload_n hx hb dX3_isSetting_0 rfl (lv_at hl 0 rfl) ?_
  refine lv_if_lt (tgt := 14) hx hb dX3_isSetting_1 (by decide) (fun c_1 => ?_) (fun c_1 => ?_)
  · have hF := (if_pos c_1).symm.trans hF
    refine lv_iconst (v := (0 : Int32)) hx hb dX3_isSetting_14 (by decide) ?_
    have hF : some (0 : Int32) = some r := hF
    cases hF
    subst hQ
    exact W.zret (ty := .boolean) hx hb hr rfl (fun t ht hW => ⟨_, rfl, rfl, ht⟩) (fun q hq => absurd hq List.not_mem_nil) dX3_isSetting_15
  · have hF := (if_neg c_1).symm.trans hF
    refine lv_iload_n hx hb dX3_isSetting_4 rfl (lv_at hl 0 rfl) ?_
    refine lv_bipush (v := (9 : Int32)) hx hb dX3_isSetting_5 (by decide) ?_
    refine lv_icmp_ge (tgt := 14) hx hb dX3_isSetting_7 (by decide) (fun c_7 => ?_) (fun c_7 => ?_)
    · have hF := (if_pos c_7).symm.trans hF
      refine lv_iconst (v := (0 : Int32)) hx hb dX3_isSetting_14 (by decide) ?_
      have hF : some (0 : Int32) = some r := hF
      cases hF
      subst hQ
      exact W.zret (ty := .boolean) hx hb hr rfl (fun t ht hW => ⟨_, rfl, rfl, ht⟩) (fun q hq => absurd hq List.not_mem_nil) dX3_isSetting_15
    · have hF := (if_neg c_7).symm.trans hF
      refine lv_iconst (v := (1 : Int32)) hx hb dX3_isSetting_10 (by decide) ?_
      refine lv_goto (tgt := 15) hx hb dX3_isSetting_11 (by decide) ?_
      have hF : some (1 : Int32) = some r := hF
      cases hF
      subst hQ
      exact W.zret (ty := .boolean) hx hb hr rfl (fun t ht hW => ⟨_, rfl, rfl, ht⟩) (fun q hq => absurd hq List.not_mem_nil) dX3_isSetting_15
def f_X3_copyRow (n0 : Nat) (n1 : Nat) (v_r0 : (Nat → Int32)) (v_r1 : (Nat → Int32)) : Option (Nat → Int32) :=
  if (if (nI n1) < (nI n0) then (nI n1) else (nI n0)) < 0 ∨ n0 < ((if (nI n1) < (nI n0) then (nI n1) else (nI n0))).toNatClampNeg ∨ n1 < ((if (nI n1) < (nI n0) then (nI n1) else (nI n0))).toNatClampNeg then none else
  some (va_cpy v_r0 v_r1 0 0 (((if (nI n1) < (nI n0) then (nI n1) else (nI n0))).toNatClampNeg))
def rm_X3_copyRow : Room := { frames := 1, cells := 0, slots := 0, locals := 48 }
set_option maxHeartbeats 4000000 in
set_option maxRecDepth 100000 in
theorem c_X3_copyRow (l : Launch) (dC : Nat → ClassId) (dI : Nat → Nat → Nat) (cI cZ cO : ClassId) (a0 a1 : Nat) (sz : Nat) (n0 : Nat) (n1 : Nat) (v_r0 : (Nat → Int32)) (v_r1 : (Nat → Int32)) (o_r1 : (Nat → Int32)) (hF : f_X3_copyRow n0 n1 v_r0 v_r1 = some o_r1) : Met l yX3_copyRow wsX3_copyRow rm_X3_copyRow (va_Pc [.ref a0, .ref a1] (wrW dC dI cI cZ cO sz [(a0, .inl (cI, n0, .inl v_r0)), (a1, .inl (cI, n1, .inl v_r1))])) (va_Qv (fun (_ : Unit) => True) (wrE dC dI [(a0, .inl (cI, n0, .inl v_r0)), (a1, .inl (cI, n1, .inl v_r1))] sz [(a0, .inl (cI, n0, .inl v_r0)), (a1, .inl (cI, n1, .inl o_r1))]) (va_A [(a0, .inl (cI, n0, .inl v_r0)), (a1, .inl (cI, n1, .inl v_r1))] sz)) 0 0 (va_A [(a0, .inl (cI, n0, .inl v_r0)), (a1, .inl (cI, n1, .inl v_r1))] sz) := by
  refine Met.ofW (cc := cX3_copyRow) (maxL := 2) (ret := none) (by decide) rfl ?_
  intro p e s m args below meth c s₁ B hml hv
  obtain ⟨rfl, hsz, hP, hK, hN, hD0⟩ := hv
  have hx := B.exec
  have hb := B.bytes
  have hr := B.returns
  have hts := atoms_spec (ws := wsX3_copyRow) B.pre
  have hown : s.vm.findClass RX3 = some m.cls := findClass_of_methodNamed B.named
  have hlocks := B.notSynchronized
  subst hsz
  have hD := hD0.self (sz := s.heap.size)
  obtain ⟨Q, hQ⟩ : ∃ Q, Q = MQ below (va_Qv (fun (_ : Unit) => True) (wrE dC dI [(a0, .inl (cI, n0, .inl v_r0)), (a1, .inl (cI, n1, .inl v_r1))] s.heap.size [(a0, .inl (cI, n0, .inl v_r0)), (a1, .inl (cI, n1, .inl o_r1))]) (va_A [(a0, .inl (cI, n0, .inl v_r0)), (a1, .inl (cI, n1, .inl v_r1))] s.heap.size)) ([.ref a0, .ref a1] : List Value).toArray s 0 0 (va_A [(a0, .inl (cI, n0, .inl v_r0)), (a1, .inl (cI, n1, .inl v_r1))] s.heap.size) := ⟨_, rfl⟩
  rw [← hQ]
  obtain ⟨A, hAe⟩ : ∃ A, A = va_A [(a0, .inl (cI, n0, .inl v_r0)), (a1, .inl (cI, n1, .inl v_r1))] s.heap.size := ⟨_, rfl⟩
  rw [← hAe] at hD
  have hA : ∀ q : Nat, s.heap.size ≤ q → A q := fun q h => by rw [hAe]; exact Or.inr h
  obtain ⟨H, hH⟩ : ∃ H, H = s.heap := ⟨_, rfl⟩
  have hS : va_S A s.heap H [] := by rw [hH]; exact va_S.rf
  rw [← hH] at hP
  rw [← hH]
  have ml250 := hts (.methodLink RX3 250 Lib.Math.min.name) (by decide +kernel)
  have ls_mmin := hts (.static Lib.Math.min.name) (by decide +kernel)
  have lmI := hts (.initialized "java/lang/Math") (by decide +kernel)
  have lc_mmin := hts (.code Lib.Math.min.name Lib.Math.min.code 2 (some .int)) (by decide +kernel)
  have ml255 := hts (.methodLink RX3 255 arraycopyName) (by decide +kernel)
  have acN := hts (.native arraycopyName) (by decide +kernel)
  have acS := hts (.static arraycopyName) (by decide +kernel)
  have acI := hts (.initialized "java/lang/System") (by decide +kernel)
  have hl := lv_entry ([.ref a0, .ref a1]) (n := 2) (Nat.le_of_ble_eq_true rfl)
  rw [lg_entry_eq]
  generalize (lg_sl ([.ref a0, .ref a1]) ++ List.replicate (2 - (lg_sl ([.ref a0, .ref a1])).length) Slot.unset).toArray = ls at hl ⊢
  have hl : lv_has ls 2 [(0, .ref a0), (1, .ref a1)] := hl
  unfold f_X3_copyRow at hF
  refine lv_aload_n hx hb dX3_copyRow_0 rfl (lv_at hl 0 rfl) ?_
  refine lv_iconst (v := (0 : Int32)) hx hb dX3_copyRow_1 (by decide) ?_
  refine lv_aload_n hx hb dX3_copyRow_2 rfl (lv_at hl 1 rfl) ?_
  refine lv_iconst (v := (0 : Int32)) hx hb dX3_copyRow_3 (by decide) ?_
  refine lv_aload_n hx hb dX3_copyRow_4 rfl (lv_at hl 0 rfl) ?_
  refine va_alen hx hb hK hP 0 0 rfl rfl (v := (nI n0)) rfl dX3_copyRow_5 ?_
  refine lv_aload_n hx hb dX3_copyRow_6 rfl (lv_at hl 1 rfl) ?_
  refine va_alen hx hb hK hP 1 0 rfl rfl (v := (nI n1)) rfl dX3_copyRow_7 ?_
  refine va_mmin hx hb (by rw [hml]; exact hl.1.symm) hown ml250 ls_mmin lmI lc_mmin (Nat.le_of_ble_eq_true rfl) (Nat.le_of_ble_eq_true rfl) (Nat.zero_le _) (Nat.zero_le _) dX3_copyRow_8 ?_
  by_cases b_11 : ((if (nI n1) < (nI n0) then (nI n1) else (nI n0)) < 0 ∨ n0 < ((if (nI n1) < (nI n0) then (nI n1) else (nI n0))).toNatClampNeg ∨ n1 < ((if (nI n1) < (nI n0) then (nI n1) else (nI n0))).toNatClampNeg)
  · exact noneE ((if_pos b_11).symm.trans hF)
  have hF := (if_neg b_11).symm.trans hF
  refine va_copyi hx hb (by rw [hml]; exact hl.1.symm) hown ml255 acN acS acI hK hP hD hS 0 1 0 0 rfl rfl rfl rfl rfl (by decide) (by decide) (cp1 b_11) (cp2 b_11) (cp3 b_11) (fun _ _ => rfl) (Nat.le_of_ble_eq_true rfl) (Nat.le_of_ble_eq_true rfl) dX3_copyRow_11 (fun H locs hP hD hS => ?_)
  have hP : va_P (dC, dI) vwCl [(a0, .inl (cI, n0, .inl v_r0)), (a1, .inl (cI, n1, .inl (va_cpy v_r0 v_r1 0 0 (((if (nI n1) < (nI n0) then (nI n1) else (nI n0))).toNatClampNeg))))] H := hP
  have hD : va_D A [(a0, .inl (cI, n0, .inl v_r0)), (a1, .inl (cI, n1, .inl (va_cpy v_r0 v_r1 0 0 (((if (nI n1) < (nI n0) then (nI n1) else (nI n0))).toNatClampNeg))))] := hD
  have hF : some (va_cpy v_r0 v_r1 0 0 (((if (nI n1) < (nI n0) then (nI n1) else (nI n0))).toNatClampNeg)) = some o_r1 := hF
  have hP9 := hP
  have hD9 := hD
  cases hF
  subst hQ
  subst hAe
  exact W.vret hx hb hr (fun t ht hW => ⟨⟨(), rfl, trivial, ⟨by rw [ht]; exact hP9, hD9⟩⟩, hS.F ht⟩) hS.2.2 dX3_copyRow_14
end
section
def f_X0_nextCue_2 (v_words : Int32) (v_cues : (Nat → Int32)) : Nat → Int32 → Option Int32
  | 0, _ => none
  | n + 1, x1 =>
    if v_words ≤ x1 then
      some (-9 : Int32)
    else
      (f_X3_at 120 x1 v_cues).bind fun q15 =>
      if q15 = (1 : Int32) then
        some x1
      else
        f_X0_nextCue_2 v_words v_cues n (x1 + 1)
def f_X0_nextCue (v_words : Int32) (v_cues : (Nat → Int32)) : Option Int32 :=
  f_X0_nextCue_2 v_words v_cues gas (0 : Int32)
def rm_X0_nextCue : Room := { frames := 1, cells := 0, slots := 0, locals := 21 }
set_option maxHeartbeats 4000000 in
set_option maxRecDepth 100000 in
theorem c_X0_nextCue (l : Launch) (dC : Nat → ClassId) (dI : Nat → Nat → Nat) (cI cZ cO : ClassId) (aC a_letters a_passageOf a_cues a_rowOf a_firstOfRow : Nat) (v_words : Int32) (v_passages : Int32) (v_wordsInPassage : Int32) (v_rows : Int32) (v_letters : (Nat → Int32)) (v_passageOf : (Nat → Int32)) (v_cues : (Nat → Int32)) (v_rowOf : (Nat → Int32)) (v_firstOfRow : (Nat → Int32)) (r : Int32) (hF : f_X0_nextCue v_words v_cues = some r) : Met l yX0_nextCue wsX0_nextCue rm_X0_nextCue (va_Pc [.ref aC] (rdW dC dI cI cZ cO [(aC, .inr (0, [.int v_words, .int v_passages, .int v_wordsInPassage, .int v_rows, .ref a_letters, .ref a_passageOf, .ref a_cues, .ref a_rowOf, .ref a_firstOfRow])), (a_letters, .inl (cI, 120, .inl v_letters)), (a_passageOf, .inl (cI, 120, .inl v_passageOf)), (a_cues, .inl (cI, 120, .inl v_cues)), (a_rowOf, .inl (cI, 120, .inl v_rowOf)), (a_firstOfRow, .inl (cI, 120, .inl v_firstOfRow))])) (vp_Si (fun q => r = q)) 0 0 (fun _ => False) := by
  refine Met.ofW (cc := cX0_nextCue) (maxL := 2) (ret := (some .int)) (by decide) rfl ?_
  intro p e s m args below meth c s₁ B hml hv
  obtain ⟨rfl, hP, hK, hN⟩ := hv
  have hx := B.exec
  have hb := B.bytes
  have hr := B.returns
  have hts := atoms_spec (ws := wsX0_nextCue) B.pre
  have hown : s.vm.findClass RX0 = some m.cls := findClass_of_methodNamed B.named
  have hlocks := B.notSynchronized
  obtain ⟨Q, hQ⟩ : ∃ Q, Q = MQ below (vp_Si (fun q => r = q)) ([.ref aC] : List Value).toArray s 0 0 (fun _ => False) := ⟨_, rfl⟩
  rw [← hQ]
  have hS : va_S (fun _ => False) s.heap s.heap [] := va_S.rf
  have fl27 := hts (.fieldLink RX0 27 "Teleprompter$Script" "words" "I") (by decide +kernel)
  have fl18 := hts (.fieldLink RX0 18 "Teleprompter$Script" "cues" "[I") (by decide +kernel)
  have inX0 : ∀ w ∈ u_ws RX0 TX0 9, w ∈ wsX0_nextCue := by decide +kernel
  have hl := lv_entry ([.ref aC]) (n := 2) (Nat.le_of_ble_eq_true rfl)
  rw [lg_entry_eq]
  generalize (lg_sl ([.ref aC]) ++ List.replicate (2 - (lg_sl ([.ref aC])).length) Slot.unset).toArray = ls at hl ⊢
  have hl : lv_has ls 2 [(0, .ref aC)] := hl
  have B2 : ∀ (n_2 : Nat) (x1_2 : Int32), f_X0_nextCue_2 v_words v_cues n_2 x1_2 = some r → ∀ ls : Array Slot, lv_has ls 2 [(0, .ref aC), (1, .int x1_2)] → W p l e (headSpec wsX0_nextCue rm_X0_nextCue).room s m ([.ref aC] : List Value).toArray below meth c s.heap [] 0 0 Q (F0 m 2 ls []) := by
    intro n_2
    induction n_2 with
    | zero => intro x1_2 hF; exact noneE hF
    | succ n_2 ih2 =>
      intro x1_2 hF ls hl
      rw [f_X0_nextCue_2] at hF
      refine lv_iload_n hx hb dX0_nextCue_2 rfl (lv_at hl 1 rfl) ?_
      refine lv_aload_n hx hb dX0_nextCue_3 rfl (lv_at hl 0 rfl) ?_
      refine va_get (D := (dC, dI)) (ci := 0) (v := .int v_words) (C := RX0) (T := TX0) (N := 9) hx hb hts inX0 hown hK hP 0 rfl rfl 0 (by decide) fl27 (fun _ h9 => h9) rfl dX0_nextCue_4 ?_
      refine lv_icmp_ge (tgt := 30) hx hb dX0_nextCue_7 (by decide) (fun c_7 => ?_) (fun c_7 => ?_)
      · have hF := (if_pos c_7).symm.trans hF
        refine lv_bipush (v := (-9 : Int32)) hx hb dX0_nextCue_30 (by decide) ?_
        have hF : some (-9 : Int32) = some r := hF
        cases hF
        subst hQ
        exact W.iret hx hb hr (fun t ht hW => ⟨_, rfl, rfl, ht⟩) (fun q hq => absurd hq List.not_mem_nil) dX0_nextCue_32
      · have hF := (if_neg c_7).symm.trans hF
        refine lv_aload_n hx hb dX0_nextCue_10 rfl (lv_at hl 0 rfl) ?_
        refine va_get (D := (dC, dI)) (ci := 0) (v := .ref a_cues) (C := RX0) (T := TX0) (N := 9) hx hb hts inX0 hown hK hP 0 rfl rfl 6 (by decide) fl18 (fun _ h9 => h9) rfl dX0_nextCue_11 ?_
        refine lv_iload_n hx hb dX0_nextCue_14 rfl (lv_at hl 1 rfl) ?_
        obtain ⟨q_15, hq_15, hF⟩ := bindE hF
        have hPc := hP.sub (ws' := [(a_cues, .inl (cI, 120, .inl v_cues))]) [3] rfl
        refine vp_callSi (va_Run.run (va_runSN (As := [.ref a_cues, .int x1_2]) (rest := []) ⟨hx, hb, hml, hown, hts⟩ (c_X3_at l dC dI cI cZ cO a_cues 120 x1_2 v_cues q_15 hq_15) ⟨(va_cnB 2 hts gX0_nextCue_X3_at_n63 rfl rfl rfl (NW_X0_63 hN) (hts (.initialized RX3) (by decide +kernel)) (by decide +kernel) ⟨Nat.le_of_ble_eq_true rfl, Nat.le_of_ble_eq_true rfl⟩), hts (.static yX3_at) (by decide +kernel), trivial⟩ ⟨fb_rd, pre_rd hPc hK hN⟩ rfl rfl hl.1 rfl (lv_room (Nat.le_of_ble_eq_true rfl)) dX0_nextCue_15 ⟨Nat.zero_le _, Nat.zero_le _⟩)) (fun z_15 hz_15 => ?_)
        subst hz_15
        refine lv_iconst (v := (1 : Int32)) hx hb dX0_nextCue_18 (by decide) ?_
        refine lv_icmp_ne (tgt := 24) hx hb dX0_nextCue_19 (by decide) (fun c_19 => ?_) (fun c_19 => ?_)
        · have hF := (if_neg c_19).symm.trans hF
          refine lv_iinc (v := (x1_2 + 1)) (lv' := [(1, .int (x1_2 + 1)), (0, .ref aC)]) hx hb dX0_nextCue_24 hl (k := 1) rfl rfl (by decide) rfl (fun ls hl => ?_)
          refine lv_goto (tgt := 2) hx hb dX0_nextCue_27 (by decide) ?_
          exact ih2 (x1_2 + 1) hF _ (lv_sub hl [1, 0] rfl)
        · have hF := (if_pos c_19).symm.trans hF
          refine lv_iload_n hx hb dX0_nextCue_22 rfl (lv_at hl 1 rfl) ?_
          have hF : some x1_2 = some r := hF
          cases hF
          subst hQ
          exact W.iret hx hb hr (fun t ht hW => ⟨_, rfl, rfl, ht⟩) (fun q hq => absurd hq List.not_mem_nil) dX0_nextCue_23
  unfold f_X0_nextCue at hF
  refine lv_iconst (v := (0 : Int32)) hx hb dX0_nextCue_0 (by decide) ?_
  refine lv_istore_n (lv' := [(1, .int (0 : Int32)), (0, .ref aC)]) hx hb dX0_nextCue_1 rfl hl (by decide) rfl (fun ls hl => ?_)
  exact B2 gas (0 : Int32) hF _ (lv_sub hl [1, 0] rfl)
def f_X0_lay_71 (k9 : Int32 → Int32 → Int32 → (Nat → Int32) → (Nat → Int32) → Option (Int32 × (Nat → Int32) × (Nat → Int32))) (x2 : Int32) (x3 : Int32) (v_rows : Int32) (v_rowOf : (Nat → Int32)) (v_firstOfRow : (Nat → Int32)) : Option (Int32 × (Nat → Int32) × (Nat → Int32)) :=
  (f_X3_put 120 x3 (v_rows - (1 : Int32)) v_rowOf).bind fun q82 =>
    k9 (x2 + 1) (x3 + 1) v_rows q82 v_firstOfRow
def f_X0_lay_47 (k9 : Int32 → Int32 → Int32 → (Nat → Int32) → (Nat → Int32) → Option (Int32 × (Nat → Int32) × (Nat → Int32))) (x3 : Int32) (v_rows : Int32) (v_rowOf : (Nat → Int32)) (v_firstOfRow : (Nat → Int32)) : Option (Int32 × (Nat → Int32) × (Nat → Int32)) :=
  (f_X3_put 120 v_rows x3 v_firstOfRow).bind fun q56 =>
    f_X0_lay_71 k9 (0 : Int32) x3 (v_rows + (1 : Int32)) v_rowOf q56
def f_X0_lay_9 (v_words : Int32) (v_passageOf : (Nat → Int32)) (x1 : Int32) : Nat → Int32 → Int32 → Int32 → (Nat → Int32) → (Nat → Int32) → Option (Int32 × (Nat → Int32) × (Nat → Int32))
  | 0, _, _, _, _, _ => none
  | n + 1, x2, x3, v_rows, v_rowOf, v_firstOfRow =>
    if v_words ≤ x3 then
      some (v_rows, v_rowOf, v_firstOfRow)
    else
      if x2 = (0 : Int32) then
        f_X0_lay_47 (f_X0_lay_9 v_words v_passageOf x1 n) x3 v_rows v_rowOf v_firstOfRow
      else
        if x1 ≤ x2 then
          f_X0_lay_47 (f_X0_lay_9 v_words v_passageOf x1 n) x3 v_rows v_rowOf v_firstOfRow
        else
          (f_X3_at 120 x3 v_passageOf).bind fun q31 =>
          (f_X3_at 120 (x3 - (1 : Int32)) v_passageOf).bind fun q41 =>
          if q31 = q41 then
            f_X0_lay_71 (f_X0_lay_9 v_words v_passageOf x1 n) x2 x3 v_rows v_rowOf v_firstOfRow
          else
            f_X0_lay_47 (f_X0_lay_9 v_words v_passageOf x1 n) x3 v_rows v_rowOf v_firstOfRow
def f_X0_lay (p1 : Int32) (v_words : Int32) (v_rows : Int32) (v_passageOf : (Nat → Int32)) (v_rowOf : (Nat → Int32)) (v_firstOfRow : (Nat → Int32)) : Option (Int32 × (Nat → Int32) × (Nat → Int32)) :=
  f_X0_lay_9 v_words v_passageOf p1 gas (0 : Int32) (0 : Int32) (0 : Int32) v_rowOf v_firstOfRow
def rm_X0_lay : Room := { frames := 1, cells := 0, slots := 0, locals := 22 }
set_option maxHeartbeats 4000000 in
set_option maxRecDepth 100000 in
theorem c_X0_lay (l : Launch) (dC : Nat → ClassId) (dI : Nat → Nat → Nat) (cI cZ cO : ClassId) (aC a_letters a_passageOf a_cues a_rowOf a_firstOfRow : Nat) (sz : Nat) (p1 : Int32) (v_words : Int32) (v_passages : Int32) (v_wordsInPassage : Int32) (v_rows : Int32) (v_letters : (Nat → Int32)) (v_passageOf : (Nat → Int32)) (v_cues : (Nat → Int32)) (v_rowOf : (Nat → Int32)) (v_firstOfRow : (Nat → Int32)) (o_rows : Int32) (o_rowOf : (Nat → Int32)) (o_firstOfRow : (Nat → Int32)) (hF : f_X0_lay p1 v_words v_rows v_passageOf v_rowOf v_firstOfRow = some (o_rows, o_rowOf, o_firstOfRow)) : Met l yX0_lay wsX0_lay rm_X0_lay (va_Pc [.ref aC, .int p1] (wrW dC dI cI cZ cO sz [(aC, .inr (0, [.int v_words, .int v_passages, .int v_wordsInPassage, .int v_rows, .ref a_letters, .ref a_passageOf, .ref a_cues, .ref a_rowOf, .ref a_firstOfRow])), (a_letters, .inl (cI, 120, .inl v_letters)), (a_passageOf, .inl (cI, 120, .inl v_passageOf)), (a_cues, .inl (cI, 120, .inl v_cues)), (a_rowOf, .inl (cI, 120, .inl v_rowOf)), (a_firstOfRow, .inl (cI, 120, .inl v_firstOfRow))])) (va_Qv (fun (_ : Unit) => True) (wrE dC dI [(aC, .inr (0, [.int v_words, .int v_passages, .int v_wordsInPassage, .int v_rows, .ref a_letters, .ref a_passageOf, .ref a_cues, .ref a_rowOf, .ref a_firstOfRow])), (a_letters, .inl (cI, 120, .inl v_letters)), (a_passageOf, .inl (cI, 120, .inl v_passageOf)), (a_cues, .inl (cI, 120, .inl v_cues)), (a_rowOf, .inl (cI, 120, .inl v_rowOf)), (a_firstOfRow, .inl (cI, 120, .inl v_firstOfRow))] sz [(aC, .inr (0, [.int v_words, .int v_passages, .int v_wordsInPassage, .int o_rows, .ref a_letters, .ref a_passageOf, .ref a_cues, .ref a_rowOf, .ref a_firstOfRow])), (a_letters, .inl (cI, 120, .inl v_letters)), (a_passageOf, .inl (cI, 120, .inl v_passageOf)), (a_cues, .inl (cI, 120, .inl v_cues)), (a_rowOf, .inl (cI, 120, .inl o_rowOf)), (a_firstOfRow, .inl (cI, 120, .inl o_firstOfRow))]) (va_A [(aC, .inr (0, [.int v_words, .int v_passages, .int v_wordsInPassage, .int v_rows, .ref a_letters, .ref a_passageOf, .ref a_cues, .ref a_rowOf, .ref a_firstOfRow])), (a_letters, .inl (cI, 120, .inl v_letters)), (a_passageOf, .inl (cI, 120, .inl v_passageOf)), (a_cues, .inl (cI, 120, .inl v_cues)), (a_rowOf, .inl (cI, 120, .inl v_rowOf)), (a_firstOfRow, .inl (cI, 120, .inl v_firstOfRow))] sz)) 0 0 (va_A [(aC, .inr (0, [.int v_words, .int v_passages, .int v_wordsInPassage, .int v_rows, .ref a_letters, .ref a_passageOf, .ref a_cues, .ref a_rowOf, .ref a_firstOfRow])), (a_letters, .inl (cI, 120, .inl v_letters)), (a_passageOf, .inl (cI, 120, .inl v_passageOf)), (a_cues, .inl (cI, 120, .inl v_cues)), (a_rowOf, .inl (cI, 120, .inl v_rowOf)), (a_firstOfRow, .inl (cI, 120, .inl v_firstOfRow))] sz) := by
  refine Met.ofW (cc := cX0_lay) (maxL := 4) (ret := none) (by decide) rfl ?_
  intro p e s m args below meth c s₁ B hml hv
  obtain ⟨rfl, hsz, hP, hK, hN, hD0⟩ := hv
  have hx := B.exec
  have hb := B.bytes
  have hr := B.returns
  have hts := atoms_spec (ws := wsX0_lay) B.pre
  have hown : s.vm.findClass RX0 = some m.cls := findClass_of_methodNamed B.named
  have hlocks := B.notSynchronized
  subst hsz
  have hD := hD0.self (sz := s.heap.size)
  obtain ⟨Q, hQ⟩ : ∃ Q, Q = MQ below (va_Qv (fun (_ : Unit) => True) (wrE dC dI [(aC, .inr (0, [.int v_words, .int v_passages, .int v_wordsInPassage, .int v_rows, .ref a_letters, .ref a_passageOf, .ref a_cues, .ref a_rowOf, .ref a_firstOfRow])), (a_letters, .inl (cI, 120, .inl v_letters)), (a_passageOf, .inl (cI, 120, .inl v_passageOf)), (a_cues, .inl (cI, 120, .inl v_cues)), (a_rowOf, .inl (cI, 120, .inl v_rowOf)), (a_firstOfRow, .inl (cI, 120, .inl v_firstOfRow))] s.heap.size [(aC, .inr (0, [.int v_words, .int v_passages, .int v_wordsInPassage, .int o_rows, .ref a_letters, .ref a_passageOf, .ref a_cues, .ref a_rowOf, .ref a_firstOfRow])), (a_letters, .inl (cI, 120, .inl v_letters)), (a_passageOf, .inl (cI, 120, .inl v_passageOf)), (a_cues, .inl (cI, 120, .inl v_cues)), (a_rowOf, .inl (cI, 120, .inl o_rowOf)), (a_firstOfRow, .inl (cI, 120, .inl o_firstOfRow))]) (va_A [(aC, .inr (0, [.int v_words, .int v_passages, .int v_wordsInPassage, .int v_rows, .ref a_letters, .ref a_passageOf, .ref a_cues, .ref a_rowOf, .ref a_firstOfRow])), (a_letters, .inl (cI, 120, .inl v_letters)), (a_passageOf, .inl (cI, 120, .inl v_passageOf)), (a_cues, .inl (cI, 120, .inl v_cues)), (a_rowOf, .inl (cI, 120, .inl v_rowOf)), (a_firstOfRow, .inl (cI, 120, .inl v_firstOfRow))] s.heap.size)) ([.ref aC, .int p1] : List Value).toArray s 0 0 (va_A [(aC, .inr (0, [.int v_words, .int v_passages, .int v_wordsInPassage, .int v_rows, .ref a_letters, .ref a_passageOf, .ref a_cues, .ref a_rowOf, .ref a_firstOfRow])), (a_letters, .inl (cI, 120, .inl v_letters)), (a_passageOf, .inl (cI, 120, .inl v_passageOf)), (a_cues, .inl (cI, 120, .inl v_cues)), (a_rowOf, .inl (cI, 120, .inl v_rowOf)), (a_firstOfRow, .inl (cI, 120, .inl v_firstOfRow))] s.heap.size) := ⟨_, rfl⟩
  rw [← hQ]
  obtain ⟨A, hAe⟩ : ∃ A, A = va_A [(aC, .inr (0, [.int v_words, .int v_passages, .int v_wordsInPassage, .int v_rows, .ref a_letters, .ref a_passageOf, .ref a_cues, .ref a_rowOf, .ref a_firstOfRow])), (a_letters, .inl (cI, 120, .inl v_letters)), (a_passageOf, .inl (cI, 120, .inl v_passageOf)), (a_cues, .inl (cI, 120, .inl v_cues)), (a_rowOf, .inl (cI, 120, .inl v_rowOf)), (a_firstOfRow, .inl (cI, 120, .inl v_firstOfRow))] s.heap.size := ⟨_, rfl⟩
  rw [← hAe] at hD
  have hA : ∀ q : Nat, s.heap.size ≤ q → A q := fun q h => by rw [hAe]; exact Or.inr h
  obtain ⟨H, hH⟩ : ∃ H, H = s.heap := ⟨_, rfl⟩
  have hS : va_S A s.heap H [] := by rw [hH]; exact va_S.rf
  rw [← hH] at hP
  rw [← hH]
  have fl21 := hts (.fieldLink RX0 21 "Teleprompter$Script" "rowOf" "[I") (by decide +kernel)
  have fl37 := hts (.fieldLink RX0 37 "Teleprompter$Script" "rows" "I") (by decide +kernel)
  have fl24 := hts (.fieldLink RX0 24 "Teleprompter$Script" "firstOfRow" "[I") (by decide +kernel)
  have fl27 := hts (.fieldLink RX0 27 "Teleprompter$Script" "words" "I") (by decide +kernel)
  have fl15 := hts (.fieldLink RX0 15 "Teleprompter$Script" "passageOf" "[I") (by decide +kernel)
  have inX0 : ∀ w ∈ u_ws RX0 TX0 9, w ∈ wsX0_lay := by decide +kernel
  have hl := lv_entry ([.ref aC, .int p1]) (n := 4) (Nat.le_of_ble_eq_true rfl)
  rw [lg_entry_eq]
  generalize (lg_sl ([.ref aC, .int p1]) ++ List.replicate (4 - (lg_sl ([.ref aC, .int p1])).length) Slot.unset).toArray = ls at hl ⊢
  have hl : lv_has ls 4 [(0, .ref aC), (1, .int p1)] := hl
  have B9 : ∀ (n_9 : Nat) (x1_9 : Int32) (x2_9 : Int32) (x3_9 : Int32) (v_rows_9 : Int32) (v_rowOf_9 : (Nat → Int32)) (v_firstOfRow_9 : (Nat → Int32)), f_X0_lay_9 v_words v_passageOf x1_9 n_9 x2_9 x3_9 v_rows_9 v_rowOf_9 v_firstOfRow_9 = some (o_rows, o_rowOf, o_firstOfRow) → ∀ (H : Heap) (locs : List Loc), va_P (dC, dI) vwCl [(aC, .inr (0, [.int v_words, .int v_passages, .int v_wordsInPassage, .int v_rows_9, .ref a_letters, .ref a_passageOf, .ref a_cues, .ref a_rowOf, .ref a_firstOfRow])), (a_letters, .inl (cI, 120, .inl v_letters)), (a_passageOf, .inl (cI, 120, .inl v_passageOf)), (a_cues, .inl (cI, 120, .inl v_cues)), (a_rowOf, .inl (cI, 120, .inl v_rowOf_9)), (a_firstOfRow, .inl (cI, 120, .inl v_firstOfRow_9))] H → va_D A [(aC, .inr (0, [.int v_words, .int v_passages, .int v_wordsInPassage, .int v_rows_9, .ref a_letters, .ref a_passageOf, .ref a_cues, .ref a_rowOf, .ref a_firstOfRow])), (a_letters, .inl (cI, 120, .inl v_letters)), (a_passageOf, .inl (cI, 120, .inl v_passageOf)), (a_cues, .inl (cI, 120, .inl v_cues)), (a_rowOf, .inl (cI, 120, .inl v_rowOf_9)), (a_firstOfRow, .inl (cI, 120, .inl v_firstOfRow_9))] → va_S A s.heap H locs → ∀ ls : Array Slot, lv_has ls 4 [(0, .ref aC), (1, .int x1_9), (2, .int x2_9), (3, .int x3_9)] → W p l e (headSpec wsX0_lay rm_X0_lay).room s m ([.ref aC, .int p1] : List Value).toArray below meth c H locs 0 0 Q (F0 m 9 ls []) := by
    intro n_9
    induction n_9 with
    | zero => intro x1_9 x2_9 x3_9 v_rows_9 v_rowOf_9 v_firstOfRow_9 hF; exact noneE hF
    | succ n_9 ih9 =>
      intro x1_9 x2_9 x3_9 v_rows_9 v_rowOf_9 v_firstOfRow_9 hF H locs hP hD hS ls hl
      have B71 : ∀ (x2_71 : Int32) (x3_71 : Int32) (v_rows_71 : Int32) (v_rowOf_71 : (Nat → Int32)) (v_firstOfRow_71 : (Nat → Int32)), f_X0_lay_71 (f_X0_lay_9 v_words v_passageOf x1_9 n_9) x2_71 x3_71 v_rows_71 v_rowOf_71 v_firstOfRow_71 = some (o_rows, o_rowOf, o_firstOfRow) → ∀ (H : Heap) (locs : List Loc), va_P (dC, dI) vwCl [(aC, .inr (0, [.int v_words, .int v_passages, .int v_wordsInPassage, .int v_rows_71, .ref a_letters, .ref a_passageOf, .ref a_cues, .ref a_rowOf, .ref a_firstOfRow])), (a_letters, .inl (cI, 120, .inl v_letters)), (a_passageOf, .inl (cI, 120, .inl v_passageOf)), (a_cues, .inl (cI, 120, .inl v_cues)), (a_rowOf, .inl (cI, 120, .inl v_rowOf_71)), (a_firstOfRow, .inl (cI, 120, .inl v_firstOfRow_71))] H → va_D A [(aC, .inr (0, [.int v_words, .int v_passages, .int v_wordsInPassage, .int v_rows_71, .ref a_letters, .ref a_passageOf, .ref a_cues, .ref a_rowOf, .ref a_firstOfRow])), (a_letters, .inl (cI, 120, .inl v_letters)), (a_passageOf, .inl (cI, 120, .inl v_passageOf)), (a_cues, .inl (cI, 120, .inl v_cues)), (a_rowOf, .inl (cI, 120, .inl v_rowOf_71)), (a_firstOfRow, .inl (cI, 120, .inl v_firstOfRow_71))] → va_S A s.heap H locs → ∀ ls : Array Slot, lv_has ls 4 [(0, .ref aC), (1, .int x1_9), (2, .int x2_71), (3, .int x3_71)] → W p l e (headSpec wsX0_lay rm_X0_lay).room s m ([.ref aC, .int p1] : List Value).toArray below meth c H locs 0 0 Q (F0 m 71 ls []) := by
        intro x2_71 x3_71 v_rows_71 v_rowOf_71 v_firstOfRow_71 hF H locs hP hD hS ls hl
        unfold f_X0_lay_71 at hF
        refine lv_aload_n hx hb dX0_lay_71 rfl (lv_at hl 0 rfl) ?_
        refine va_get (D := (dC, dI)) (ci := 0) (v := .ref a_rowOf) (C := RX0) (T := TX0) (N := 9) hx hb hts inX0 hown hK hP 0 rfl rfl 7 (by decide) fl21 (fun _ h9 => h9) rfl dX0_lay_72 ?_
        refine lv_iload_n hx hb dX0_lay_75 rfl (lv_at hl 3 rfl) ?_
        refine lv_aload_n hx hb dX0_lay_76 rfl (lv_at hl 0 rfl) ?_
        refine va_get (D := (dC, dI)) (ci := 0) (v := .int v_rows_71) (C := RX0) (T := TX0) (N := 9) hx hb hts inX0 hown hK hP 0 rfl rfl 3 (by decide) fl37 (fun _ h9 => h9) rfl dX0_lay_77 ?_
        refine lv_iconst (v := (1 : Int32)) hx hb dX0_lay_80 (by decide) ?_
        refine lv_isub hx hb dX0_lay_81 ?_
        obtain ⟨q_82, hq_82, hF⟩ := bindE hF
        have hPc := hP.sub (ws' := [(a_rowOf, .inl (cI, 120, .inl v_rowOf_71))]) [4] rfl
        have hDc := hD.sub (ws' := [(a_rowOf, .inl (cI, 120, .inl v_rowOf_71))]) [4] (by decide) rfl
        have hFc := va_free (wc := [(a_rowOf, .inl (cI, 120, .inl v_rowOf_71))]) hD hS hA [4] rfl
        refine va_callv (va_runSN (As := [.ref a_rowOf, .int x3_71, .int (v_rows_71 - (1 : Int32))]) (rest := []) ⟨hx, hb, hml, hown, hts⟩ (c_X3_put l dC dI cI cZ cO a_rowOf H.size 120 x3_71 (v_rows_71 - (1 : Int32)) v_rowOf_71 q_82 hq_82) ⟨(va_cnB 3 hts gX0_lay_X3_put_n59 rfl rfl rfl (NW_X0_59 hN) (hts (.initialized RX3) (by decide +kernel)) (by decide +kernel) ⟨Nat.le_of_ble_eq_true rfl, Nat.le_of_ble_eq_true rfl⟩), hts (.static yX3_put) (by decide +kernel), trivial⟩ ⟨fb_wr, pre_wr hPc hK hN hDc⟩ rfl rfl hl.1 rfl (lv_room (Nat.le_of_ble_eq_true rfl)) dX0_lay_82 ⟨Nat.zero_le _, Nat.zero_le _⟩) hS (fun q _ h => hFc q h) hFc (fun _ t H1 locs ht hvm hw hB hz1 hk1 hS => ?_)
        obtain ⟨hP1, hD1⟩ := hB
        rw [ht] at hP1
        obtain ⟨hP, hD⟩ := va_join (wr := [(aC, .inr (0, [.int v_words, .int v_passages, .int v_wordsInPassage, .int v_rows_71, .ref a_letters, .ref a_passageOf, .ref a_cues, .ref a_rowOf, .ref a_firstOfRow])), (a_letters, .inl (cI, 120, .inl v_letters)), (a_passageOf, .inl (cI, 120, .inl v_passageOf)), (a_cues, .inl (cI, 120, .inl v_cues)), (a_firstOfRow, .inl (cI, 120, .inl v_firstOfRow_71))]) (w1 := [(a_rowOf, .inl (cI, 120, .inl q_82))]) hP hD [4] [0, 1, 2, 3, 5] rfl rfl (by decide) (by decide) hk1 hFc hP1 hD1
        generalize H1 = H at hP hS ⊢
        have hP : va_P (dC, dI) vwCl [(aC, .inr (0, [.int v_words, .int v_passages, .int v_wordsInPassage, .int v_rows_71, .ref a_letters, .ref a_passageOf, .ref a_cues, .ref a_rowOf, .ref a_firstOfRow])), (a_letters, .inl (cI, 120, .inl v_letters)), (a_passageOf, .inl (cI, 120, .inl v_passageOf)), (a_cues, .inl (cI, 120, .inl v_cues)), (a_firstOfRow, .inl (cI, 120, .inl v_firstOfRow_71)), (a_rowOf, .inl (cI, 120, .inl q_82))] H := hP
        have hD : va_D A [(aC, .inr (0, [.int v_words, .int v_passages, .int v_wordsInPassage, .int v_rows_71, .ref a_letters, .ref a_passageOf, .ref a_cues, .ref a_rowOf, .ref a_firstOfRow])), (a_letters, .inl (cI, 120, .inl v_letters)), (a_passageOf, .inl (cI, 120, .inl v_passageOf)), (a_cues, .inl (cI, 120, .inl v_cues)), (a_firstOfRow, .inl (cI, 120, .inl v_firstOfRow_71)), (a_rowOf, .inl (cI, 120, .inl q_82))] := hD
        refine lv_iinc (v := (x2_71 + 1)) (lv' := [(2, .int (x2_71 + 1)), (0, .ref aC), (1, .int x1_9), (3, .int x3_71)]) hx hb dX0_lay_85 hl (k := 2) rfl rfl (by decide) rfl (fun ls hl => ?_)
        refine lv_iinc (v := (x3_71 + 1)) (lv' := [(3, .int (x3_71 + 1)), (2, .int (x2_71 + 1)), (0, .ref aC), (1, .int x1_9)]) hx hb dX0_lay_88 hl (k := 3) rfl rfl (by decide) rfl (fun ls hl => ?_)
        refine lv_goto (tgt := 9) hx hb dX0_lay_91 (by decide) ?_
        exact ih9 x1_9 (x2_71 + 1) (x3_71 + 1) v_rows_71 q_82 v_firstOfRow_71 hF _ _ (hP.sub [0, 1, 2, 3, 5, 4] rfl) (hD.sub [0, 1, 2, 3, 5, 4] (by decide) rfl) hS _ (lv_sub hl [2, 3, 1, 0] rfl)
      have B47 : ∀ (x3_47 : Int32) (v_rows_47 : Int32) (v_rowOf_47 : (Nat → Int32)) (v_firstOfRow_47 : (Nat → Int32)), f_X0_lay_47 (f_X0_lay_9 v_words v_passageOf x1_9 n_9) x3_47 v_rows_47 v_rowOf_47 v_firstOfRow_47 = some (o_rows, o_rowOf, o_firstOfRow) → ∀ (H : Heap) (locs : List Loc), va_P (dC, dI) vwCl [(aC, .inr (0, [.int v_words, .int v_passages, .int v_wordsInPassage, .int v_rows_47, .ref a_letters, .ref a_passageOf, .ref a_cues, .ref a_rowOf, .ref a_firstOfRow])), (a_letters, .inl (cI, 120, .inl v_letters)), (a_passageOf, .inl (cI, 120, .inl v_passageOf)), (a_cues, .inl (cI, 120, .inl v_cues)), (a_rowOf, .inl (cI, 120, .inl v_rowOf_47)), (a_firstOfRow, .inl (cI, 120, .inl v_firstOfRow_47))] H → va_D A [(aC, .inr (0, [.int v_words, .int v_passages, .int v_wordsInPassage, .int v_rows_47, .ref a_letters, .ref a_passageOf, .ref a_cues, .ref a_rowOf, .ref a_firstOfRow])), (a_letters, .inl (cI, 120, .inl v_letters)), (a_passageOf, .inl (cI, 120, .inl v_passageOf)), (a_cues, .inl (cI, 120, .inl v_cues)), (a_rowOf, .inl (cI, 120, .inl v_rowOf_47)), (a_firstOfRow, .inl (cI, 120, .inl v_firstOfRow_47))] → va_S A s.heap H locs → ∀ ls : Array Slot, lv_has ls 4 [(0, .ref aC), (1, .int x1_9), (3, .int x3_47)] → W p l e (headSpec wsX0_lay rm_X0_lay).room s m ([.ref aC, .int p1] : List Value).toArray below meth c H locs 0 0 Q (F0 m 47 ls []) := by
        intro x3_47 v_rows_47 v_rowOf_47 v_firstOfRow_47 hF H locs hP hD hS ls hl
        unfold f_X0_lay_47 at hF
        refine lv_aload_n hx hb dX0_lay_47 rfl (lv_at hl 0 rfl) ?_
        refine va_get (D := (dC, dI)) (ci := 0) (v := .ref a_firstOfRow) (C := RX0) (T := TX0) (N := 9) hx hb hts inX0 hown hK hP 0 rfl rfl 8 (by decide) fl24 (fun _ h9 => h9) rfl dX0_lay_48 ?_
        refine lv_aload_n hx hb dX0_lay_51 rfl (lv_at hl 0 rfl) ?_
        refine va_get (D := (dC, dI)) (ci := 0) (v := .int v_rows_47) (C := RX0) (T := TX0) (N := 9) hx hb hts inX0 hown hK hP 0 rfl rfl 3 (by decide) fl37 (fun _ h9 => h9) rfl dX0_lay_52 ?_
        refine lv_iload_n hx hb dX0_lay_55 rfl (lv_at hl 2 rfl) ?_
        obtain ⟨q_56, hq_56, hF⟩ := bindE hF
        have hPc := hP.sub (ws' := [(a_firstOfRow, .inl (cI, 120, .inl v_firstOfRow_47))]) [5] rfl
        have hDc := hD.sub (ws' := [(a_firstOfRow, .inl (cI, 120, .inl v_firstOfRow_47))]) [5] (by decide) rfl
        have hFc := va_free (wc := [(a_firstOfRow, .inl (cI, 120, .inl v_firstOfRow_47))]) hD hS hA [5] rfl
        refine va_callv (va_runSN (As := [.ref a_firstOfRow, .int v_rows_47, .int x3_47]) (rest := []) ⟨hx, hb, hml, hown, hts⟩ (c_X3_put l dC dI cI cZ cO a_firstOfRow H.size 120 v_rows_47 x3_47 v_firstOfRow_47 q_56 hq_56) ⟨(va_cnB 3 hts gX0_lay_X3_put_n59 rfl rfl rfl (NW_X0_59 hN) (hts (.initialized RX3) (by decide +kernel)) (by decide +kernel) ⟨Nat.le_of_ble_eq_true rfl, Nat.le_of_ble_eq_true rfl⟩), hts (.static yX3_put) (by decide +kernel), trivial⟩ ⟨fb_wr, pre_wr hPc hK hN hDc⟩ rfl rfl hl.1 rfl (lv_room (Nat.le_of_ble_eq_true rfl)) dX0_lay_56 ⟨Nat.zero_le _, Nat.zero_le _⟩) hS (fun q _ h => hFc q h) hFc (fun _ t H1 locs ht hvm hw hB hz1 hk1 hS => ?_)
        obtain ⟨hP1, hD1⟩ := hB
        rw [ht] at hP1
        obtain ⟨hP, hD⟩ := va_join (wr := [(aC, .inr (0, [.int v_words, .int v_passages, .int v_wordsInPassage, .int v_rows_47, .ref a_letters, .ref a_passageOf, .ref a_cues, .ref a_rowOf, .ref a_firstOfRow])), (a_letters, .inl (cI, 120, .inl v_letters)), (a_passageOf, .inl (cI, 120, .inl v_passageOf)), (a_cues, .inl (cI, 120, .inl v_cues)), (a_rowOf, .inl (cI, 120, .inl v_rowOf_47))]) (w1 := [(a_firstOfRow, .inl (cI, 120, .inl q_56))]) hP hD [5] [0, 1, 2, 3, 4] rfl rfl (by decide) (by decide) hk1 hFc hP1 hD1
        generalize H1 = H at hP hS ⊢
        have hP : va_P (dC, dI) vwCl [(aC, .inr (0, [.int v_words, .int v_passages, .int v_wordsInPassage, .int v_rows_47, .ref a_letters, .ref a_passageOf, .ref a_cues, .ref a_rowOf, .ref a_firstOfRow])), (a_letters, .inl (cI, 120, .inl v_letters)), (a_passageOf, .inl (cI, 120, .inl v_passageOf)), (a_cues, .inl (cI, 120, .inl v_cues)), (a_rowOf, .inl (cI, 120, .inl v_rowOf_47)), (a_firstOfRow, .inl (cI, 120, .inl q_56))] H := hP
        have hD : va_D A [(aC, .inr (0, [.int v_words, .int v_passages, .int v_wordsInPassage, .int v_rows_47, .ref a_letters, .ref a_passageOf, .ref a_cues, .ref a_rowOf, .ref a_firstOfRow])), (a_letters, .inl (cI, 120, .inl v_letters)), (a_passageOf, .inl (cI, 120, .inl v_passageOf)), (a_cues, .inl (cI, 120, .inl v_cues)), (a_rowOf, .inl (cI, 120, .inl v_rowOf_47)), (a_firstOfRow, .inl (cI, 120, .inl q_56))] := hD
        refine lv_aload_n hx hb dX0_lay_59 rfl (lv_at hl 0 rfl) ?_
        refine lv_dup hx hb dX0_lay_60 rfl ?_
        refine va_get (D := (dC, dI)) (ci := 0) (v := .int v_rows_47) (C := RX0) (T := TX0) (N := 9) hx hb hts inX0 hown hK hP 0 rfl rfl 3 (by decide) fl37 (fun _ h9 => h9) rfl dX0_lay_61 ?_
        refine lv_iconst (v := (1 : Int32)) hx hb dX0_lay_64 (by decide) ?_
        refine lv_iadd hx hb dX0_lay_65 ?_
        refine va_put (D := (dC, dI)) (ci := 0) (v := .int (v_rows_47 + (1 : Int32))) (ty := .int) (C := RX0) (T := TX0) (N := 9) hx hb hts inX0 tyX0 tyX0_ok nmX0 hown hK hP hD hS 0 rfl rfl 3 (by decide) fl37 (fun _ h9 => h9) rfl (by decide +kernel) rfl rfl (Nat.le_of_ble_eq_true rfl) dX0_lay_66 (fun H locs hP hD hS => ?_)
        have hP : va_P (dC, dI) vwCl [(aC, .inr (0, [.int v_words, .int v_passages, .int v_wordsInPassage, .int (v_rows_47 + (1 : Int32)), .ref a_letters, .ref a_passageOf, .ref a_cues, .ref a_rowOf, .ref a_firstOfRow])), (a_letters, .inl (cI, 120, .inl v_letters)), (a_passageOf, .inl (cI, 120, .inl v_passageOf)), (a_cues, .inl (cI, 120, .inl v_cues)), (a_rowOf, .inl (cI, 120, .inl v_rowOf_47)), (a_firstOfRow, .inl (cI, 120, .inl q_56))] H := hP
        have hD : va_D A [(aC, .inr (0, [.int v_words, .int v_passages, .int v_wordsInPassage, .int (v_rows_47 + (1 : Int32)), .ref a_letters, .ref a_passageOf, .ref a_cues, .ref a_rowOf, .ref a_firstOfRow])), (a_letters, .inl (cI, 120, .inl v_letters)), (a_passageOf, .inl (cI, 120, .inl v_passageOf)), (a_cues, .inl (cI, 120, .inl v_cues)), (a_rowOf, .inl (cI, 120, .inl v_rowOf_47)), (a_firstOfRow, .inl (cI, 120, .inl q_56))] := hD
        refine lv_iconst (v := (0 : Int32)) hx hb dX0_lay_69 (by decide) ?_
        refine lv_istore_n (lv' := [(2, .int (0 : Int32)), (0, .ref aC), (1, .int x1_9), (3, .int x3_47)]) hx hb dX0_lay_70 rfl hl (by decide) rfl (fun ls hl => ?_)
        exact B71 (0 : Int32) x3_47 (v_rows_47 + (1 : Int32)) v_rowOf_47 q_56 hF _ _ hP hD hS _ (lv_sub hl [1, 2, 0, 3] rfl)
      rw [f_X0_lay_9] at hF
      refine lv_iload_n hx hb dX0_lay_9 rfl (lv_at hl 3 rfl) ?_
      refine lv_aload_n hx hb dX0_lay_10 rfl (lv_at hl 0 rfl) ?_
      refine va_get (D := (dC, dI)) (ci := 0) (v := .int v_words) (C := RX0) (T := TX0) (N := 9) hx hb hts inX0 hown hK hP 0 rfl rfl 0 (by decide) fl27 (fun _ h9 => h9) rfl dX0_lay_11 ?_
      refine lv_icmp_ge (tgt := 94) hx hb dX0_lay_14 (by decide) (fun c_14 => ?_) (fun c_14 => ?_)
      · have hF := (if_pos c_14).symm.trans hF
        have hF : some (v_rows_9, v_rowOf_9, v_firstOfRow_9) = some (o_rows, o_rowOf, o_firstOfRow) := hF
        have hP9 := hP
        have hD9 := hD
        cases hF
        subst hQ
        subst hAe
        exact W.vret hx hb hr (fun t ht hW => ⟨⟨(), rfl, trivial, ⟨by rw [ht]; exact hP9, hD9⟩⟩, hS.F ht⟩) hS.2.2 dX0_lay_94
      · have hF := (if_neg c_14).symm.trans hF
        refine lv_iload_n hx hb dX0_lay_17 rfl (lv_at hl 2 rfl) ?_
        refine lv_if_eq (tgt := 47) hx hb dX0_lay_18 (by decide) (fun c_18 => ?_) (fun c_18 => ?_)
        · have hF := (if_pos c_18).symm.trans hF
          exact B47 x3_9 v_rows_9 v_rowOf_9 v_firstOfRow_9 hF _ _ hP hD hS _ (lv_sub hl [0, 1, 3] rfl)
        · have hF := (if_neg c_18).symm.trans hF
          refine lv_iload_n hx hb dX0_lay_21 rfl (lv_at hl 2 rfl) ?_
          refine lv_iload_n hx hb dX0_lay_22 rfl (lv_at hl 1 rfl) ?_
          refine lv_icmp_ge (tgt := 47) hx hb dX0_lay_23 (by decide) (fun c_23 => ?_) (fun c_23 => ?_)
          · have hF := (if_pos c_23).symm.trans hF
            exact B47 x3_9 v_rows_9 v_rowOf_9 v_firstOfRow_9 hF _ _ hP hD hS _ (lv_sub hl [0, 1, 3] rfl)
          · have hF := (if_neg c_23).symm.trans hF
            refine lv_aload_n hx hb dX0_lay_26 rfl (lv_at hl 0 rfl) ?_
            refine va_get (D := (dC, dI)) (ci := 0) (v := .ref a_passageOf) (C := RX0) (T := TX0) (N := 9) hx hb hts inX0 hown hK hP 0 rfl rfl 5 (by decide) fl15 (fun _ h9 => h9) rfl dX0_lay_27 ?_
            refine lv_iload_n hx hb dX0_lay_30 rfl (lv_at hl 3 rfl) ?_
            obtain ⟨q_31, hq_31, hF⟩ := bindE hF
            have hPc := hP.sub (ws' := [(a_passageOf, .inl (cI, 120, .inl v_passageOf))]) [2] rfl
            refine vp_callSi (va_Run.run (va_runSN (As := [.ref a_passageOf, .int x3_9]) (rest := []) ⟨hx, hb, hml, hown, hts⟩ (c_X3_at l dC dI cI cZ cO a_passageOf 120 x3_9 v_passageOf q_31 hq_31) ⟨(va_cnB 2 hts gX0_lay_X3_at_n63 rfl rfl rfl (NW_X0_63 hN) (hts (.initialized RX3) (by decide +kernel)) (by decide +kernel) ⟨Nat.le_of_ble_eq_true rfl, Nat.le_of_ble_eq_true rfl⟩), hts (.static yX3_at) (by decide +kernel), trivial⟩ ⟨fb_rd, pre_rd hPc hK hN⟩ rfl rfl hl.1 rfl (lv_room (Nat.le_of_ble_eq_true rfl)) dX0_lay_31 ⟨Nat.zero_le _, Nat.zero_le _⟩)) (fun z_31 hz_31 => ?_)
            subst hz_31
            refine lv_aload_n hx hb dX0_lay_34 rfl (lv_at hl 0 rfl) ?_
            refine va_get (D := (dC, dI)) (ci := 0) (v := .ref a_passageOf) (C := RX0) (T := TX0) (N := 9) hx hb hts inX0 hown hK hP 0 rfl rfl 5 (by decide) fl15 (fun _ h9 => h9) rfl dX0_lay_35 ?_
            refine lv_iload_n hx hb dX0_lay_38 rfl (lv_at hl 3 rfl) ?_
            refine lv_iconst (v := (1 : Int32)) hx hb dX0_lay_39 (by decide) ?_
            refine lv_isub hx hb dX0_lay_40 ?_
            obtain ⟨q_41, hq_41, hF⟩ := bindE hF
            have hPc := hP.sub (ws' := [(a_passageOf, .inl (cI, 120, .inl v_passageOf))]) [2] rfl
            refine vp_callSi (va_Run.run (va_runSN (As := [.ref a_passageOf, .int (x3_9 - (1 : Int32))]) (rest := [.int q_31]) ⟨hx, hb, hml, hown, hts⟩ (c_X3_at l dC dI cI cZ cO a_passageOf 120 (x3_9 - (1 : Int32)) v_passageOf q_41 hq_41) ⟨(va_cnB 2 hts gX0_lay_X3_at_n63 rfl rfl rfl (NW_X0_63 hN) (hts (.initialized RX3) (by decide +kernel)) (by decide +kernel) ⟨Nat.le_of_ble_eq_true rfl, Nat.le_of_ble_eq_true rfl⟩), hts (.static yX3_at) (by decide +kernel), trivial⟩ ⟨fb_rd, pre_rd hPc hK hN⟩ rfl rfl hl.1 rfl (lv_room (Nat.le_of_ble_eq_true rfl)) dX0_lay_41 ⟨Nat.zero_le _, Nat.zero_le _⟩)) (fun z_41 hz_41 => ?_)
            subst hz_41
            refine lv_icmp_eq (tgt := 71) hx hb dX0_lay_44 (by decide) (fun c_44 => ?_) (fun c_44 => ?_)
            · have hF := (if_pos c_44).symm.trans hF
              exact B71 x2_9 x3_9 v_rows_9 v_rowOf_9 v_firstOfRow_9 hF _ _ hP hD hS _ (lv_sub hl [0, 1, 2, 3] rfl)
            · have hF := (if_neg c_44).symm.trans hF
              exact B47 x3_9 v_rows_9 v_rowOf_9 v_firstOfRow_9 hF _ _ hP hD hS _ (lv_sub hl [0, 1, 3] rfl)
  unfold f_X0_lay at hF
  refine lv_iconst (v := (0 : Int32)) hx hb dX0_lay_0 (by decide) ?_
  refine lv_istore_n (lv' := [(2, .int (0 : Int32)), (0, .ref aC), (1, .int p1)]) hx hb dX0_lay_1 rfl hl (by decide) rfl (fun ls hl => ?_)
  refine lv_aload_n hx hb dX0_lay_2 rfl (lv_at hl 1 rfl) ?_
  refine lv_iconst (v := (0 : Int32)) hx hb dX0_lay_3 (by decide) ?_
  refine va_put (D := (dC, dI)) (ci := 0) (v := .int (0 : Int32)) (ty := .int) (C := RX0) (T := TX0) (N := 9) hx hb hts inX0 tyX0 tyX0_ok nmX0 hown hK hP hD hS 0 rfl rfl 3 (by decide) fl37 (fun _ h9 => h9) rfl (by decide +kernel) rfl rfl (Nat.le_of_ble_eq_true rfl) dX0_lay_4 (fun H locs hP hD hS => ?_)
  have hP : va_P (dC, dI) vwCl [(aC, .inr (0, [.int v_words, .int v_passages, .int v_wordsInPassage, .int (0 : Int32), .ref a_letters, .ref a_passageOf, .ref a_cues, .ref a_rowOf, .ref a_firstOfRow])), (a_letters, .inl (cI, 120, .inl v_letters)), (a_passageOf, .inl (cI, 120, .inl v_passageOf)), (a_cues, .inl (cI, 120, .inl v_cues)), (a_rowOf, .inl (cI, 120, .inl v_rowOf)), (a_firstOfRow, .inl (cI, 120, .inl v_firstOfRow))] H := hP
  have hD : va_D A [(aC, .inr (0, [.int v_words, .int v_passages, .int v_wordsInPassage, .int (0 : Int32), .ref a_letters, .ref a_passageOf, .ref a_cues, .ref a_rowOf, .ref a_firstOfRow])), (a_letters, .inl (cI, 120, .inl v_letters)), (a_passageOf, .inl (cI, 120, .inl v_passageOf)), (a_cues, .inl (cI, 120, .inl v_cues)), (a_rowOf, .inl (cI, 120, .inl v_rowOf)), (a_firstOfRow, .inl (cI, 120, .inl v_firstOfRow))] := hD
  refine lv_iconst (v := (0 : Int32)) hx hb dX0_lay_7 (by decide) ?_
  refine lv_istore_n (lv' := [(3, .int (0 : Int32)), (2, .int (0 : Int32)), (0, .ref aC), (1, .int p1)]) hx hb dX0_lay_8 rfl hl (by decide) rfl (fun ls hl => ?_)
  exact B9 gas p1 (0 : Int32) (0 : Int32) (0 : Int32) v_rowOf v_firstOfRow hF _ _ hP hD hS _ (lv_sub hl [2, 3, 1, 0] rfl)
end
section
theorem zz_last : True := trivial
end
